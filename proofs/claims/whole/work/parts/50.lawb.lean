/-! rows for the law's body -/
section GLAW
/-- the script: n ints xs at b, out of the cells that may change -/
def gS (X : gX) (b n : Nat) (xs : Nat → Int32) : Prop := match X with
  | (_, _, _, s, _, _, _, _, _, _, A, _) => va_X b n xs s s.heap ∧ b < s.heap.size ∧ ¬ A b
section LROWS
variable {E : gE} {cL : ClassId} {X : gX} {cc : ByteArray} {own : String} {Ts : List Cond} {ret : Option FieldType} {rm : Room} {n0 : Nat} {hh : List (Nat × Nat × Nat × Nat)} {cells slots pc : Nat} {L L' : List (Nat × Value)} {st : List Value} {ws ws' : va_W}
theorem h_bipush (F : gW E X cc own Ts ret rm n0 hh) {n : Int} {v : Int32} (hdg : decode cc pc = .ok (.bipush n, 2)) (hv : (Int8.ofInt n).toInt32 = v) (k : G E X cells slots (pc + 2) L (.int v :: st) ws) : G E X cells slots pc L (st) ws := by
  obtain ⟨p, e, R, s, m, args, below, meth, c, Q, A, nL⟩ := X
  obtain ⟨⟨hx, hb, hml, hown, hts⟩, hr, hlk, hK, hA, hR, hn0, hT⟩ := F
  intro H locs ls hP hD hS hl
  exact lv_bipush hx hb hdg hv (k H locs ls hP hD hS hl)
theorem h_isub (F : gW E X cc own Ts ret rm n0 hh) {x y : Int32} (hdg : decode cc pc = .ok (.isub, 1))  (k : G E X cells slots (pc + 1) L (.int (x - y) :: st) ws) : G E X cells slots pc L (.int y :: .int x :: st) ws := by
  obtain ⟨p, e, R, s, m, args, below, meth, c, Q, A, nL⟩ := X
  obtain ⟨⟨hx, hb, hml, hown, hts⟩, hr, hlk, hK, hA, hR, hn0, hT⟩ := F
  intro H locs ls hP hD hS hl
  exact lv_isub hx hb hdg (k H locs ls hP hD hS hl)
theorem h_iand (F : gW E X cc own Ts ret rm n0 hh) {x y : Int32} (hdg : decode cc pc = .ok (.iand, 1))  (k : G E X cells slots (pc + 1) L (.int (x &&& y) :: st) ws) : G E X cells slots pc L (.int y :: .int x :: st) ws := by
  obtain ⟨p, e, R, s, m, args, below, meth, c, Q, A, nL⟩ := X
  obtain ⟨⟨hx, hb, hml, hown, hts⟩, hr, hlk, hK, hA, hR, hn0, hT⟩ := F
  intro H locs ls hP hD hS hl
  exact lv_iand hx hb hdg (k H locs ls hP hD hS hl)
theorem h_iadd (F : gW E X cc own Ts ret rm n0 hh) {x y : Int32} (hdg : decode cc pc = .ok (.iadd, 1))  (k : G E X cells slots (pc + 1) L (.int (x + y) :: st) ws) : G E X cells slots pc L (.int y :: .int x :: st) ws := by
  obtain ⟨p, e, R, s, m, args, below, meth, c, Q, A, nL⟩ := X
  obtain ⟨⟨hx, hb, hml, hown, hts⟩, hr, hlk, hK, hA, hR, hn0, hT⟩ := F
  intro H locs ls hP hD hS hl
  exact lv_iadd hx hb hdg (k H locs ls hP hD hS hl)
theorem h_istore (F : gW E X cc own Ts ret rm n0 hh) {i : Nat} {x : Int32} (hdg : decode cc pc = .ok (.istore i, 2)) (hn : i < n0) (is : List Nat) (hl2 : lv_pick ((i, .int x) :: L.filter (fun q => !(q.1 == i) && !(q.1 + 1 == i && q.2.category == 2))) is = L') (k : G E X cells slots (pc + 2) L' st ws) : G E X cells slots pc L (.int x :: st) ws := by
  obtain ⟨p, e, R, s, m, args, below, meth, c, Q, A, nL⟩ := X
  obtain ⟨⟨hx, hb, hml, hown, hts⟩, hr, hlk, hK, hA, hR, hn0, hT⟩ := F
  intro H locs ls hP hD hS hl
  exact lv_istore hx hb hdg hl (by rw [hn0]; exact hn) rfl (fun ls2 hl3 => k H locs ls2 hP hD hS (lv_sub hl3 is hl2))
theorem h_istore_n (F : gW E X cc own Ts ret rm n0 hh) {k : Fin 4} {i : Nat} {x : Int32} (hdg : decode cc pc = .ok (.istore_n k, 1)) (hi : (k : Nat) = i) (hn : i < n0) (is : List Nat) (hl2 : lv_pick ((i, .int x) :: L.filter (fun q => !(q.1 == i) && !(q.1 + 1 == i && q.2.category == 2))) is = L') (k : G E X cells slots (pc + 1) L' st ws) : G E X cells slots pc L (.int x :: st) ws := by
  obtain ⟨p, e, R, s, m, args, below, meth, c, Q, A, nL⟩ := X
  obtain ⟨⟨hx, hb, hml, hown, hts⟩, hr, hlk, hK, hA, hR, hn0, hT⟩ := F
  intro H locs ls hP hD hS hl
  exact lv_istore_n hx hb hdg hi hl (by rw [hn0]; exact hn) rfl (fun ls2 hl3 => k H locs ls2 hP hD hS (lv_sub hl3 is hl2))
theorem h_iinc (F : gW E X cc own Ts ret rm n0 hh) {i : Nat} {n : Int} {x v : Int32} (hdg : decode cc pc = .ok (.iinc i n, 3)) (j : Nat) (hj : L[j]? = some (i, .int x)) (hv : x + Int32.ofInt n = v) (hn : i < n0) (is : List Nat) (hl2 : lv_pick ((i, .int v) :: L.filter (fun q => !(q.1 == i) && !(q.1 + 1 == i && q.2.category == 2))) is = L') (k : G E X cells slots (pc + 3) L' st ws) : G E X cells slots pc L st ws := by
  obtain ⟨p, e, R, s, m, args, below, meth, c, Q, A, nL⟩ := X
  obtain ⟨⟨hx, hb, hml, hown, hts⟩, hr, hlk, hK, hA, hR, hn0, hT⟩ := F
  intro H locs ls hP hD hS hl
  exact lv_iinc hx hb hdg hl hj hv (by rw [hn0]; exact hn) rfl (fun ls2 hl3 => k H locs ls2 hP hD hS (lv_sub hl3 is hl2))
theorem h_lcmp (F : gW E X cc own Ts ret rm n0 hh) {x y : Int64} (hdg : decode cc pc = .ok (.lcmp, 1))  (k : G E X cells slots (pc + 1) L (.int (lg_cmp x y) :: st) ws) : G E X cells slots pc L (.long y :: .long x :: st) ws := by
  obtain ⟨p, e, R, s, m, args, below, meth, c, Q, A, nL⟩ := X
  obtain ⟨⟨hx, hb, hml, hown, hts⟩, hr, hlk, hK, hA, hR, hn0, hT⟩ := F
  intro H locs ls hP hD hS hl
  exact W.lcmp hx hb hdg (k H locs ls hP hD hS hl)
theorem h_dload (F : gW E X cc own Ts ret rm n0 hh) {i : Nat} {x : UInt64} (hdg : decode cc pc = .ok (.dload i, 2)) (j : Nat) (hj : L[j]? = some (i, .double x)) (k : G E X cells slots (pc + 2) L (.double x :: st) ws) : G E X cells slots pc L (st) ws := by
  obtain ⟨p, e, R, s, m, args, below, meth, c, Q, A, nL⟩ := X
  obtain ⟨⟨hx, hb, hml, hown, hts⟩, hr, hlk, hK, hA, hR, hn0, hT⟩ := F
  intro H locs ls hP hD hS hl
  exact lv_dload hx hb hdg (lv_at hl j hj) (k H locs ls hP hD hS hl)
theorem h_dstore (F : gW E X cc own Ts ret rm n0 hh) {i : Nat} {x : UInt64} (hdg : decode cc pc = .ok (.dstore i, 2)) (hn : i + 1 < n0) (is : List Nat) (hl2 : lv_pick ((i, .double x) :: L.filter (fun q => !(q.1 == i) && (!(q.1 == i + 1) && !(q.1 + 1 == i && q.2.category == 2)))) is = L') (k : G E X cells slots (pc + 2) L' st ws) : G E X cells slots pc L (.double x :: st) ws := by
  obtain ⟨p, e, R, s, m, args, below, meth, c, Q, A, nL⟩ := X
  obtain ⟨⟨hx, hb, hml, hown, hts⟩, hr, hlk, hK, hA, hR, hn0, hT⟩ := F
  intro H locs ls hP hD hS hl
  exact lv_dstore hx hb hdg hl (by rw [hn0]; exact hn) rfl (fun ls2 hl3 => k H locs ls2 hP hD hS (lv_sub hl3 is hl2))
theorem h_swIn (F : gW E X cc own Ts ret rm n0 hh) {dflt lo hi : Int} {offs : Array Int} {len : Nat} {x : Int32} {off : Int} {tgt : Nat} (hdg : decode cc pc = .ok (.tableswitch dflt lo hi offs, len)) (h1 : ¬ x.toInt < lo) (h2 : ¬ hi < x.toInt) (ho : offs[(x.toInt - lo).toNat]? = some off) (ht : (pc : Int) + off = (tgt : Int)) (kk : G E X cells slots tgt L st ws) : G E X cells slots pc L (.int x :: st) ws := by
  obtain ⟨p, e, R, s, m, args, below, meth, c, Q, A, nL⟩ := X
  obtain ⟨⟨hx, hb, hml, hown, hts⟩, hr, hlk, hK, hA, hR, hn0, hT⟩ := F
  intro H locs ls hP hD hS hl
  exact lv_tableIn hx hb hdg h1 h2 ho ht (kk H locs ls hP hD hS hl)
theorem h_swOut (F : gW E X cc own Ts ret rm n0 hh) {dflt lo hi : Int} {offs : Array Int} {len : Nat} {x : Int32} {tgt : Nat} (hdg : decode cc pc = .ok (.tableswitch dflt lo hi offs, len)) (h : x.toInt < lo ∨ hi < x.toInt) (ht : (pc : Int) + dflt = (tgt : Int)) (kk : G E X cells slots tgt L st ws) : G E X cells slots pc L (.int x :: st) ws := by
  obtain ⟨p, e, R, s, m, args, below, meth, c, Q, A, nL⟩ := X
  obtain ⟨⟨hx, hb, hml, hown, hts⟩, hr, hlk, hK, hA, hR, hn0, hT⟩ := F
  intro H locs ls hP hD hS hl
  exact lv_tableOut hx hb hdg h ht (kk H locs ls hP hD hS hl)
theorem h_if_eq (F : gW E X cc own Ts ret rm n0 hh) {x : Int32} {off : Int} {tgt : Nat} (hdg : decode cc pc = .ok (.ifCond .eq off, 3)) (ht : (pc : Int) + off = (tgt : Int)) (kt : x = 0 → G E X cells slots tgt L st ws) (kf : ¬ (x = 0) → G E X cells slots (pc + 3) L st ws) : G E X cells slots pc L (.int x :: st) ws := by
  obtain ⟨p, e, R, s, m, args, below, meth, c, Q, A, nL⟩ := X
  obtain ⟨⟨hx, hb, hml, hown, hts⟩, hr, hlk, hK, hA, hR, hn0, hT⟩ := F
  intro H locs ls hP hD hS hl
  exact lv_if_eq hx hb hdg ht (fun h => kt (by first | exact h | simpa using h) H locs ls hP hD hS hl) (fun h => kf (by first | exact h | simpa using h) H locs ls hP hD hS hl)
theorem h_if_eq_t (F : gW E X cc own Ts ret rm n0 hh) {x : Int32} {off : Int} {tgt : Nat} (hdg : decode cc pc = .ok (.ifCond .eq off, 3)) (ht : (pc : Int) + off = (tgt : Int)) (h : x = 0) (kt : G E X cells slots tgt L st ws) : G E X cells slots pc L (.int x :: st) ws := h_if_eq F hdg ht (fun _ => kt) (fun q => absurd h q)
theorem h_if_eq_f (F : gW E X cc own Ts ret rm n0 hh) {x : Int32} {off : Int} {tgt : Nat} (hdg : decode cc pc = .ok (.ifCond .eq off, 3)) (ht : (pc : Int) + off = (tgt : Int)) (h : ¬ (x = 0)) (kf : G E X cells slots (pc + 3) L st ws) : G E X cells slots pc L (.int x :: st) ws := h_if_eq F hdg ht (fun q => absurd q h) (fun _ => kf)
theorem h_if_ne (F : gW E X cc own Ts ret rm n0 hh) {x : Int32} {off : Int} {tgt : Nat} (hdg : decode cc pc = .ok (.ifCond .ne off, 3)) (ht : (pc : Int) + off = (tgt : Int)) (kt : ¬ x = 0 → G E X cells slots tgt L st ws) (kf : ¬ (¬ x = 0) → G E X cells slots (pc + 3) L st ws) : G E X cells slots pc L (.int x :: st) ws := by
  obtain ⟨p, e, R, s, m, args, below, meth, c, Q, A, nL⟩ := X
  obtain ⟨⟨hx, hb, hml, hown, hts⟩, hr, hlk, hK, hA, hR, hn0, hT⟩ := F
  intro H locs ls hP hD hS hl
  exact lv_if_ne hx hb hdg ht (fun h => kt (by first | exact h | simpa using h) H locs ls hP hD hS hl) (fun h => kf (by first | exact h | simpa using h) H locs ls hP hD hS hl)
theorem h_if_ne_t (F : gW E X cc own Ts ret rm n0 hh) {x : Int32} {off : Int} {tgt : Nat} (hdg : decode cc pc = .ok (.ifCond .ne off, 3)) (ht : (pc : Int) + off = (tgt : Int)) (h : ¬ x = 0) (kt : G E X cells slots tgt L st ws) : G E X cells slots pc L (.int x :: st) ws := h_if_ne F hdg ht (fun _ => kt) (fun q => absurd h q)
theorem h_if_ne_f (F : gW E X cc own Ts ret rm n0 hh) {x : Int32} {off : Int} {tgt : Nat} (hdg : decode cc pc = .ok (.ifCond .ne off, 3)) (ht : (pc : Int) + off = (tgt : Int)) (h : ¬ (¬ x = 0)) (kf : G E X cells slots (pc + 3) L st ws) : G E X cells slots pc L (.int x :: st) ws := h_if_ne F hdg ht (fun q => absurd q h) (fun _ => kf)
theorem h_icmp_eq (F : gW E X cc own Ts ret rm n0 hh) {x y : Int32} {off : Int} {tgt : Nat} (hdg : decode cc pc = .ok (.if_icmp .eq off, 3)) (ht : (pc : Int) + off = (tgt : Int)) (kt : x = y → G E X cells slots tgt L st ws) (kf : ¬ (x = y) → G E X cells slots (pc + 3) L st ws) : G E X cells slots pc L (.int y :: .int x :: st) ws := by
  obtain ⟨p, e, R, s, m, args, below, meth, c, Q, A, nL⟩ := X
  obtain ⟨⟨hx, hb, hml, hown, hts⟩, hr, hlk, hK, hA, hR, hn0, hT⟩ := F
  intro H locs ls hP hD hS hl
  exact lv_icmp_eq hx hb hdg ht (fun h => kt (by first | exact h | simpa using h) H locs ls hP hD hS hl) (fun h => kf (by first | exact h | simpa using h) H locs ls hP hD hS hl)
theorem h_icmp_eq_t (F : gW E X cc own Ts ret rm n0 hh) {x y : Int32} {off : Int} {tgt : Nat} (hdg : decode cc pc = .ok (.if_icmp .eq off, 3)) (ht : (pc : Int) + off = (tgt : Int)) (h : x = y) (kt : G E X cells slots tgt L st ws) : G E X cells slots pc L (.int y :: .int x :: st) ws := h_icmp_eq F hdg ht (fun _ => kt) (fun q => absurd h q)
theorem h_icmp_eq_f (F : gW E X cc own Ts ret rm n0 hh) {x y : Int32} {off : Int} {tgt : Nat} (hdg : decode cc pc = .ok (.if_icmp .eq off, 3)) (ht : (pc : Int) + off = (tgt : Int)) (h : ¬ (x = y)) (kf : G E X cells slots (pc + 3) L st ws) : G E X cells slots pc L (.int y :: .int x :: st) ws := h_icmp_eq F hdg ht (fun q => absurd q h) (fun _ => kf)
theorem h_icmp_gt (F : gW E X cc own Ts ret rm n0 hh) {x y : Int32} {off : Int} {tgt : Nat} (hdg : decode cc pc = .ok (.if_icmp .gt off, 3)) (ht : (pc : Int) + off = (tgt : Int)) (kt : y < x → G E X cells slots tgt L st ws) (kf : ¬ (y < x) → G E X cells slots (pc + 3) L st ws) : G E X cells slots pc L (.int y :: .int x :: st) ws := by
  obtain ⟨p, e, R, s, m, args, below, meth, c, Q, A, nL⟩ := X
  obtain ⟨⟨hx, hb, hml, hown, hts⟩, hr, hlk, hK, hA, hR, hn0, hT⟩ := F
  intro H locs ls hP hD hS hl
  exact lv_icmp_gt hx hb hdg ht (fun h => kt (by first | exact h | simpa using h) H locs ls hP hD hS hl) (fun h => kf (by first | exact h | simpa using h) H locs ls hP hD hS hl)
theorem h_icmp_gt_t (F : gW E X cc own Ts ret rm n0 hh) {x y : Int32} {off : Int} {tgt : Nat} (hdg : decode cc pc = .ok (.if_icmp .gt off, 3)) (ht : (pc : Int) + off = (tgt : Int)) (h : y < x) (kt : G E X cells slots tgt L st ws) : G E X cells slots pc L (.int y :: .int x :: st) ws := h_icmp_gt F hdg ht (fun _ => kt) (fun q => absurd h q)
theorem h_icmp_gt_f (F : gW E X cc own Ts ret rm n0 hh) {x y : Int32} {off : Int} {tgt : Nat} (hdg : decode cc pc = .ok (.if_icmp .gt off, 3)) (ht : (pc : Int) + off = (tgt : Int)) (h : ¬ (y < x)) (kf : G E X cells slots (pc + 3) L st ws) : G E X cells slots pc L (.int y :: .int x :: st) ws := h_icmp_gt F hdg ht (fun q => absurd q h) (fun _ => kf)
theorem h_new (F : gW E X cc own Ts ret rm n0 hh) {index ci N : Nat} {C : String} {T : u_T} {fs : List Value} (hdg : decode cc pc = .ok (.new index, 3)) (hin : ∀ w ∈ u_ws C T N, w ∈ Ts) (ty : Nat → FieldType) (hty : ∀ k, k < N → parseFieldDescriptor (T k).2.2.1 = some (ty k)) (hcl : Cond.classLink own index C ∈ Ts) (hinst : Cond.instantiable C N ∈ Ts) (hini : Cond.initialized C ∈ Ts) (hc : vwCl[ci]? = some (C, T, N)) (hfs : ∀ j, j < N → defaultValue (ty j) = vp_V fs j) (hcells : cells + 1 ≤ rm.cells) (hslots : slots + N ≤ rm.slots)
    (kk : ∀ q : Nat, G E X (cells + 1) (slots + N) (pc + 3) L (.ref q :: st) (ws ++ [(q, .inr (ci, fs))])) : G E X cells slots pc L st ws := by
  obtain ⟨p, e, R, s, m, args, below, meth, c, Q, A, nL⟩ := X
  obtain ⟨⟨hx, hb, hml, hown, hts⟩, hr, hlk, hK, hA, hR, hn0, hT⟩ := F
  subst hR
  intro H locs ls hP hD hS hl
  exact va_new hx hb hts hin ty hty hown (hts _ hcl) (hts _ hinst) (hts _ hini) hK.1 hP hD hS hA hc hfs hcells hslots hdg (fun q H1 hP1 hD1 hS1 => kk q H1 locs ls hP1 hD1 hS1 hl)
theorem h_callI (F : gW E X cc own Ts ret rm n0 hh) {y : MethodName} {wds wds' : List Cond} {rmY : Room} {b q0 : Nat} {e0 : va_E} {wsR : va_W} {isR : List Nat} {N : (Nat → Nat) → va_W} {bytes : ByteArray} {maxL index : Nat} {rest : List Value}
    (hdg : decode cc pc = .ok (.invokespecial index, 3)) (hM : CtI E y wds rmY b e0 N) (hw : wds = .code y bytes maxL none :: wds') (hG : GoodIn Ts wds) (h2 : Cond.initialized y.cls ∈ Ts) (hinst : Cond.instanceMethod y ∈ Ts) (hlink : Cond.methodLink own index y ∈ Ts) (hyn : y.name = "<init>")
    (hd : y.cls ≠ "java/lang/invoke/MethodHandle" ∧ y.cls ≠ "java/lang/invoke/VarHandle" ∧ (parseMethodDescriptor y.desc).map (fun d => d.parameters.length) = some 0) (hRm : gRm rm rmY maxL) (hC : (q0 :: isR).map (fun i => ws[i]?) = ((b, e0) :: wsR).map some) (hn : va_nd (q0 :: isR) = true) (hst : st = .ref b :: rest) (hroom : (rest.map fun v => v.category).sum ≤ 8) (hcs : cells + rmY.cells ≤ rm.cells ∧ slots + rmY.slots ≤ rm.slots)
    (kk : ∀ n : Nat → Nat, G E X (cells + rmY.cells) (slots + rmY.slots) (pc + 3) L rest (wsR ++ N n)) : G E X cells slots pc L st ws := by
  obtain ⟨p, e, R, s, m, args, below, meth, c, Q, A, nL⟩ := X
  obtain ⟨⟨hx, hb, hml, hown, hts⟩, hr, hlk, hK, hA, hR, hn0, hT⟩ := F
  subst hR; subst hst
  intro H locs ls hP hD hS hl
  have hq0 : [q0].map (fun i => ws[i]?) = [(b, e0)].map some := by
    simp only [List.map_cons, List.map_nil, List.cons.injEq] at hC ⊢
    exact ⟨hC.1, trivial⟩
  have hP0 : va_P E.2.1 vwCl [(b, e0)] H := hP.sub [q0] (by
    have h1 : [q0].filterMap (fun i => ws[i]?) = ([q0].map (fun i => ws[i]?)).filterMap id := by rw [List.filterMap_map]; rfl
    rw [h1, hq0, List.filterMap_map]; exact List.filterMap_some)
  have hD0 : va_D (fun _ => True) [(b, e0)] := (hD.sub [q0] (by rfl) hq0).weaken (fun _ _ _ _ => trivial)
  exact g_backI hA hP hD hS hl hC hn (va_runI (As := []) (rest := rest) ⟨hx, hb, hml, hown, hts⟩ (hM H.size) (cwI 0 hts hG hw rfl rfl (hts _ h2) (hts _ hlink) (hts _ hinst) hyn hd hRm) ⟨gPre.blind, fun U hU hW => ⟨rfl, by rw [hU], by rw [hU]; exact hP0, gK.warm hW hK, hD0⟩⟩ rfl rfl hl.1 rfl (lv_room hroom) hdg hcs) kk

theorem h_sld (F : gW E X cc own Ts ret rm n0 hh) {b n : Nat} {xs : Nat → Int32} (S : gS X b n xs) {i : Int32} (hdg : decode cc pc = .ok (.iaload, 1)) (hin : vp_in i n) (kk : G E X cells slots (pc + 1) L (.int (xs i.toNatClampNeg) :: st) ws) : G E X cells slots pc L (.int i :: .ref b :: st) ws := by
  obtain ⟨p, e, R, s, m, args, below, meth, c, Q, A, nL⟩ := X
  obtain ⟨⟨hx, hb, hml, hown, hts⟩, hr, hlk, hK, hA, hR, hn0, hT⟩ := F
  intro H locs ls hP hD hS hl
  exact va_sld hx hb S.1 S.2.1 S.2.2 hS hin hdg (kk H locs ls hP hD hS hl)
theorem h_slen (F : gW E X cc own Ts ret rm n0 hh) {b n : Nat} {xs : Nat → Int32} (S : gS X b n xs) (hdg : decode cc pc = .ok (.arraylength, 1)) (kk : G E X cells slots (pc + 1) L (.int (nI n) :: st) ws) : G E X cells slots pc L (.ref b :: st) ws := by
  obtain ⟨p, e, R, s, m, args, below, meth, c, Q, A, nL⟩ := X
  obtain ⟨⟨hx, hb, hml, hown, hts⟩, hr, hlk, hK, hA, hR, hn0, hT⟩ := F
  intro H locs ls hP hD hS hl
  exact va_slen hx hb S.1 S.2.1 S.2.2 hS hdg (kk H locs ls hP hD hS hl)
theorem h_dcmp (F : gW E X cc own Ts ret rm n0 hh) {x y : UInt64} {op : CmpOp} (hdg : decode cc pc = .ok (.dcmp op, 1)) (kk : G E X cells slots (pc + 1) L (.int (Op.cmpValue (FP.dcmp x y) op) :: st) ws) : G E X cells slots pc L (.double y :: .double x :: st) ws := by
  obtain ⟨p, e, R, s, m, args, below, meth, c, Q, A, nL⟩ := X
  obtain ⟨⟨hx, hb, hml, hown, hts⟩, hr, hlk, hK, hA, hR, hn0, hT⟩ := F
  intro H locs ls hP hD hS hl
  exact lv_dcmp hx hb hdg (kk H locs ls hP hD hS hl)
theorem h_lald (F : gW E X cc own Ts ret rm n0 hh) (Z : gTW E cL X) {a n : Nat} {f : Nat → Int64} {i : Int32} (hdg : decode cc pc = .ok (.laload, 1)) (q0 : Nat) (ha : ws[q0]? = some (a, .inl (cL, n, .inr (.inl f)))) (hin : vp_in i n) (kk : G E X cells slots (pc + 1) L (.long (f i.toNatClampNeg) :: st) ws) : G E X cells slots pc L (.int i :: .ref a :: st) ws := by
  obtain ⟨p, e, R, s, m, args, below, meth, c, Q, A, nL⟩ := X
  obtain ⟨⟨hx, hb, hml, hown, hts⟩, hr, hlk, hK, hA, hR, hn0, hT⟩ := F
  intro H locs ls hP hD hS hl
  exact va_lald hx hb Z.1.2.1 hP q0 0 ha rfl hin hdg (kk H locs ls hP hD hS hl)
theorem h_newl (F : gW E X cc own Ts ret rm n0 hh) (Z : gTW E cL X) {n : Int32} {N' : Nat} (hdg : decode cc pc = .ok (.newarray .long, 2)) (h : Cond.arrayClass .long ∈ Ts) (hn : ¬ n < 0) (hN : n.toNatClampNeg = N') (hbytes : N' * 8 ≤ 536870912) (hcells : cells + 1 ≤ rm.cells) (hslots : slots + N' ≤ rm.slots) (kk : ∀ q : Nat, G E X (cells + 1) (slots + N') (pc + 2) L (.ref q :: st) (ws ++ [(q, .inl (cL, N', .inr (.inl (fun _ => 0))))])) : G E X cells slots pc L (.int n :: st) ws := by
  obtain ⟨p, e, R, s, m, args, below, meth, c, Q, A, nL⟩ := X
  obtain ⟨⟨hx, hb, hml, hown, hts⟩, hr, hlk, hK, hA, hR, hn0, hT⟩ := F
  subst hR
  intro H locs ls hP hD hS hl
  refine va_newa (atype := .long) (ty := .long) (a0 := (N', .inr (.inl (fun _ => 0)))) hx hb (hts _ h) rfl hK.1 hP hD hS hA (fun cA => rfl) hn hN hbytes hcells hslots hdg (fun q cA H1 hK1 hP1 hD1 hS1 => ?_)
  have e1 : s.vm.findClass ("[" ++ FieldType.long.toString) = some cL := (Z.1.2.1.2 0 (cL, .long) rfl).2
  have e2 : s.vm.findClass ("[" ++ FieldType.long.toString) = some cA := (hK1.2 1 (cA, .long) rfl).2
  have e3 : cA = cL := Option.some.inj (e2.symm.trans e1)
  subst e3
  exact kk q H1 locs ls hP1 hD1 hS1 hl
/-- a static call of a method with a table of its own -/
theorem h_callW (F : gW E X cc own Ts ret rm n0 hh) (Z : gTW E cL X) {y : MethodName} {wds wds' : List Cond} {rmY : Room} {As : List Value} {W W' : va_W} {ov : Option Value} {bytes : ByteArray} {maxL index : Nat} {rety : Option FieldType} {hhY : List (Nat × Nat × Nat × Nat)} {rest : List Value}
    (hdg : decode cc pc = .ok (.invokestatic index, 3)) (hM : CtW E cL y wds rmY As W ov W') (hw : wds = .codeWith y bytes maxL rety hhY :: wds') (hG : GoodIn Ts (va_wsS own index y wds))
    (hd : y.cls ≠ "java/lang/invoke/MethodHandle" ∧ y.cls ≠ "java/lang/invoke/VarHandle" ∧ (parseMethodDescriptor y.desc).map (fun d => d.parameters.length) = some As.length) (hRm : gRm rm rmY maxL) (isC : List Nat) (hC : isC.map (fun i => ws[i]?) = W.map some) (hn : va_nd isC = true) (hset : wput ws isC W' = ws') (hst : st = As.reverse ++ rest) (hroom : (rest.map fun v => v.category).sum ≤ 8) (hcs : cells + rmY.cells ≤ rm.cells ∧ slots + rmY.slots ≤ rm.slots)
    (kk : G E X (cells + rmY.cells) (slots + rmY.slots) (pc + 3) L (ov.toList ++ rest) ws') : G E X cells slots pc L st ws := by
  obtain ⟨p, e, R, s, m, args, below, meth, c, Q, A, nL⟩ := X
  obtain ⟨⟨hx, hb, hml, hown, hts⟩, hr, hlk, hK, hA, hR, hn0, hT⟩ := F
  subst hR; subst hst
  intro H locs ls hP hD hS hl
  have hr2 := vx_runSX (e := e) (As := As) (rest := rest) (cells := cells) (slots := slots) (locs := locs) (below := below) (meth := meth) (g := F0 m pc ls (As.reverse ++ rest)) ⟨hx, hb, hml, hown, hts⟩ (hM.2 H.size) (vx_cwSW As.length hts hG hw rfl rfl hd hRm) ⟨gPreW.blind, fun U hU hW => ⟨rfl, ⟨by rw [hU], by rw [hU]; exact hP.sub isC (by
    have h1 : isC.filterMap (fun i => ws[i]?) = (isC.map (fun i => ws[i]?)).filterMap id := by rw [List.filterMap_map]; rfl
    rw [h1, hC, List.filterMap_map]; exact List.filterMap_some), gK.warm hW hK, (hD.sub isC hn hC).weaken (fun _ _ _ _ => trivial)⟩, gWT.warm hW Z.1, gZ.at hU hW hS (va_free (wc := W) hD hS hA isC hC) Z.2⟩⟩ rfl rfl hl.1 rfl (lv_room hroom) hdg hcs
  refine g_back (a := As.toArray) (rmY := rmY) (V := W) (V' := W') (rest := rest) hA hM.1 hP hD hS hl hC hn hset (fun T0 hT0 X0 => ?_) kk
  rcases hr2 T0 hT0 X0 with h | ⟨q9, st₀, t, T', Lc, E9, ce, -, -, -, -, -, hf, -⟩
  · exact h
  · exact hf.elim
end LROWS
end GLAW
