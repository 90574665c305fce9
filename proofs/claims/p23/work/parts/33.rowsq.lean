/-! rows for arrays of arrays, booleans, copies; contracts that leave a world of their own -/
section GROWQ
/-- an int[][] of h rows; one whose row j is at r j -/
abbrev qF (E : gE) (h : Nat) (f : Nat → Option Nat) : va_E := .inl (E.2.1.1 100, h, .inr (.inr (.inr (.inr f))))
abbrev qE (E : gE) (h : Nat) (r : Nat → Nat) : va_E := .inl (E.2.1.1 100, h, .inr (.inr (.inr (.inr (fun j => some (r j))))))
/-- h int rows, the row y at r y, of n y numbers c y -/
def gW (E : gE) (r : Nat → Nat) (n : Nat → Nat) (c : Nat → AF) (h : Nat) : va_W := (List.range h).map (fun y => (r y, .inl (E.2.2, n y, .inl (c y))))
theorem gW_len {E : gE} {r n : Nat → Nat} {c : Nat → AF} {h : Nat} : (gW E r n c h).length = h := by simp [gW]
theorem gW_at {E : gE} {r n : Nat → Nat} {c : Nat → AF} {h y : Nat} (hy : y < h) : (gW E r n c h)[y]? = some (r y, .inl (E.2.2, n y, .inl (c y))) := by
  unfold gW
  rw [List.getElem?_map, List.getElem?_range hy]
  rfl
theorem gW_set {E : gE} {r n : Nat → Nat} {c : Nat → AF} {h y : Nat} {x : AF} : (gW E r n c h).set y (r y, .inl (E.2.2, n y, .inl x)) = gW E r n (va_up c y x) h := by
  apply List.ext_getElem?
  intro j
  by_cases hj : j < h
  · rw [gW_at hj]
    by_cases e : j = y
    · subst e
      rw [List.getElem?_set_self (by rw [gW_len]; exact hj), va_up_self]
    · rw [List.getElem?_set_ne (Ne.symm e), gW_at hj, va_up_ne _ _ e]
  · rw [List.getElem?_eq_none (by rw [List.length_set, gW_len]; omega), List.getElem?_eq_none (by rw [gW_len]; omega)]
theorem seg_at {E : gE} {r n : Nat → Nat} {c : Nat → AF} {h y : Nat} {A B : va_W} (hy : y < h) : (A ++ (gW E r n c h ++ B))[A.length + y]? = some (r y, .inl (E.2.2, n y, .inl (c y))) := by
  rw [List.getElem?_append_right (by omega), List.getElem?_append_left (by rw [gW_len]; omega), Nat.add_sub_cancel_left, gW_at hy]
theorem seg_set {E : gE} {r n : Nat → Nat} {c : Nat → AF} {h y : Nat} {x : AF} {A B : va_W} (hy : y < h) : (A ++ (gW E r n c h ++ B)).set (A.length + y) (r y, .inl (E.2.2, n y, .inl x)) = A ++ (gW E r n (va_up c y x) h ++ B) := by
  rw [List.set_append_right _ _ (by omega), Nat.add_sub_cancel_left, List.set_append_left _ _ (by rw [gW_len]; omega), gW_set]
theorem qF_congr {cA : ClassId} {n : Nat} {f g : Nat → Option Nat} (h : ∀ j, j < n → f j = g j) : vp_cell cA (n, .inr (.inr (.inr (.inr f)))) = vp_cell cA (n, .inr (.inr (.inr (.inr g)))) := by
  rw [vp_cell_q, vp_cell_q]
  unfold arrV
  congr 2
  funext j
  exact congrArg _ (h j.val j.isLt)
theorem iF_congr {cA : ClassId} {n : Nat} {f g : Nat → Int32} (h : ∀ j, j < n → f j = g j) : vp_cell cA (n, .inl f) = vp_cell cA (n, .inl g) := by
  rw [vp_cell_i, vp_cell_i]
  unfold arrV
  congr 2
  funext j
  exact congrArg _ (h j.val j.isLt)
theorem str_int : (FieldType.array .int).toString = "[" ++ FieldType.int.toString := by decide +kernel
theorem str_I : (FieldType.array .int).toString = "[I" := by decide +kernel
theorem str_II : "[" ++ (FieldType.array .int).toString = "[[I" := by decide +kernel
section QROWS
variable {E : gE} {X : gX} {cc : ByteArray} {own : String} {Ts : List Cond} {ret : Option FieldType} {rm : Room} {n0 : Nat} {cells slots pc : Nat} {L L' : List (Nat × Value)} {st : List Value} {ws ws' : va_W}
/-- a cell under another name -/
theorem g_re (q0 : Nat) {a : Nat} {x x' : va_E} (ha : ws[q0]? = some (a, x)) (hx : ∀ (D : va_G) (H : Heap), va_at D vwCl (a, x) H → va_at D vwCl (a, x') H) (hw : ws.set q0 (a, x') = ws') (k : G E X cells slots pc L st ws') : G E X cells slots pc L st ws := by
  subst hw
  obtain ⟨p, e, R, s, m, args, below, meth, c, Q, A, nL⟩ := X
  intro H locs ls hP hD hS hl
  exact k H locs ls (hP.set hD ha (hx _ _ (hP q0 _ ha)) (fun _ _ => rfl)) (hD.set ha) hS hl
theorem g_rei (q0 : Nat) {a n : Nat} {f g : Nat → Int32} {cA : ClassId} (ha : ws[q0]? = some (a, .inl (cA, n, .inl f))) (h : ∀ j, j < n → f j = g j) (hw : ws.set q0 (a, .inl (cA, n, .inl g)) = ws') (k : G E X cells slots pc L st ws') : G E X cells slots pc L st ws :=
  g_re q0 ha (fun D H h1 => by
    have h1 : H[a]? = some (vp_cell cA (n, .inl f)) := h1
    show H[a]? = some (vp_cell cA (n, .inl g))
    rw [h1, iF_congr h]) hw k
theorem g_req (q0 : Nat) {a n : Nat} {f g : Nat → Option Nat} {cA : ClassId} (ha : ws[q0]? = some (a, .inl (cA, n, .inr (.inr (.inr (.inr f)))))) (h : ∀ j, j < n → f j = g j) (hw : ws.set q0 (a, .inl (cA, n, .inr (.inr (.inr (.inr g))))) = ws') (k : G E X cells slots pc L st ws') : G E X cells slots pc L st ws :=
  g_re q0 ha (fun D H h1 => by
    have h1 : H[a]? = some (vp_cell cA (n, .inr (.inr (.inr (.inr f))))) := h1
    show H[a]? = some (vp_cell cA (n, .inr (.inr (.inr (.inr g)))))
    rw [h1, qF_congr h]) hw k
/-- the world in another order, or less of it -/
theorem g_by (g : Nat → Nat) (hg : ∀ (k : Nat) (q : Nat × va_E), ws'[k]? = some q → ws[g k]? = some q) (hi : ∀ i j : Nat, i < ws'.length → j < ws'.length → g i = g j → i = j) (k : G E X cells slots pc L st ws') : G E X cells slots pc L st ws := by
  obtain ⟨p, e, R, s, m, args, below, meth, c, Q, A, nL⟩ := X
  intro H locs ls hP hD hS hl
  exact k H locs ls (hP.by g hg) (hD.by g hg hi) hS hl
theorem g_swap {A B : va_W} (k : G E X cells slots pc L st (B ++ A)) : G E X cells slots pc L st (A ++ B) := by
  obtain ⟨p, e, R, s, m, args, below, meth, c, Q, A', nL⟩ := X
  intro H locs ls hP hD hS hl
  refine g_by (X := (p, e, R, s, m, args, below, meth, c, Q, A', nL)) (fun i => if i < B.length then A.length + i else i - B.length) (fun k q hk => ?_) (fun i j hi hj h => ?_) k H locs ls hP hD hS hl
  · by_cases hlt : k < B.length
    · rw [List.getElem?_append_left hlt] at hk
      simp only [hlt, if_true]
      rw [List.getElem?_append_right (by omega), Nat.add_sub_cancel_left]
      exact hk
    · rw [List.getElem?_append_right (by omega)] at hk
      simp only [hlt, if_false]
      have := (List.getElem?_eq_some_iff.mp hk).1
      rw [List.getElem?_append_left this]
      exact hk
  · simp only [List.length_append] at hi hj
    by_cases h1 : i < B.length <;> by_cases h2 : j < B.length <;> simp only [h1, h2, if_true, if_false] at h <;> omega
theorem g_drop {A B : va_W} (k : G E X cells slots pc L st A) : G E X cells slots pc L st (A ++ B) := by
  refine g_by (fun i => i) (fun k q hk => ?_) (fun i j _ _ h => h) k
  have := (List.getElem?_eq_some_iff.mp hk).1
  rw [List.getElem?_append_left this]
  exact hk
theorem g_null (F : gF E X cc own Ts ret rm n0) (hdg : decode cc pc = .ok (.aconst_null, 1)) (k : G E X cells slots (pc + 1) L (.null :: st) ws) : G E X cells slots pc L st ws := by
  obtain ⟨p, e, R, s, m, args, below, meth, c, Q, A, nL⟩ := X
  obtain ⟨⟨hx, hb, hml, hown, hts⟩, hr, hlk, hK, hA, hR, hn0, hT⟩ := F
  intro H locs ls hP hD hS hl
  exact lv_null hx hb hdg (k H locs ls hP hD hS hl)
theorem g_ifnn (F : gF E X cc own Ts ret rm n0) {x : Nat} {off : Int} {tgt : Nat} (hdg : decode cc pc = .ok (.ifnonnull off, 3)) (ht : (pc : Int) + off = (tgt : Int)) (k : G E X cells slots tgt L st ws) : G E X cells slots pc L (.ref x :: st) ws := by
  obtain ⟨p, e, R, s, m, args, below, meth, c, Q, A, nL⟩ := X
  obtain ⟨⟨hx, hb, hml, hown, hts⟩, hr, hlk, hK, hA, hR, hn0, hT⟩ := F
  intro H locs ls hP hD hS hl
  exact lv_ifnonnull hx hb hdg ht (k H locs ls hP hD hS hl)
theorem g_ishr (F : gF E X cc own Ts ret rm n0) {x y : Int32} (hdg : decode cc pc = .ok (.ishr, 1)) (k : G E X cells slots (pc + 1) L (.int (x >>> (y &&& 31)) :: st) ws) : G E X cells slots pc L (.int y :: .int x :: st) ws := by
  obtain ⟨p, e, R, s, m, args, below, meth, c, Q, A, nL⟩ := X
  obtain ⟨⟨hx, hb, hml, hown, hts⟩, hr, hlk, hK, hA, hR, hn0, hT⟩ := F
  intro H locs ls hP hD hS hl
  exact lv_ishr hx hb hdg (k H locs ls hP hD hS hl)
theorem g_dcmp (F : gF E X cc own Ts ret rm n0) {x y : UInt64} {op : CmpOp} (hdg : decode cc pc = .ok (.dcmp op, 1)) (k : G E X cells slots (pc + 1) L (.int (Op.cmpValue (FP.dcmp x y) op) :: st) ws) : G E X cells slots pc L (.double y :: .double x :: st) ws := by
  obtain ⟨p, e, R, s, m, args, below, meth, c, Q, A, nL⟩ := X
  obtain ⟨⟨hx, hb, hml, hown, hts⟩, hr, hlk, hK, hA, hR, hn0, hT⟩ := F
  intro H locs ls hP hD hS hl
  exact lv_dcmp hx hb hdg (k H locs ls hP hD hS hl)
theorem g_ldc (F : gF E X cc own Ts ret rm n0) {index : Nat} {v : Int32} (hdg : decode cc pc = .ok (.ldc index, 2)) (hc : Cond.constant own index v ∈ Ts) (k : G E X cells slots (pc + 2) L (.int v :: st) ws) : G E X cells slots pc L st ws := by
  obtain ⟨p, e, R, s, m, args, below, meth, c, Q, A, nL⟩ := X
  obtain ⟨⟨hx, hb, hml, hown, hts⟩, hr, hlk, hK, hA, hR, hn0, hT⟩ := F
  intro H locs ls hP hD hS hl
  exact lv_ldc hx hb hown (hts _ hc) hdg (k H locs ls hP hD hS hl)
/-- a length, of an int row, of an int[][], of a boolean row -/
theorem g_alenx (F : gF E X cc own Ts ret rm n0) {a : Nat} {cA : ClassId} {x : vp_A} {ty : FieldType} {v : Int32} (hdg : decode cc pc = .ok (.arraylength, 1)) (q0 t0 : Nat) (ha : ws[q0]? = some (a, .inl (cA, x))) (ht : [(E.2.2, FieldType.int), (E.2.1.1 100, .array .int), (E.2.1.1 101, .boolean)][t0]? = some (cA, ty)) (hv : nI x.1 = v) (kk : G E X cells slots (pc + 1) L (.int v :: st) ws) : G E X cells slots pc L (.ref a :: st) ws := by
  obtain ⟨p, e, R, s, m, args, below, meth, c, Q, A, nL⟩ := X
  obtain ⟨⟨hx, hb, hml, hown, hts⟩, hr, hlk, hK, hA, hR, hn0, hT⟩ := F
  intro H locs ls hP hD hS hl
  exact va_alen hx hb hK.1 hP q0 t0 ha ht hv hdg (kk H locs ls hP hD hS hl)
theorem g_aald (F : gF E X cc own Ts ret rm n0) {a h k b : Nat} {f : Nat → Option Nat} (hdg : decode cc pc = .ok (.aaload, 1)) (q0 : Nat) (ha : ws[q0]? = some (a, qF E h f)) (hk : k < h) (hh : h < 2147483648) (hf : f k = some b) (kk : G E X cells slots (pc + 1) L (.ref b :: st) ws) : G E X cells slots pc L (.int (nI k) :: .ref a :: st) ws := by
  obtain ⟨p, e, R, s, m, args, below, meth, c, Q, A, nL⟩ := X
  obtain ⟨⟨hx, hb, hml, hown, hts⟩, hr, hlk, hK, hA, hR, hn0, hT⟩ := F
  intro H locs ls hP hD hS hl
  have hin : vp_in (nI k) h := vp_in_nI hk hh
  have hc : (nI k).toNatClampNeg = k := nI_clamp (show k < 2 ^ 31 by omega)
  refine W.aald (v := .ref b) (ty := .array .int) hx hb (hP q0 _ ha) ((hK.1.2 1 (E.2.1.1 100, .array .int) rfl).1 h (fun j => va_rf (f j))) rfl (fun q => by cases q) (by show ¬ (nI k < 0 ∨ (arrV _ _ _).slots.size ≤ _); rw [arrV_size]; exact hin) ?_ rfl rfl hdg (kk H locs ls hP hD hS hl)
  show (arrV _ _ _).slots[_]? = _
  rw [hc, arrV_read _ _ hk, hf]
  rfl
theorem g_aast (F : gF E X cc own Ts ret rm n0) {a h k v n : Nat} {f : Nat → Option Nat} {g : Nat → Int32} (hdg : decode cc pc = .ok (.aastore, 1)) (q0 qk : Nat) (ha : ws[q0]? = some (a, qF E h f)) (hv : ws[qk]? = some (v, .inl (E.2.2, n, .inl g))) (hk : k < h) (hh : h < 2147483648) (hw : ws.set q0 (a, qF E h (va_up f k (some v))) = ws') (kk : G E X cells slots (pc + 1) L st ws') : G E X cells slots pc L (.ref v :: .int (nI k) :: .ref a :: st) ws := by
  subst hw
  obtain ⟨p, e, R, s, m, args, below, meth, c, Q, A, nL⟩ := X
  obtain ⟨⟨hx, hb, hml, hown, hts⟩, hr, hlk, hK, hA, hR, hn0, hT⟩ := F
  intro H locs ls hP hD hS hl
  have hc : (nI k).toNatClampNeg = k := nI_clamp (show k < 2 ^ 31 by omega)
  obtain ⟨comp, c', kA, f1, -, f2, f3, f4⟩ := arrayOverA_spec (va_AOA.use (A := #[]) hK.2.2.1)
  have e1 : s.vm.findClass ("[" ++ (FieldType.array .int).toString) = some (E.2.1.1 100) := (hK.1.2 1 (E.2.1.1 100, .array .int) rfl).2
  have e2 : s.vm.findClass ("[" ++ FieldType.int.toString) = some E.2.2 := (hK.1.2 0 (E.2.2, .int) rfl).2
  rw [← str_int] at e2
  cases Option.some.inj (f4.symm.trans e1)
  cases Option.some.inj (f1.symm.trans e2)
  obtain ⟨kC, hkC, -⟩ := Vm.findClass_spec e2
  refine W.aast hx hb (hP q0 _ ha) (fun q h => by cases h) (fun h => by cases h) f2 f3 rfl hkC ⟨nI_pos (show k < 2 ^ 31 by omega), by show _ < (arrV _ _ _).slots.size; rw [arrV_size, hc]; exact hk⟩ (hP qk _ hv) (fun q h => by cases h) hkC (va_asg _ _) rfl rfl hdg fun H1 e z oq => ?_
  refine kk H1 _ ls (hP.set hD ha ?_ oq) (hD.set ha) (hS.put z oq (hD.2 q0 _ ha)) hl
  show H1[a]? = some (vp_cell _ _)
  rw [e, vp_cell_q, vp_cell_q, arrV_store, hc]
  congr 2
  funext q
  by_cases hq : q = k
  · subst hq
    simp [updV, va_up, va_rf]
  · simp [updV, va_up, hq]
theorem g_anew (F : gF E X cc own Ts ret rm n0) {index : Nat} {n : Int32} {N' : Nat} (hdg : decode cc pc = .ok (.anewarray index, 3)) (hcl : Cond.classLink own index "[I" ∈ Ts) (hn : ¬ n < 0) (hN : n.toNatClampNeg = N') (hbytes : N' * 4 ≤ 536870912) (hcells : cells + 1 ≤ rm.cells) (hslots : slots + N' ≤ rm.slots) (kk : ∀ q : Nat, G E X (cells + 1) (slots + N') (pc + 3) L (.ref q :: st) (ws ++ [(q, qF E N' (fun _ => none))])) : G E X cells slots pc L (.int n :: st) ws := by
  obtain ⟨p, e, R, s, m, args, below, meth, c, Q, A, nL⟩ := X
  obtain ⟨⟨hx, hb, hml, hown, hts⟩, hr, hlk, hK, hA, hR, hn0, hT⟩ := F
  subst hR; subst hN
  intro H locs ls hP hD hS hl
  refine W.anewA (t := .int) hx hb hown (by rw [str_I]; exact hts _ hcl) (va_AOA.use hK.2.2.1) rfl hdg rfl hn hbytes hcells hslots fun cA kA comp f1 f2 f3 f4 => ?_
  have e1 : s.vm.findClass ("[" ++ (FieldType.array .int).toString) = some (E.2.1.1 100) := (hK.1.2 1 (E.2.1.1 100, .array .int) rfl).2
  cases Option.some.inj (f1.symm.trans e1)
  generalize hH1 : H.push ({ cls := E.2.1.1 100, slots := Array.replicate n.toNatClampNeg .null, vm := .none } : Cell) = H1
  have z1 : H1.size = H.size + 1 := by rw [← hH1, Array.size_push]
  have e1 : H1[H.size]? = some (arrV (E.2.1.1 100) n.toNatClampNeg (fun _ => .null)) := by rw [← hH1, Array.getElem?_push_size, ← arrV_new]
  have o1 : ∀ q : Nat, q < H.size → H1[q]? = H[q]? := fun q hq => by rw [← hH1, Array.getElem?_push, if_neg (Nat.ne_of_lt hq)]
  have hk : ∀ (k : Nat) (x : Nat × va_E), ws[k]? = some x → H1[x.1]? = H[x.1]? := fun k x hx => o1 x.1 ((hP k x hx).lt)
  refine kk H.size H1 locs ls ((hP.kept hk).app (fun k x hx => ?_)) (hD.push hP rfl (hA _ hS.1)) ⟨Nat.le_trans hS.1 (by omega), fun x h1 h2 => (o1 x (Nat.lt_of_lt_of_le h1 hS.1)).trans (hS.2.1 x h1 h2), hS.2.2⟩ hl
  have hz : k < 1 := (List.getElem?_eq_some_iff.mp hx).1
  rw [show k = 0 by omega] at hx
  cases hx
  show H1[H.size]? = some (vp_cell _ _)
  rw [vp_cell_q]
  exact e1
theorem g_mna (F : gF E X cc own Ts ret rm n0) {index : Nat} {n k : Int32} {N' K' : Nat} (hdg : decode cc pc = .ok (.multianewarray index 2, 4)) (hcl : Cond.classLink own index "[[I" ∈ Ts) (harr : Cond.arrayClass .int ∈ Ts) (hn : ¬ n < 0) (hk : ¬ k < 0) (hN : n.toNatClampNeg = N') (hM : k.toNatClampNeg = K') (hb1 : N' * 4 ≤ 536870912) (hb2 : K' * 4 ≤ 536870912) (hcells : cells + (1 + N') ≤ rm.cells) (hslots : slots + (N' + N' * K') ≤ rm.slots)
    (kk : ∀ (q : Nat) (r : Nat → Nat), G E X (cells + 1 + N') (slots + N' + N' * K') (pc + 4) L (.ref q :: st) ((ws ++ [(q, qE E N' r)]) ++ gW E r (fun _ => K') (fun _ _ => 0) N')) : G E X cells slots pc L (.int k :: .int n :: st) ws := by
  obtain ⟨p, e, R, s, m, args, below, meth, c, Q, A, nL⟩ := X
  have F' := F
  obtain ⟨⟨hx, hb, hml, hown, hts⟩, hr, hlk, hK, hA, hR, hn0, hT⟩ := F
  subst hR
  intro H locs ls hP hD hS hl
  have e1 : s.vm.findClass ("[" ++ (FieldType.array .int).toString) = some (E.2.1.1 100) := (hK.1.2 1 (E.2.1.1 100, .array .int) rfl).2
  have e2 : s.vm.findClass ("[" ++ FieldType.int.toString) = some E.2.2 := (hK.1.2 0 (E.2.2, .int) rfl).2
  refine va_mna (X := ws) (L := []) (f := fun _ => .inr (0, [])) (ty := .int) (z := (K', .inl (fun _ => 0))) (cy := E.2.2) hx hb hown (by rw [str_II]; exact hts _ hcl) hK.2.2.1 (hts _ harr) (by rw [str_int]; exact e2) hK.1 (by show va_P _ _ (ws ++ []) H; rw [List.append_nil]; exact hP) (by show va_D _ (ws ++ []); rw [List.append_nil]; exact hD) hS hA hn hk hN hM hb1 hb2 (by omega) rfl rfl hcells hslots (fun c9 => ?_) hdg (fun q r cA H1 _ _ hK1 hP1 hD1 hS1 => ?_)
  · show ({ cls := c9, slots := Array.replicate K' (.int 0), vm := .none } : Cell) = vp_cell c9 (K', .inl (fun _ => 0))
    rw [vp_cell_i, arrV_new]
  · have e3 : s.vm.findClass ("[" ++ (FieldType.array .int).toString) = some cA := (hK1.2 3 (cA, .array .int) rfl).2
    cases Option.some.inj (e1.symm.trans e3)
    have er : va_pl ([] ++ (List.range N').map r) (vr_up (fun _ => (.inr (0, []) : va_E)) ((List.range N').map r) (.inl (E.2.2, K', .inl (fun _ => 0)))) = gW E r (fun _ => K') (fun _ _ => 0) N' := by
      unfold va_pl gW
      rw [List.nil_append, List.map_map]
      apply List.map_congr_left
      intro y hy
      show (r y, vr_up _ _ _ (r y)) = _
      rw [vr_up_in (List.mem_map_of_mem hy)]
    rw [er] at hP1 hD1
    have hq : ((ws ++ [(q, qF E N' (fun i => if i < N' then some (r i) else none))]) ++ gW E r (fun _ => K') (fun _ _ => 0) N')[ws.length]? = some (q, qF E N' (fun i => if i < N' then some (r i) else none)) := by
      rw [List.getElem?_append_left (by simp), List.getElem?_append_right (Nat.le_refl _)]
      simp
    refine g_req (E := E) (X := (p, e, R, s, m, args, below, meth, c, Q, A, nL)) (g := fun j => some (r j)) ws.length hq (fun j hj => by rw [if_pos hj]) ?_ (kk q r) H1 locs ls hP1 hD1 hS1 hl
    rw [List.set_append_left _ _ (by simp), List.set_append_right _ _ (Nat.le_refl _)]
    simp
theorem g_newz (F : gF E X cc own Ts ret rm n0) {n : Int32} {N' : Nat} (hdg : decode cc pc = .ok (.newarray .boolean, 2)) (h : Cond.arrayClass .boolean ∈ Ts) (hn : ¬ n < 0) (hN : n.toNatClampNeg = N') (hbytes : N' * 1 ≤ 536870912) (hcells : cells + 1 ≤ rm.cells) (hslots : slots + N' ≤ rm.slots) (kk : ∀ q : Nat, G E X (cells + 1) (slots + N') (pc + 2) L (.ref q :: st) (ws ++ [(q, .inl (E.2.1.1 101, N', .inl (fun _ => 0)))])) : G E X cells slots pc L (.int n :: st) ws := by
  obtain ⟨p, e, R, s, m, args, below, meth, c, Q, A, nL⟩ := X
  obtain ⟨⟨hx, hb, hml, hown, hts⟩, hr, hlk, hK, hA, hR, hn0, hT⟩ := F
  subst hR
  intro H locs ls hP hD hS hl
  refine va_newa (atype := .boolean) (ty := .boolean) (a0 := (N', .inl (fun _ => 0))) hx hb (hts _ h) rfl hK.1 hP hD hS hA (fun cA => rfl) hn hN hbytes hcells hslots hdg (fun q cA H1 hK1 hP1 hD1 hS1 => ?_)
  have e1 : s.vm.findClass ("[" ++ FieldType.boolean.toString) = some (E.2.1.1 101) := (hK1.2 2 (E.2.1.1 101, .boolean) rfl).2
  have e2 : s.vm.findClass ("[" ++ FieldType.boolean.toString) = some cA := (hK1.2 3 (cA, .boolean) rfl).2
  have e3 : cA = E.2.1.1 101 := Option.some.inj (e2.symm.trans e1)
  subst e3
  exact kk q H1 locs ls hP1 hD1 hS1 hl
theorem g_zald (F : gF E X cc own Ts ret rm n0) {a n k : Nat} {f : Nat → Int32} (hdg : decode cc pc = .ok (.baload, 1)) (q0 : Nat) (ha : ws[q0]? = some (a, .inl (E.2.1.1 101, n, .inl f))) (hk : k < n) (hn : n < 2147483648) (kk : G E X cells slots (pc + 1) L (.int (f k) :: st) ws) : G E X cells slots pc L (.int (nI k) :: .ref a :: st) ws := by
  obtain ⟨p, e, R, s, m, args, below, meth, c, Q, A, nL⟩ := X
  obtain ⟨⟨hx, hb, hml, hown, hts⟩, hr, hlk, hK, hA, hR, hn0, hT⟩ := F
  intro H locs ls hP hD hS hl
  refine va_zald hx hb hK.1 hP q0 2 ha rfl (vp_in_nI hk hn) hdg ?_
  rw [nI_clamp (show k < 2 ^ 31 by omega)]
  exact kk H locs ls hP hD hS hl
theorem g_zast (F : gF E X cc own Ts ret rm n0) {a n k : Nat} {f : Nat → Int32} (hdg : decode cc pc = .ok (.bastore, 1)) (q0 : Nat) (ha : ws[q0]? = some (a, .inl (E.2.1.1 101, n, .inl f))) (hk : k < n) (hn : n < 2147483648) (hw : ws.set q0 (a, .inl (E.2.1.1 101, n, .inl (upd f k 1))) = ws') (kk : G E X cells slots (pc + 1) L st ws') : G E X cells slots pc L (.int 1 :: .int (nI k) :: .ref a :: st) ws := by
  subst hw
  obtain ⟨p, e, R, s, m, args, below, meth, c, Q, A, nL⟩ := X
  obtain ⟨⟨hx, hb, hml, hown, hts⟩, hr, hlk, hK, hA, hR, hn0, hT⟩ := F
  intro H locs ls hP hD hS hl
  refine va_zast hx hb hK.1 hP hD hS q0 2 ha rfl (vp_in_nI hk hn) hdg (fun H1 locs1 hP1 hD1 hS1 => ?_)
  rw [nI_clamp (show k < 2 ^ 31 by omega)] at hP1 hD1
  exact kk H1 locs1 ls hP1 hD1 hS1 hl
theorem g_clone (F : gF E X cc own Ts ret rm n0) {index a n : Nat} {f : Nat → Int32} (hdg : decode cc pc = .ok (.invokevirtual index, 3)) (h1 : Cond.methodLink own index ⟨"[I", "clone", "()Ljava/lang/Object;"⟩ ∈ Ts) (h2 : Cond.sameMethod "[I" "java/lang/Object" "clone" "()Ljava/lang/Object;" ∈ Ts) (h3 : Cond.native ⟨"java/lang/Object", "clone", "()Ljava/lang/Object;"⟩ ∈ Ts) (h4 : Cond.instanceMethod ⟨"java/lang/Object", "clone", "()Ljava/lang/Object;"⟩ ∈ Ts) (h5 : Cond.selects "[I" ⟨"[I", "clone", "()Ljava/lang/Object;"⟩ ⟨"java/lang/Object", "clone", "()Ljava/lang/Object;"⟩ ∈ Ts) (q0 : Nat) (ha : ws[q0]? = some (a, .inl (E.2.2, n, .inl f))) (hfr : 1 ≤ rm.frames) (hlo : (st.map fun v => v.category).sum + 14 ≤ rm.locals) (hcells : cells + 1 ≤ rm.cells) (hslots : slots + n ≤ rm.slots)
    (kk : ∀ q : Nat, G E X (cells + 1) (slots + n) (pc + 3) L (.ref q :: st) (ws ++ [(q, .inl (E.2.2, n, .inl f))])) : G E X cells slots pc L (.ref a :: st) ws := by
  obtain ⟨p, e, R, s, m, args, below, meth, c, Q, A, nL⟩ := X
  obtain ⟨⟨hx, hb, hml, hown, hts⟩, hr, hlk, hK, hA, hR, hn0, hT⟩ := F
  subst hR
  intro H locs ls hP hD hS hl
  refine va_clone (ad := "[I") (ty := .int) hx hb (hml.trans hl.1.symm) hown (hts _ h1) (hts _ h2) (hts _ h3) (hts _ h4) (hts _ h5) hK.2.2.2 hK.1 hP hD hS hA q0 0 ha rfl (va_nm_int (hK.1.2 0 (E.2.2, .int) rfl).2) (va_fit (F := fun j => .int (f j)) (fun _ _ => rfl)) hfr hlo hcells hslots hdg (fun q H1 _ hP1 hD1 hS1 => kk q H1 locs ls hP1 hD1 hS1 hl)
theorem g_castI (F : gF E X cc own Ts ret rm n0) {index a : Nat} {x : vp_A} (hdg : decode cc pc = .ok (.checkcast index, 3)) (h1 : Cond.classLink own index "[I" ∈ Ts) (q0 : Nat) (ha : ws[q0]? = some (a, .inl (E.2.2, x))) (kk : G E X cells slots (pc + 3) L (.ref a :: st) ws) : G E X cells slots pc L (.ref a :: st) ws := by
  obtain ⟨p, e, R, s, m, args, below, meth, c, Q, A, nL⟩ := X
  obtain ⟨⟨hx, hb, hml, hown, hts⟩, hr, hlk, hK, hA, hR, hn0, hT⟩ := F
  intro H locs ls hP hD hS hl
  exact va_castA hx hb hown (hts _ h1) hP q0 ha (va_nm_int (hK.1.2 0 (E.2.2, .int) rfl).2) hdg (kk H locs ls hP hD hS hl)
/-- rows of a grid -/
theorem g_ialdG0 (F : gF E X cc own Ts ret rm n0) {r n : Nat → Nat} {c : Nat → AF} {h y k : Nat} {A B : va_W} (hdg : decode cc pc = .ok (.iaload, 1)) (hw : ws = A ++ (gW E r n c h ++ B)) (hy : y < h) (hk : k < n y) (hn : n y < 2147483648) (kk : G E X cells slots (pc + 1) L (.int (c y k) :: st) ws) : G E X cells slots pc L (.int (nI k) :: .ref (r y) :: st) ws := by
  have hw2 : ws = (A) ++ (gW E r n c h ++ B) := hw
  exact g_ialdN F hdg (((A) : va_W).length + y) (by rw [hw2]; exact seg_at hy) hk hn kk
theorem g_iastG0 (F : gF E X cc own Ts ret rm n0) {r n : Nat → Nat} {c : Nat → AF} {h y k : Nat} {x : Int32} {A B : va_W} (hdg : decode cc pc = .ok (.iastore, 1)) (hw : ws = A ++ (gW E r n c h ++ B)) (hy : y < h) (hk : k < n y) (hn : n y < 2147483648) (kk : G E X cells slots (pc + 1) L st (A ++ (gW E r n (va_up c y (upd (c y) k x)) h ++ B))) : G E X cells slots pc L (.int x :: .int (nI k) :: .ref (r y) :: st) ws := by
  have hw2 : ws = (A) ++ (gW E r n c h ++ B) := hw
  refine g_iastN F hdg (((A) : va_W).length + y) (by rw [hw2]; exact seg_at hy) hk hn (ws' := A ++ (gW E r n (va_up c y (upd (c y) k x)) h ++ B)) (by rw [hw2, seg_set hy]) kk
theorem g_alenG0 (F : gF E X cc own Ts ret rm n0) {r n : Nat → Nat} {c : Nat → AF} {h y : Nat} {A B : va_W} (hdg : decode cc pc = .ok (.arraylength, 1)) (hw : ws = A ++ (gW E r n c h ++ B)) (hy : y < h) (kk : G E X cells slots (pc + 1) L (.int (nI (n y)) :: st) ws) : G E X cells slots pc L (.ref (r y) :: st) ws := by
  have hw2 : ws = (A) ++ (gW E r n c h ++ B) := hw
  exact g_alenx F hdg (((A) : va_W).length + y) 0 (by rw [hw2]; exact seg_at hy) rfl rfl kk
theorem g_ialdG1 (F : gF E X cc own Ts ret rm n0) {r n : Nat → Nat} {c : Nat → AF} {h y k : Nat} {A B S0 : va_W} (hdg : decode cc pc = .ok (.iaload, 1)) (hw : ws = A ++ (S0 ++ (gW E r n c h ++ B))) (hy : y < h) (hk : k < n y) (hn : n y < 2147483648) (kk : G E X cells slots (pc + 1) L (.int (c y k) :: st) ws) : G E X cells slots pc L (.int (nI k) :: .ref (r y) :: st) ws := by
  have hw2 : ws = (A ++ S0) ++ (gW E r n c h ++ B) := (by rw [hw]; simp only [List.append_assoc])
  exact g_ialdN F hdg (((A ++ S0) : va_W).length + y) (by rw [hw2]; exact seg_at hy) hk hn kk
theorem g_iastG1 (F : gF E X cc own Ts ret rm n0) {r n : Nat → Nat} {c : Nat → AF} {h y k : Nat} {x : Int32} {A B S0 : va_W} (hdg : decode cc pc = .ok (.iastore, 1)) (hw : ws = A ++ (S0 ++ (gW E r n c h ++ B))) (hy : y < h) (hk : k < n y) (hn : n y < 2147483648) (kk : G E X cells slots (pc + 1) L st (A ++ (S0 ++ (gW E r n (va_up c y (upd (c y) k x)) h ++ B)))) : G E X cells slots pc L (.int x :: .int (nI k) :: .ref (r y) :: st) ws := by
  have hw2 : ws = (A ++ S0) ++ (gW E r n c h ++ B) := (by rw [hw]; simp only [List.append_assoc])
  refine g_iastN F hdg (((A ++ S0) : va_W).length + y) (by rw [hw2]; exact seg_at hy) hk hn (ws' := A ++ (S0 ++ (gW E r n (va_up c y (upd (c y) k x)) h ++ B))) (by rw [hw2, seg_set hy]; simp only [List.append_assoc]) kk
theorem g_alenG1 (F : gF E X cc own Ts ret rm n0) {r n : Nat → Nat} {c : Nat → AF} {h y : Nat} {A B S0 : va_W} (hdg : decode cc pc = .ok (.arraylength, 1)) (hw : ws = A ++ (S0 ++ (gW E r n c h ++ B))) (hy : y < h) (kk : G E X cells slots (pc + 1) L (.int (nI (n y)) :: st) ws) : G E X cells slots pc L (.ref (r y) :: st) ws := by
  have hw2 : ws = (A ++ S0) ++ (gW E r n c h ++ B) := (by rw [hw]; simp only [List.append_assoc])
  exact g_alenx F hdg (((A ++ S0) : va_W).length + y) 0 (by rw [hw2]; exact seg_at hy) rfl rfl kk
theorem g_ialdG2 (F : gF E X cc own Ts ret rm n0) {r n : Nat → Nat} {c : Nat → AF} {h y k : Nat} {A B S0 S1 : va_W} (hdg : decode cc pc = .ok (.iaload, 1)) (hw : ws = A ++ (S0 ++ (S1 ++ (gW E r n c h ++ B)))) (hy : y < h) (hk : k < n y) (hn : n y < 2147483648) (kk : G E X cells slots (pc + 1) L (.int (c y k) :: st) ws) : G E X cells slots pc L (.int (nI k) :: .ref (r y) :: st) ws := by
  have hw2 : ws = (A ++ S0 ++ S1) ++ (gW E r n c h ++ B) := (by rw [hw]; simp only [List.append_assoc])
  exact g_ialdN F hdg (((A ++ S0 ++ S1) : va_W).length + y) (by rw [hw2]; exact seg_at hy) hk hn kk
theorem g_iastG2 (F : gF E X cc own Ts ret rm n0) {r n : Nat → Nat} {c : Nat → AF} {h y k : Nat} {x : Int32} {A B S0 S1 : va_W} (hdg : decode cc pc = .ok (.iastore, 1)) (hw : ws = A ++ (S0 ++ (S1 ++ (gW E r n c h ++ B)))) (hy : y < h) (hk : k < n y) (hn : n y < 2147483648) (kk : G E X cells slots (pc + 1) L st (A ++ (S0 ++ (S1 ++ (gW E r n (va_up c y (upd (c y) k x)) h ++ B))))) : G E X cells slots pc L (.int x :: .int (nI k) :: .ref (r y) :: st) ws := by
  have hw2 : ws = (A ++ S0 ++ S1) ++ (gW E r n c h ++ B) := (by rw [hw]; simp only [List.append_assoc])
  refine g_iastN F hdg (((A ++ S0 ++ S1) : va_W).length + y) (by rw [hw2]; exact seg_at hy) hk hn (ws' := A ++ (S0 ++ (S1 ++ (gW E r n (va_up c y (upd (c y) k x)) h ++ B)))) (by rw [hw2, seg_set hy]; simp only [List.append_assoc]) kk
theorem g_alenG2 (F : gF E X cc own Ts ret rm n0) {r n : Nat → Nat} {c : Nat → AF} {h y : Nat} {A B S0 S1 : va_W} (hdg : decode cc pc = .ok (.arraylength, 1)) (hw : ws = A ++ (S0 ++ (S1 ++ (gW E r n c h ++ B)))) (hy : y < h) (kk : G E X cells slots (pc + 1) L (.int (nI (n y)) :: st) ws) : G E X cells slots pc L (.ref (r y) :: st) ws := by
  have hw2 : ws = (A ++ S0 ++ S1) ++ (gW E r n c h ++ B) := (by rw [hw]; simp only [List.append_assoc])
  exact g_alenx F hdg (((A ++ S0 ++ S1) : va_W).length + y) 0 (by rw [hw2]; exact seg_at hy) rfl rfl kk
end QROWS
end GROWQ
