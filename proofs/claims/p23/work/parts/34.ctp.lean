/-! contracts that leave things of their own -/
section GCTP
/-! worlds by their members -/
theorem wP_iff {D : va_G} {cl : List vw_C} {ws : va_W} {H : Heap} : va_P D cl ws H ↔ ∀ q ∈ ws, va_at D cl q H := by
  constructor
  · intro h q hq
    obtain ⟨k, hk⟩ := List.getElem?_of_mem hq
    exact h k q hk
  · intro h k q hk
    exact h q (List.mem_of_getElem? hk)
theorem wD_iff {A : Nat → Prop} {ws : va_W} : va_D A ws ↔ ws.Pairwise (fun p q => p.1 ≠ q.1) ∧ ∀ q ∈ ws, A q.1 := by
  constructor
  · rintro ⟨h1, h2⟩
    refine ⟨?_, fun q hq => ?_⟩
    · rw [List.pairwise_iff_getElem]
      intro i j hi hj hij e
      have := h1 i j ws[i] ws[j] (List.getElem?_eq_getElem hi) (List.getElem?_eq_getElem hj) e
      omega
    · obtain ⟨k, hk⟩ := List.getElem?_of_mem hq
      exact h2 k q hk
  · rintro ⟨h1, h2⟩
    refine ⟨fun i j x y hi hj e => ?_, fun k q hk => h2 q (List.mem_of_getElem? hk)⟩
    rw [List.pairwise_iff_getElem] at h1
    obtain ⟨hi', rfl⟩ := List.getElem?_eq_some_iff.mp hi
    obtain ⟨hj', rfl⟩ := List.getElem?_eq_some_iff.mp hj
    rcases Nat.lt_trichotomy i j with h | h | h
    · exact absurd e (h1 i j hi' hj' h)
    · exact h
    · exact absurd e.symm (h1 j i hj' hi' h)
theorem wP_perm {D : va_G} {cl : List vw_C} {ws ws' : va_W} {H : Heap} (h : ws.Perm ws') (hP : va_P D cl ws H) : va_P D cl ws' H := wP_iff.mpr (fun q hq => wP_iff.mp hP q (h.mem_iff.mpr hq))
theorem wD_perm {A : Nat → Prop} {ws ws' : va_W} (h : ws.Perm ws') (hD : va_D A ws) : va_D A ws' := by
  obtain ⟨h1, h2⟩ := wD_iff.mp hD
  exact wD_iff.mpr ⟨(h.pairwise_iff (fun e => Ne.symm e)).mp h1, fun q hq => h2 q (h.mem_iff.mpr hq)⟩
theorem wA_mem {V : va_W} {sz : Nat} {q : Nat} : va_A V sz q ↔ (∃ x ∈ V, x.1 = q) ∨ sz ≤ q := by
  constructor
  · rintro (⟨k, e, h⟩ | h)
    · exact Or.inl ⟨_, List.mem_of_getElem? h, rfl⟩
    · exact Or.inr h
  · rintro (⟨x, hx, rfl⟩ | h)
    · obtain ⟨k, hk⟩ := List.getElem?_of_mem hx
      exact Or.inl ⟨k, x.2, hk⟩
    · exact Or.inr h
/-- behind a call: what the callee leaves, and the rest -/
theorem wJoin {A : Nat → Prop} {D : va_G} {cl : List vw_C} {V R V' : va_W} {H H1 : Heap} (hP : va_P D cl (V ++ R) H) (hD : va_D A (V ++ R)) (hF : ∀ q, va_A V H.size q → A q) (hk : ∀ q : Nat, q < H.size → ¬ va_A V H.size q → H1[q]? = H[q]?) (hP1 : va_P D cl V' H1) (hD1 : va_D (va_A V H.size) V') : va_P D cl (V' ++ R) H1 ∧ va_D A (V' ++ R) := by
  obtain ⟨d1, d2⟩ := wD_iff.mp hD
  obtain ⟨d3, d4⟩ := wD_iff.mp hD1
  have p1 := wP_iff.mp hP
  obtain ⟨-, dR, dX⟩ := List.pairwise_append.mp d1
  have hnot : ∀ x ∈ R, ¬ va_A V H.size x.1 := by
    intro x hx hz
    rcases wA_mem.mp hz with ⟨y, hy, e⟩ | hz
    · exact dX y hy x hx e
    · have := (p1 x (List.mem_append_right _ hx)).lt
      omega
  refine ⟨wP_iff.mpr (fun q hq => ?_), wD_iff.mpr ⟨List.pairwise_append.mpr ⟨d3, dR, fun y hy x hx e => hnot x hx (by rw [← e]; exact d4 y hy)⟩, fun q hq => ?_⟩⟩
  · rcases List.mem_append.mp hq with h | h
    · exact wP_iff.mp hP1 q h
    · have h1 := p1 q (List.mem_append_right _ h)
      exact h1.kept (hk q.1 h1.lt (hnot q h))
  · rcases List.mem_append.mp hq with h | h
    · exact hF _ (d4 q h)
    · exact d2 q (List.mem_append_right _ h)
theorem wFree {A : Nat → Prop} {V R : va_W} {sz : Nat} (hD : va_D A (V ++ R)) (hz : ∀ q, sz ≤ q → A q) : ∀ q, va_A V sz q → A q := by
  intro q h
  rcases wA_mem.mp h with ⟨x, hx, rfl⟩ | h
  · exact (wD_iff.mp hD).2 x (List.mem_append_left _ hx)
  · exact hz q h
theorem wP_left {D : va_G} {cl : List vw_C} {V R : va_W} {H : Heap} (h : va_P D cl (V ++ R) H) : va_P D cl V H := wP_iff.mpr (fun q hq => wP_iff.mp h q (List.mem_append_left _ hq))
theorem wD_left {A : Nat → Prop} {V R : va_W} (h : va_D A (V ++ R)) : va_D A V := by
  obtain ⟨h1, h2⟩ := wD_iff.mp h
  exact wD_iff.mpr ⟨(List.pairwise_append.mp h1).1, fun q hq => h2 q (List.mem_append_left _ hq)⟩
theorem wPerm3 {V R V' : va_W} {ws : va_W} {N : va_W} (hp : ws.Perm (V ++ R)) (e : V' = N ++ V) : (V' ++ R).Perm (N ++ ws) := by
  rw [e, List.append_assoc]
  exact List.Perm.append_left N hp.symm
/-! permutations of worlds -/
theorem pmc {α : Type} {x : α} {l A B : List α} (h : l.Perm (A ++ B)) : (x :: l).Perm (A ++ x :: B) := (List.Perm.cons x h).trans List.perm_middle.symm
theorem psw {α : Type} (A B C : List α) : (A ++ (B ++ C)).Perm (B ++ (A ++ C)) := by
  rw [← List.append_assoc, ← List.append_assoc]
  exact List.Perm.append_right C List.perm_append_comm
/-- singles and segments apart -/
theorem ps4 {α : Type} {S G Ws Wg Rs Rg : List α} (h1 : S.Perm (Ws ++ Rs)) (h2 : G.Perm (Wg ++ Rg)) : (S ++ G).Perm ((Ws ++ Wg) ++ (Rs ++ Rg)) := by
  refine (List.Perm.append h1 h2).trans ?_
  rw [List.append_assoc, List.append_assoc]
  exact List.Perm.append_left Ws (psw Rs Wg Rg)
theorem ps3 {α : Type} {S G Ws Rs : List α} (h1 : S.Perm (Ws ++ Rs)) : (S ++ G).Perm (Ws ++ (Rs ++ G)) := by
  rw [← List.append_assoc]
  exact List.Perm.append_right G h1
theorem ei_perm {α : Type} : ∀ (l : List α) (i : Nat) (h : i < l.length), l.Perm (l[i] :: l.eraseIdx i)
  | _ :: _, 0, _ => List.Perm.refl _
  | a :: l, i + 1, h => (List.Perm.cons a (ei_perm l i (Nat.lt_of_succ_lt_succ h))).trans (List.Perm.swap _ _ _)
theorem gW_perm {E : gE} {r n : Nat → Nat} {c : Nat → AF} {h y : Nat} (hy : y < h) : (gW E r n c h).Perm ((r y, .inl (E.2.2, n y, .inl (c y))) :: (gW E r n c h).eraseIdx y) := by
  have hl : y < (gW E r n c h).length := by rw [gW_len]; exact hy
  have h1 := ei_perm (gW E r n c h) y hl
  have h2 : (gW E r n c h)[y] = (r y, .inl (E.2.2, n y, .inl (c y))) := by
    have := gW_at (E := E) (r := r) (n := n) (c := c) hy
    rw [List.getElem?_eq_getElem hl] at this
    exact Option.some.inj this
  rw [h2] at h1
  exact h1
theorem prow1 {E : gE} {r n : Nat → Nat} {c : Nat → AF} {h y : Nat} {S B : va_W} (hy : y < h) : ∃ R, (S ++ (gW E r n c h ++ B)).Perm ([(r y, .inl (E.2.2, n y, .inl (c y)))] ++ R) :=
  ⟨S ++ ((gW E r n c h).eraseIdx y ++ B), (List.Perm.append_left S (List.Perm.append_right B (gW_perm hy))).trans List.perm_middle⟩
theorem prow2 {E : gE} {r n : Nat → Nat} {c : Nat → AF} {h y z : Nat} {S B : va_W} (hy : y < h) (hz : z < h) (hne : y ≠ z) : ∃ R, (S ++ (gW E r n c h ++ B)).Perm ([(r y, .inl (E.2.2, n y, .inl (c y))), (r z, .inl (E.2.2, n z, .inl (c z)))] ++ R) := by
  have h1 : ((gW E r n c h).eraseIdx y)[if z < y then z else z - 1]? = some (r z, .inl (E.2.2, n z, .inl (c z))) := by
    rw [List.getElem?_eraseIdx]
    by_cases e : z < y
    · rw [if_pos e, if_pos e, gW_at hz]
    · rw [if_neg e, if_neg (by omega), show z - 1 + 1 = z by omega, gW_at hz]
  obtain ⟨hl, h2⟩ := List.getElem?_eq_some_iff.mp h1
  have h3 := ei_perm _ _ hl
  rw [h2] at h3
  have h4 : (gW E r n c h).Perm ([(r y, .inl (E.2.2, n y, .inl (c y))), (r z, .inl (E.2.2, n z, .inl (c z)))] ++ ((gW E r n c h).eraseIdx y).eraseIdx (if z < y then z else z - 1)) := (gW_perm hy).trans (List.Perm.cons _ h3)
  refine ⟨S ++ (((gW E r n c h).eraseIdx y).eraseIdx (if z < y then z else z - 1) ++ B), ?_⟩
  refine (List.Perm.append_left S (List.Perm.append_right B h4)).trans ?_
  rw [List.append_assoc]
  exact psw S _ _
theorem pIf0 {p : Prop} (h : pIf p = 0) : ¬ p := fun hp => by rw [pIf_pos hp] at h; exact absurd h (by decide)
theorem pIf1 {p : Prop} (h : ¬ pIf p = 0) : p := Classical.byContradiction (fun hp => h (pIf_neg hp))
section QMORE
variable {E : gE} {X : gX} {cc : ByteArray} {own : String} {Ts : List Cond} {ret : Option FieldType} {rm : Room} {n0 : Nat} {cells slots pc : Nat} {L L' : List (Nat × Value)} {st : List Value} {ws ws' : va_W}
theorem g_perm (h : ws.Perm ws') (k : G E X cells slots pc L st ws') : G E X cells slots pc L st ws := by
  obtain ⟨p, e, R, s, m, args, below, meth, c, Q, A, nL⟩ := X
  intro H locs ls hP hD hS hl
  exact k H locs ls (wP_perm h hP) (wD_perm h hD) hS hl
theorem g_front {x : Nat × va_E} (k : G E X cells slots pc L st (x :: ws)) : G E X cells slots pc L st (ws ++ [x]) := g_perm (List.perm_append_singleton x ws) k
theorem g_mnaS (F : gF E X cc own Ts ret rm n0) {S B : va_W} {index : Nat} {n k : Int32} {N' K' : Nat} (hdg : decode cc pc = .ok (.multianewarray index 2, 4)) (hcl : Cond.classLink own index "[[I" ∈ Ts) (harr : Cond.arrayClass .int ∈ Ts) (hn : ¬ n < 0) (hk : ¬ k < 0) (hN : n.toNatClampNeg = N') (hM : k.toNatClampNeg = K') (hb1 : N' * 4 ≤ 536870912) (hb2 : K' * 4 ≤ 536870912) (hcells : cells + (1 + N') ≤ rm.cells) (hslots : slots + (N' + N' * K') ≤ rm.slots) (hw : ws = S ++ B)
    (kk : ∀ (q : Nat) (r : Nat → Nat), G E X (cells + 1 + N') (slots + N' + N' * K') (pc + 4) L (.ref q :: st) (((q, qE E N' r) :: S) ++ (gW E r (fun _ => K') (fun _ _ => 0) N' ++ B))) : G E X cells slots pc L (.int k :: .int n :: st) ws := by
  subst hw
  refine g_mna F hdg hcl harr hn hk hN hM hb1 hb2 hcells hslots (fun q r => g_perm ?_ (kk q r))
  refine (List.Perm.append_right _ (List.perm_append_singleton _ (S ++ B))).trans ?_
  show ((q, qE E N' r) :: ((S ++ B) ++ gW E r (fun _ => K') (fun _ _ => 0) N')).Perm ((q, qE E N' r) :: (S ++ (gW E r (fun _ => K') (fun _ _ => 0) N' ++ B)))
  refine List.Perm.cons _ ?_
  rw [List.append_assoc]
  exact List.Perm.append_left S List.perm_append_comm
/-- a grid's contents by another name -/
theorem g_reG {A B : va_W} {r n : Nat → Nat} {c c' : Nat → AF} {h : Nat} (hw : ws = A ++ (gW E r n c h ++ B)) (he : ∀ y, y < h → ∀ k, k < n y → c y k = c' y k) (k : G E X cells slots pc L st (A ++ (gW E r n c' h ++ B))) : G E X cells slots pc L st ws := by
  subst hw
  obtain ⟨p, e, R, s, m, args, below, meth, c0, Q, A0, nL⟩ := X
  intro H locs ls hP hD hS hl
  have hm : ∀ (i : Nat) (q : Nat × va_E), (A ++ (gW E r n c' h ++ B))[i]? = some q → ∃ q0, (A ++ (gW E r n c h ++ B))[i]? = some q0 ∧ q0.1 = q.1 ∧ (va_at E.2.1 vwCl q0 H → va_at E.2.1 vwCl q H) := by
    intro i q hq
    by_cases h1 : i < A.length
    · rw [List.getElem?_append_left h1] at hq ⊢
      exact ⟨q, hq, rfl, fun z => z⟩
    · rw [List.getElem?_append_right (by omega)] at hq ⊢
      by_cases h2 : i - A.length < h
      · rw [List.getElem?_append_left (by rw [gW_len]; exact h2), gW_at h2] at hq ⊢
        cases hq
        refine ⟨_, rfl, rfl, fun z => ?_⟩
        have z : H[r (i - A.length)]? = some (vp_cell E.2.2 (n (i - A.length), .inl (c (i - A.length)))) := z
        show H[r (i - A.length)]? = some (vp_cell E.2.2 (n (i - A.length), .inl (c' (i - A.length))))
        rw [z, iF_congr (he _ h2)]
      · rw [List.getElem?_append_right (by rw [gW_len]; omega), gW_len] at hq ⊢
        exact ⟨q, hq, rfl, fun z => z⟩
  refine k H locs ls (fun i q hq => ?_) ⟨fun i j x y hi hj hxy => ?_, fun i q hq => ?_⟩ hS hl
  · obtain ⟨q0, h1, -, h3⟩ := hm i q hq
    exact h3 (hP i q0 h1)
  · obtain ⟨x0, h1, h2, -⟩ := hm i x hi
    obtain ⟨y0, h3, h4, -⟩ := hm j y hj
    exact hD.1 i j x0 y0 h1 h3 (h2.trans (hxy.trans h4.symm))
  · obtain ⟨q0, h1, h2, -⟩ := hm i q hq
    rw [← h2]
    exact hD.2 i q0 h1
end QMORE
/-! contracts -/
theorem Met.imp {l : Launch} {y : MethodName} {ws : List Cond} {rm : Room} {P P' : Array Value → State → Prop} {Q Q' : Array Value → State → Outcome → State → Prop} {mc ms : Nat} {free free' : Addr → Prop} (h : Met l y ws rm P Q mc ms free) (hp : ∀ a s, P' a s → P a s) (hq : ∀ a s o t, P' a s → Q a s o t → Q' a s o t) (hf : ∀ q, free q → free' q) : Met l y ws rm P' Q' mc ms free' := by
  intro p e ha hc hk s m args below hfr happ hP hK
  obtain ⟨n, o, h1, h2, h3, hQ, L, hF, hL⟩ := h p e ha hc hk s m args below hfr happ (hp _ _ hP) hK
  exact ⟨n, o, h1, h2, h3, hq _ _ _ _ hP hQ, L, hF, fun q hq => hf _ (hL q hq)⟩
def gPostP (E : gE) (Po : Option Value → va_W → Prop) (A : Nat → Prop) : Array Value → State → Outcome → State → Prop := fun _ st oc t => (∃ ov W', Po ov W' ∧ oc = .returned ov ∧ va_P E.2.1 vwCl W' t.heap ∧ va_D A W') ∧ va_F A st t
def gEndP (E : gE) (X : gX) (Po : Option Value → va_W → Prop) (mc ms : Nat) : Prop := match X with
  | (_, _, _, s, _, args, below, _, _, Q, A, _) => Q = MQ below (gPostP E Po A) args s mc ms A
/-- A CONTRACT: called with av in the world W, y answers and leaves as Po says -/
def CtP (E : gE) (y : MethodName) (wds : List Cond) (rm : Room) (av : List Value) (W : va_W) (Po : Option Value → va_W → Prop) : Prop :=
  ∀ sz, Met E.1 y wds rm (gPre E sz av W) (gPostP E Po (va_A W sz)) rm.cells rm.slots (va_A W sz)
/-- .. where W stays as it is, and N a is new -/
abbrev CtA (E : gE) (y : MethodName) (wds : List Cond) (rm : Room) (av : List Value) (W : va_W) (ov : (Nat → Nat) → Option Value) (N : (Nat → Nat) → va_W) : Prop := CtP E y wds rm av W (fun o V => ∃ a, o = ov a ∧ V = N a ++ W)
theorem CtP.weaken {E : gE} {y : MethodName} {wds : List Cond} {rm : Room} {av : List Value} {W : va_W} {Po Po' : Option Value → va_W → Prop} (h : CtP E y wds rm av W Po) (hp : ∀ ov V, Po ov V → Po' ov V) : CtP E y wds rm av W Po' := fun sz =>
  (h sz).imp (fun _ _ q => q) (fun _ _ _ _ _ ⟨⟨ov, V, h1, h2⟩, h3⟩ => ⟨⟨ov, V, hp ov V h1, h2⟩, h3⟩) (fun _ q => q)
theorem CtP.of {E : gE} {y : MethodName} {wds : List Cond} {rm : Room} {av : List Value} {W : va_W} {Po : Option Value → va_W → Prop} {cc : ByteArray} {maxL : Nat} {ret : Option FieldType} {wds' : List Cond} {own : String} {L : List (Nat × Value)} (hy : plainName y.cls = true) (hw : wds = .code y cc maxL ret :: wds') (ho : y.cls = own) (hlen : (lg_sl av).length ≤ maxL) (hL : lv_args 0 av = L)
    (body : ∀ X : gX, gF E X cc own wds ret rm maxL → gEndP E X Po rm.cells rm.slots → G E X 0 0 0 L [] W) : CtP E y wds rm av W Po := by
  intro sz
  refine Met.ofW (cc := cc) (maxL := maxL) (ret := ret) hy hw ?_
  intro p e s m args below meth c s₁ B hml hv
  obtain ⟨rfl, rfl, hP, hK, hD0⟩ := hv
  have hg := body (p, e, rm, s, m, av.toArray, below, meth, c, MQ below (gPostP E Po (va_A W s.heap.size)) av.toArray s rm.cells rm.slots (va_A W s.heap.size), va_A W s.heap.size, maxL)
    ⟨⟨B.exec, B.bytes, hml, by rw [← ho]; exact findClass_of_methodNamed B.named, atoms_spec (ws := wds) B.pre⟩, B.returns, B.notSynchronized, hK, fun q h => Or.inr h, rfl, rfl, trivial⟩ rfl
  have hl := lv_entry av (n := maxL) hlen
  rw [hL] at hl
  rw [lg_entry_eq]
  exact hg s.heap [] _ hP hD0.self va_S.rf hl
/-- an exact contract among more cells -/
theorem Ct.lift {E : gE} {y : MethodName} {wds : List Cond} {rm : Room} {av : List Value} {V V' W : va_W} {ov : Option Value} (h : Ct E y wds rm av V ov V') (isC : List Nat) (hC : isC.map (fun i => W[i]?) = V.map some) (hn : va_nd isC = true) : CtP E y wds rm av W (fun o U => o = ov ∧ U = wput W isC V') := by
  obtain ⟨ha, h⟩ := h
  intro sz
  have hsub : ∀ q, va_A V sz q → va_A W sz q := by
    rintro q (⟨k, e, hk⟩ | hk)
    · obtain ⟨i, -, hi⟩ := w_pick hC hk
      exact Or.inl ⟨i, e, hi⟩
    · exact Or.inr hk
  refine (h sz).imp (fun a s hp => ?_) (fun a s o t hp hq => ?_) hsub
  · obtain ⟨q0, q1, q2, q3, q4⟩ := hp
    exact ⟨q0, q1, q2.sub isC (by
      have h1 : isC.filterMap (fun i => W[i]?) = (isC.map (fun i => W[i]?)).filterMap id := by rw [List.filterMap_map]; rfl
      rw [h1, hC, List.filterMap_map]; exact List.filterMap_some), q3, q4.sub isC hn hC⟩
  · obtain ⟨q0, rfl, q2, q3, q4⟩ := hp
    obtain ⟨⟨h1, h2⟩, h3⟩ := hq
    obtain ⟨h5, h6⟩ := wput_ok q2 (q4.self (sz := s.heap.size)) hn hC ha h3.2 h2
    exact ⟨⟨ov, _, ⟨rfl, rfl⟩, h1, h5, h6⟩, h3.1, fun q hq hz => h3.2 q hq (fun z => hz (hsub q z))⟩
section PCALLS
variable {E : gE} {X : gX} {cc : ByteArray} {own : String} {Ts : List Cond} {ret : Option FieldType} {rm : Room} {n0 : Nat} {cells slots pc : Nat} {L L' : List (Nat × Value)} {st : List Value} {ws ws' : va_W}
theorem g_backP {rmY : Room} {V R : va_W} {Po : Option Value → va_W → Prop} {p : Program} {e : Env} {R0 : Room} {s : State} {m : MethodId} {args : Array Value} {below : List Frame} {meth : Method} {c : Code} {Q : State → Prop} {A : Nat → Prop} {nL : Nat} {H : Heap} {locs : List Loc} {ls : Array Slot} {rest st0 : List Value} {a : Array Value}
    (hA : ∀ q, s.heap.size ≤ q → A q) (hP : va_P E.2.1 vwCl (V ++ R) H) (hD : va_D A (V ++ R)) (hS : va_S A s.heap H locs) (hl : lv_has ls nL L)
    (hr : va_Run p E.1 e R0 s m args below meth c H locs cells slots rmY.cells rmY.slots (F0 m pc ls st0) rest (gPostP E Po (va_A V H.size) a) (va_A V H.size))
    (kk : ∀ ov V', Po ov V' → G E (p, e, R0, s, m, args, below, meth, c, Q, A, nL) (cells + rmY.cells) (slots + rmY.slots) (pc + 3) L (ov.toList ++ rest) (V' ++ R)) : W p E.1 e R0 s m args below meth c H locs cells slots Q (F0 m pc ls st0) := by
  intro T hT X
  obtain ⟨v, st₀, t, T', Lc, h0, X', hL, e1, -, ⟨⟨ov, V', hPo, hv, hP1, hD1⟩, hz, hk⟩, stp⟩ := hr T hT X
  cases hv
  rw [h0] at hz hk
  have hFc := wFree (sz := H.size) hD (fun q hq => hA q (Nat.le_trans hS.1 hq))
  obtain ⟨hP2, hD2⟩ := wJoin hP hD hFc hk hP1 hD1
  rw [← e1] at hP2
  have hS2 : va_S A s.heap T'.heap (locs ++ Lc) := ⟨Nat.le_trans hS.1 (by rw [e1]; exact hz), fun q h1 h2 => by rw [e1, hk q (Nat.lt_of_lt_of_le h1 hS.1) (fun z => h2 (hFc q z))]; exact hS.2.1 q h1 h2, fun q hq => by
      rcases List.mem_append.mp hq with h | h
      · exact hS.2.2 q h
      · exact hFc _ (hL q h)⟩
  obtain ⟨t2, a1, b1⟩ := kk _ V' hPo T'.heap (locs ++ Lc) ls hP2 hD2 hS2 hl T' rfl X'
  exact ⟨t2, stp t2 a1, b1⟩
theorem g_callVP (F : gF E X cc own Ts ret rm n0) {y : MethodName} {wds wds' : List Cond} {rmY : Room} {As : List Value} {b : Nat} {W R : va_W} {Po : Option Value → va_W → Prop} {bytes : ByteArray} {maxL index ci : Nat} {rety : Option FieldType} {fs : List Value} {C : String} {T : u_T} {N : Nat} {rest : List Value}
    (hdg : decode cc pc = .ok (.invokevirtual index, 3)) (hM : CtP E y wds rmY (.ref b :: As) W Po) (hw : wds = .code y bytes maxL rety :: wds') (hG : GoodIn Ts (wsV own index C y wds)) (he : (b, .inr (ci, fs)) ∈ ws) (hc : vwCl[ci]? = some (C, T, N))
    (hd : y.cls = C ∧ y.cls ≠ "java/lang/invoke/MethodHandle" ∧ y.cls ≠ "java/lang/invoke/VarHandle" ∧ (parseMethodDescriptor y.desc).map (fun d => d.parameters.length) = some As.length) (hRm : gRm rm rmY maxL) (hp : ws.Perm (W ++ R)) (hst : st = As.reverse ++ .ref b :: rest) (hroom : (rest.map fun v => v.category).sum ≤ 8) (hcs : cells + rmY.cells ≤ rm.cells ∧ slots + rmY.slots ≤ rm.slots)
    (kk : ∀ ov V', Po ov V' → G E X (cells + rmY.cells) (slots + rmY.slots) (pc + 3) L (ov.toList ++ rest) (V' ++ R)) : G E X cells slots pc L st ws := by
  obtain ⟨p, e, R, s, m, args, below, meth, c, Q, A, nL⟩ := X
  obtain ⟨⟨hx, hb, hml, hown, hts⟩, hr, hlk, hK, hA, hR, hn0, hT⟩ := F
  subst hR; subst hst
  intro H locs ls hP0 hD0 hS hl
  have hP := wP_perm hp hP0
  have hD := wD_perm hp hD0
  obtain ⟨q0, hq0⟩ := List.getElem?_of_mem he
  exact g_backP hA hP hD hS hl (va_runV (As := As) (rest := rest) ⟨hx, hb, hml, hown, hts⟩ (hM H.size) (cwV As.length hts hG hw rfl rfl hd hRm) ⟨gPre.blind, va_recv hK.1 hP0 (ci := ci) (q0 := q0) hc hq0, fun U hU hW => ⟨rfl, by rw [hU], by rw [hU]; exact wP_left hP, gK.warm hW hK, (wD_left hD).weaken (fun _ _ _ _ => trivial)⟩⟩ rfl rfl hl.1 rfl (lv_room hroom) hdg hcs) kk
theorem g_callSP (F : gF E X cc own Ts ret rm n0) {y : MethodName} {wds wds' : List Cond} {rmY : Room} {As : List Value} {W R : va_W} {Po : Option Value → va_W → Prop} {bytes : ByteArray} {maxL index : Nat} {rety : Option FieldType} {rest : List Value}
    (hdg : decode cc pc = .ok (.invokestatic index, 3)) (hM : CtP E y wds rmY As W Po) (hw : wds = .code y bytes maxL rety :: wds') (hG : GoodIn Ts (va_wsS own index y wds))
    (hd : y.cls ≠ "java/lang/invoke/MethodHandle" ∧ y.cls ≠ "java/lang/invoke/VarHandle" ∧ (parseMethodDescriptor y.desc).map (fun d => d.parameters.length) = some As.length) (hRm : gRm rm rmY maxL) (hp : ws.Perm (W ++ R)) (hst : st = As.reverse ++ rest) (hroom : (rest.map fun v => v.category).sum ≤ 8) (hcs : cells + rmY.cells ≤ rm.cells ∧ slots + rmY.slots ≤ rm.slots)
    (kk : ∀ ov V', Po ov V' → G E X (cells + rmY.cells) (slots + rmY.slots) (pc + 3) L (ov.toList ++ rest) (V' ++ R)) : G E X cells slots pc L st ws := by
  obtain ⟨p, e, R, s, m, args, below, meth, c, Q, A, nL⟩ := X
  obtain ⟨⟨hx, hb, hml, hown, hts⟩, hr, hlk, hK, hA, hR, hn0, hT⟩ := F
  subst hR; subst hst
  intro H locs ls hP0 hD0 hS hl
  have hP := wP_perm hp hP0
  have hD := wD_perm hp hD0
  exact g_backP hA hP hD hS hl (va_runS (As := As) (rest := rest) ⟨hx, hb, hml, hown, hts⟩ (hM H.size) (va_cwS As.length hts hG hw rfl rfl hd hRm) ⟨gPre.blind, fun U hU hW => ⟨rfl, by rw [hU], by rw [hU]; exact wP_left hP, gK.warm hW hK, (wD_left hD).weaken (fun _ _ _ _ => trivial)⟩⟩ rfl rfl hl.1 rfl (lv_room hroom) hdg hcs) kk
/-- .. where the world stays, and new things come ahead of it -/
theorem g_callVA (F : gF E X cc own Ts ret rm n0) {y : MethodName} {wds wds' : List Cond} {rmY : Room} {As : List Value} {b : Nat} {W R : va_W} {ov : (Nat → Nat) → Option Value} {N1 : (Nat → Nat) → va_W} {bytes : ByteArray} {maxL index ci : Nat} {rety : Option FieldType} {fs : List Value} {C : String} {T : u_T} {N : Nat} {rest : List Value}
    (hdg : decode cc pc = .ok (.invokevirtual index, 3)) (hM : CtP E y wds rmY (.ref b :: As) W (fun o V => ∃ a, o = ov a ∧ V = N1 a ++ W)) (hw : wds = .code y bytes maxL rety :: wds') (hG : GoodIn Ts (wsV own index C y wds)) (he : (b, .inr (ci, fs)) ∈ ws) (hc : vwCl[ci]? = some (C, T, N))
    (hd : y.cls = C ∧ y.cls ≠ "java/lang/invoke/MethodHandle" ∧ y.cls ≠ "java/lang/invoke/VarHandle" ∧ (parseMethodDescriptor y.desc).map (fun d => d.parameters.length) = some As.length) (hRm : gRm rm rmY maxL) (hp : ws.Perm (W ++ R)) (hst : st = As.reverse ++ .ref b :: rest) (hroom : (rest.map fun v => v.category).sum ≤ 8) (hcs : cells + rmY.cells ≤ rm.cells ∧ slots + rmY.slots ≤ rm.slots)
    (kk : ∀ a : Nat → Nat, G E X (cells + rmY.cells) (slots + rmY.slots) (pc + 3) L ((ov a).toList ++ rest) (N1 a ++ ws)) : G E X cells slots pc L st ws := by
  refine g_callVP F hdg hM hw hG he hc hd hRm hp hst hroom hcs (fun o V h => ?_)
  obtain ⟨a, rfl, e⟩ := h
  exact g_perm (wPerm3 hp e) (kk a)
theorem g_callSA (F : gF E X cc own Ts ret rm n0) {y : MethodName} {wds wds' : List Cond} {rmY : Room} {As : List Value} {W R : va_W} {ov : (Nat → Nat) → Option Value} {N1 : (Nat → Nat) → va_W} {bytes : ByteArray} {maxL index : Nat} {rety : Option FieldType} {rest : List Value}
    (hdg : decode cc pc = .ok (.invokestatic index, 3)) (hM : CtP E y wds rmY As W (fun o V => ∃ a, o = ov a ∧ V = N1 a ++ W)) (hw : wds = .code y bytes maxL rety :: wds') (hG : GoodIn Ts (va_wsS own index y wds))
    (hd : y.cls ≠ "java/lang/invoke/MethodHandle" ∧ y.cls ≠ "java/lang/invoke/VarHandle" ∧ (parseMethodDescriptor y.desc).map (fun d => d.parameters.length) = some As.length) (hRm : gRm rm rmY maxL) (hp : ws.Perm (W ++ R)) (hst : st = As.reverse ++ rest) (hroom : (rest.map fun v => v.category).sum ≤ 8) (hcs : cells + rmY.cells ≤ rm.cells ∧ slots + rmY.slots ≤ rm.slots)
    (kk : ∀ a : Nat → Nat, G E X (cells + rmY.cells) (slots + rmY.slots) (pc + 3) L ((ov a).toList ++ rest) (N1 a ++ ws)) : G E X cells slots pc L st ws := by
  refine g_callSP F hdg hM hw hG hd hRm hp hst hroom hcs (fun o V h => ?_)
  obtain ⟨a, rfl, e⟩ := h
  exact g_perm (wPerm3 hp e) (kk a)
/-- the ends -/
theorem g_iretP (F : gF E X cc own Ts (some .int) rm n0) {v : Int32} {Po : Option Value → va_W → Prop} (hQ : gEndP E X Po cells slots) (hdg : decode cc pc = .ok (.ireturn, 1)) (hv : Po (some (.int v)) ws) : G E X cells slots pc L [.int v] ws := by
  obtain ⟨p, e, R, s, m, args, below, meth, c, Q, A, nL⟩ := X
  obtain ⟨⟨hx, hb, hml, hown, hts⟩, hr, hlk, hK, hA, hR, hn0, hT⟩ := F
  intro H locs ls hP hD hS hl
  have hQ : Q = _ := hQ
  subst hQ
  exact W.iret hx hb hr (fun t ht hW => ⟨⟨_, ws, hv, rfl, by rw [ht]; exact hP, hD⟩, hS.F ht⟩) hS.2.2 hdg hlk
theorem g_zretP (F : gF E X cc own Ts (some .boolean) rm n0) {v : Int32} {Po : Option Value → va_W → Prop} (hQ : gEndP E X Po cells slots) (hdg : decode cc pc = .ok (.ireturn, 1)) (hz : v = 0 ∨ v = 1) (hv : Po (some (.int v)) ws) : G E X cells slots pc L [.int v] ws := by
  obtain ⟨p, e, R, s, m, args, below, meth, c, Q, A, nL⟩ := X
  obtain ⟨⟨hx, hb, hml, hown, hts⟩, hr, hlk, hK, hA, hR, hn0, hT⟩ := F
  intro H locs ls hP hD hS hl
  have hQ : Q = _ := hQ
  subst hQ
  exact W.zret hx hb hr (by rcases hz with rfl | rfl <;> rfl) (fun t ht hW => ⟨⟨_, ws, hv, rfl, by rw [ht]; exact hP, hD⟩, hS.F ht⟩) hS.2.2 hdg hlk
theorem g_vretP (F : gF E X cc own Ts none rm n0)  {Po : Option Value → va_W → Prop} (hQ : gEndP E X Po cells slots) (hdg : decode cc pc = .ok (.return_, 1)) (hv : Po none ws) : G E X cells slots pc L [] ws := by
  obtain ⟨p, e, R, s, m, args, below, meth, c, Q, A, nL⟩ := X
  obtain ⟨⟨hx, hb, hml, hown, hts⟩, hr, hlk, hK, hA, hR, hn0, hT⟩ := F
  intro H locs ls hP hD hS hl
  have hQ : Q = _ := hQ
  subst hQ
  exact W.vret hx hb hr (fun t ht hW => ⟨⟨_, ws, hv, rfl, by rw [ht]; exact hP, hD⟩, hS.F ht⟩) hS.2.2 hdg hlk
theorem g_aretP {rt : FieldType} (F : gF E X cc own Ts (some rt) rm n0) {v : Nat} {Po : Option Value → va_W → Prop} (hQ : gEndP E X Po cells slots) (hdg : decode cc pc = .ok (.areturn, 1)) (hrt : (∃ n, rt = .object n) ∨ ∃ t, rt = .array t) (hv : Po (some (.ref v)) ws) : G E X cells slots pc L [.ref v] ws := by
  obtain ⟨p, e, R, s, m, args, below, meth, c, Q, A, nL⟩ := X
  obtain ⟨⟨hx, hb, hml, hown, hts⟩, hr, hlk, hK, hA, hR, hn0, hT⟩ := F
  intro H locs ls hP hD hS hl
  have hQ : Q = _ := hQ
  subst hQ
  exact W.aret hx hb hr hrt (Or.inr ⟨_, rfl⟩) (fun t ht hW => ⟨⟨_, ws, hv, rfl, by rw [ht]; exact hP, hD⟩, hS.F ht⟩) hS.2.2 hdg hlk

end PCALLS
end GCTP
