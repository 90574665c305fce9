/-! the class as its callers see it -/
section MWX
theorem CtP.perm {E : gE} {y : MethodName} {wds : List Cond} {rm : Room} {av : List Value} {ws W : va_W} {Po : Option Value → va_W → Prop} (hp : ws.Perm W) (h : CtP E y wds rm av W Po) : CtP E y wds rm av ws Po := by
  intro sz
  have hA : ∀ q, va_A W sz q → va_A ws sz q := fun q hq => by
    rcases wA_mem.mp hq with ⟨x, hx, e⟩ | hq
    · exact wA_mem.mpr (Or.inl ⟨x, hp.mem_iff.mpr hx, e⟩)
    · exact Or.inr hq
  refine (h sz).imp (fun a s ⟨q0, q1, q2, q3, q4⟩ => ⟨q0, q1, wP_perm hp q2, q3, wD_perm hp q4⟩) (fun a s o t _ ⟨⟨ov, V, h1, h2, h3, h4⟩, h5⟩ => ⟨⟨ov, V, h1, h2, h3, h4.weaken (fun _ q _ z => hA q.1 z)⟩, h5.1, fun q hq hz => h5.2 q hq (fun z => hz (hA q z))⟩) hA
/-- a call that throws ex and leaves as Po says -/
def gXP (E : gE) (ex : String) (Po : va_W → Prop) (A : Nat → Prop) : String → State → State → Prop := fun x st t => x = ex ∧ (∃ V, Po V ∧ va_P E.2.1 vwCl V t.heap ∧ va_D A V) ∧ va_F A st t
def CtXP (E : gE) (y : MethodName) (wds : List Cond) (rm : Room) (av : List Value) (W : va_W) (ex : String) (Po : va_W → Prop) : Prop :=
  ∀ sz, vx_Met E.1 y wds rm (gPreT E sz av W) gNo (gXP E ex Po (va_A W sz)) rm.cells rm.slots (va_A W sz)
theorem vx_Met.imp {l : Launch} {y : MethodName} {ws : List Cond} {rm : Room} {P P' : Array Value → State → Prop} {Q : Array Value → State → Outcome → State → Prop} {XC XC' : String → State → State → Prop} {mc ms : Nat} {free free' : Addr → Prop} (h : vx_Met l y ws rm P Q XC mc ms free) (hp : ∀ a s, P' a s → P a s) (hx : ∀ a x s t, P' a s → XC x s t → XC' x s t) (hf : ∀ q, free q → free' q) : vx_Met l y ws rm P' Q XC' mc ms free' := by
  intro p e ha hc hk s m args below hfr happ hP hK
  obtain ⟨n, o, h1, h2, h3, hQ⟩ := h p e ha hc hk s m args below hfr happ (hp _ _ hP) hK
  refine ⟨n, o, h1, h2, h3, ?_⟩
  rcases hQ with ⟨hQ, L, hF, hL⟩ | ⟨q, ho, E9, ce, L, g1, g2, g3, g4, g5, g6, g7⟩
  · exact Or.inl ⟨hQ, L, hF, fun q hq => hf _ (hL q hq)⟩
  · exact Or.inr ⟨q, ho, E9, ce, L, hx _ _ _ _ hP g1, g2, g3, g4, g5, g6, fun z hz => hf _ (g7 z hz)⟩
theorem CtX.lift {E : gE} {y : MethodName} {wds : List Cond} {rm : Room} {av : List Value} {V V' W ws : va_W} {ex : String} (h : CtX E y wds rm av V ex V') (hp : ws.Perm W) (isC : List Nat) (hC : isC.map (fun i => W[i]?) = V.map some) (hn : va_nd isC = true) : CtXP E y wds rm av ws ex (fun U => U = wput W isC V') := by
  obtain ⟨ha, h⟩ := h
  intro sz
  have hA : ∀ q, va_A W sz q → va_A ws sz q := fun q hq => by
    rcases wA_mem.mp hq with ⟨x, hx, e⟩ | hq
    · exact wA_mem.mpr (Or.inl ⟨x, hp.mem_iff.mpr hx, e⟩)
    · exact Or.inr hq
  have hsub : ∀ q, va_A V sz q → va_A W sz q := by
    rintro q (⟨k, e, hk⟩ | hk)
    · obtain ⟨i, -, hi⟩ := w_pick hC hk
      exact Or.inl ⟨i, e, hi⟩
    · exact Or.inr hk
  refine (h sz).imp (fun a s hq => ?_) (fun a x s t hq hx => ?_) (fun q hq => hA q (hsub q hq))
  · obtain ⟨q0, ⟨q1, q2, q3, q4⟩, q5, q6⟩ := hq
    have p2 := wP_perm hp q2
    have p4 := wD_perm hp q4
    exact ⟨q0, ⟨q1, p2.sub isC (by
      have h1 : isC.filterMap (fun i => W[i]?) = (isC.map (fun i => W[i]?)).filterMap id := by rw [List.filterMap_map]; rfl
      rw [h1, hC, List.filterMap_map]; exact List.filterMap_some), q3, p4.sub isC hn hC⟩, q5, q6.1.narrow (fun q z => hA q (hsub q z)), q6.2.narrow (fun q z => hA q (hsub q z))⟩
  · obtain ⟨q0, ⟨rfl, q2, q3, q4⟩, q5, q6⟩ := hq
    have p2 := wP_perm hp q2
    have p4 := wD_perm hp q4
    obtain ⟨rfl, h2, h3⟩ := hx
    obtain ⟨h5, h6⟩ := wput_ok p2 (p4.self (sz := s.heap.size)) hn hC ha h3.2 h2
    exact ⟨rfl, ⟨_, rfl, h5, h6.weaken (fun _ q _ z => hA q.1 z)⟩, h3.1, fun q hq hz => h3.2 q hq (fun z => hz (hA q (hsub q z)))⟩
theorem CtXP.weaken {E : gE} {y : MethodName} {wds : List Cond} {rm : Room} {av : List Value} {W : va_W} {ex : String} {Po Po' : va_W → Prop} (h : CtXP E y wds rm av W ex Po) (hp : ∀ V, Po V → Po' V) : CtXP E y wds rm av W ex Po' := fun sz =>
  (h sz).imp (fun _ _ q => q) (fun _ _ _ _ _ ⟨h1, ⟨V, h2, h3⟩, h4⟩ => ⟨h1, ⟨V, hp V h2, h3⟩, h4⟩) (fun _ q => q)
/-- pattern, spools, colours, carry, turning, pressing, how many woven; the kept cloth's colours, palette, how many, off -/
abbrev SG : Type := AF × AF × Nat × Int32 × Int32 × Int32 × Nat × AF × AF × Nat × Int32
/-- it is as it may be, after N things at most -/
def OkS (N : Nat) (σ : SG) : Prop := match σ with
  | (f, th, m, car, tur, pre, n, k, kp, kq, ko) => okF f ∧ (∀ c, c < 6 → ∃ v, v < 1000 ∧ th c = nI v) ∧ (2 ≤ m ∧ m ≤ 6) ∧ (car = 0 ∨ car = 1 ∨ car = 2) ∧ (tur = 0 ∨ tur = 1) ∧ (pre = 0 ∨ pre = 1) ∧ n ≤ N ∧ (0 < n → 1 ≤ kq ∧ kq ≤ 6 ∧ (∀ j, j < 96 → ∃ c, c < kq ∧ k j = nI c) ∧ ∀ j, j < kq → ∃ v, v < 256 ∧ kp j = nI v)
def MWL (E : gE) (x : Nat) (A : Nat → Nat) (J : Nat → AF) (I : Nat → Int32) (kb : Nat) (f th : AF) (m : Nat) (car tur pre : Int32) (n : Nat) : va_W := [(x, .inr (4, [.ref (A 0), .ref (A 2), .ref (A 7), .ref (A 9), .ref (A 22), .int (nI m), .int car, .int tur, .int pre, .int (nI n)])), ((A 0), .inr (1, [.ref (A 1)])), ((A 1), .inl (E.2.2, 96, .inl f)), ((A 2), .inr (2, [.ref (A 3), .ref (A 4), .ref (A 5), .ref (A 6), .int (I 0)])), ((A 3), .inl (E.2.2, 256, .inl (J 0))), ((A 4), .inl (E.2.2, 96, .inl (J 1))), ((A 5), .inl (E.2.2, 6, .inl (J 2))), ((A 6), .inl (E.2.2, 6, .inl (J 3))), ((A 7), .inr (3, [.ref (A 8)])), ((A 8), .inl (E.2.2, 6, .inl th)), ((A 9), .inr (0, [.ref (A 10), .ref (A 15), .ref (A 17), .ref (A 19), .ref (A 21), .int (I 1)])), ((A 10), .inr (2, [.ref (A 11), .ref (A 12), .ref (A 13), .ref (A 14), .int (nI kb)])), ((A 11), .inl (E.2.2, 256, .inl (J 4))), ((A 12), .inl (E.2.2, 96, .inl (J 5))), ((A 13), .inl (E.2.2, 6, .inl (J 6))), ((A 14), .inl (E.2.2, 6, .inl (J 7))), ((A 15), .inr (1, [.ref (A 16)])), ((A 16), .inl (E.2.2, 96, .inl (J 8))), ((A 17), .inr (1, [.ref (A 18)])), ((A 18), .inl (E.2.2, 96, .inl (J 9))), ((A 19), .inr (1, [.ref (A 20)])), ((A 20), .inl (E.2.2, 96, .inl (J 10))), ((A 21), .inl (E.2.2, 6, .inl (J 11))), ((A 22), .inr (0, [.ref (A 23), .ref (A 28), .ref (A 30), .ref (A 32), .ref (A 34), .int (I 3)])), ((A 23), .inr (2, [.ref (A 24), .ref (A 25), .ref (A 26), .ref (A 27), .int (I 2)])), ((A 24), .inl (E.2.2, 256, .inl (J 12))), ((A 25), .inl (E.2.2, 96, .inl (J 13))), ((A 26), .inl (E.2.2, 6, .inl (J 14))), ((A 27), .inl (E.2.2, 6, .inl (J 15))), ((A 28), .inr (1, [.ref (A 29)])), ((A 29), .inl (E.2.2, 96, .inl (J 16))), ((A 30), .inr (1, [.ref (A 31)])), ((A 31), .inl (E.2.2, 96, .inl (J 17))), ((A 32), .inr (1, [.ref (A 33)])), ((A 33), .inl (E.2.2, 96, .inl (J 18))), ((A 34), .inl (E.2.2, 6, .inl (J 19)))]
/-- an object x of the class in the state σ -/
def MWP (E : gE) (x : Nat) (σ : SG) (ws : va_W) : Prop := match σ with
  | (f, th, m, car, tur, pre, n, k, kp, kq, ko) => ∃ (A : Nat → Nat) (J : Nat → AF) (I : Nat → Int32) (kb : Nat), ws.Perm (MWL E x A J I kb f th m car tur pre n) ∧ kb ≤ 6 ∧ (0 < n → KT (J 8) (J 10) k ∧ (∀ c, c < 6 → (J 11) c = nI (cntP (isS k c) 96)) ∧ kb = kq ∧ (∀ j, j < kq → (J 7) j = kp j) ∧ (I 1) = ko)
theorem sHas_n {n : Nat} (hn : n < 2147483648) : sHas (nI n) = if n = 0 then 0 else 1 := by
  unfold sHas
  by_cases h : n = 0
  · rw [if_pos h, if_pos ((nI_le0 hn).mpr h)]
  · rw [if_neg h, if_neg (fun z => h ((nI_le0 hn).mp z))]
theorem sHas_pos {n : Nat} (h : 0 < n) (hn : n < 2147483648) : ¬ sHas (nI n) = 0 := by
  rw [sHas_n hn, if_neg (by omega)]
  decide
noncomputable def mDG (σ : SG) : Int64 := match σ with
  | (f, th, m, car, tur, pre, n, k, kp, kq, ko) => if n = 0 then mDgF th (mDgF f (mDg8 (mCnt (nI m) car tur pre (nI n) (if n = 0 then 0 else ko) th k) 8) 96) 6 else mDgF k (mDgF kp (mDgF th (mDgF f (mDg8 (mCnt (nI m) car tur pre (nI n) (if n = 0 then 0 else ko) th k) 8) 96) 6) kq) 96
theorem dg_tie {f th : AF} {m : Nat} {car tur pre : Int32} {n : Nat} {k kp : AF} {kq : Nat} {ko : Int32} {kfw kfr kfu ksh : AF} {kb : Nat} {koff : Int32} (hb6 : kb ≤ 6) (hn : n < 2147483648) (hk : (0 < n → KT kfw kfr k ∧ (∀ c, c < 6 → kfu c = nI (cntP (isS k c) 96)) ∧ kb = kq ∧ (∀ j, j < kq → ksh j = kp j) ∧ koff = ko)) : sDgB (sDgA (sCnt (nI m) car tur pre (nI n) th kfw kfr koff) f th) (nI n) ksh kfw kb = mDG (f, th, m, car, tur, pre, n, k, kp, kq, ko) := by
  have hc : ∀ j, j < 8 → sCnt (nI m) car tur pre (nI n) th kfw kfr koff j = mCnt (nI m) car tur pre (nI n) (if n = 0 then 0 else ko) th k j := by
    intro w hw
    match w, hw with
    | 0, _ => rfl
    | 1, _ => rfl
    | 2, _ => rfl
    | 3, _ => rfl
    | 4, _ => rfl
    | 5, _ => exact hold_tie th 6 (Nat.le_refl _)
    | 6, _ =>
      show (if sHas (nI n) = 0 then 0 else koff) = if n = 0 then 0 else ko
      rw [sHas_n hn]
      by_cases h0 : n = 0
      · rw [if_pos h0, if_pos rfl, if_pos h0]
      · rw [if_neg h0, if_neg (by decide), if_neg h0, (hk (by omega)).2.2.2.2]
    | 7, _ =>
      show (if sHas (nI n) = 0 then 0 else sAK kfw kfr pre 8) = if nI n ≤ 0 then 0 else mAK k pre 8
      rw [sHas_n hn]
      by_cases h0 : n = 0
      · rw [if_pos h0, if_pos rfl, if_pos ((nI_le0 hn).mpr h0)]
      · rw [if_neg h0, if_neg (by decide), if_neg (fun z => h0 ((nI_le0 hn).mp z)), ak_tie (hk (by omega)).1 pre 8 (Nat.le_refl _)]
  unfold sDgB sDgA
  rw [sHas_n hn, dg8_tie hc 8 (Nat.le_refl _), dig_tie (by omega) (fun _ _ => rfl) _ 96 (Nat.le_refl _), dig_tie (by omega) (fun _ _ => rfl) _ 6 (Nat.le_refl _)]
  unfold mDG
  by_cases h0 : n = 0
  · simp only [h0, if_true]
  · obtain ⟨g1, -, g3, g4, -⟩ := hk (by omega)
    simp only [h0, if_false]
    rw [if_neg (by decide), g3, dig_tie6 (by omega) g4 _ kq (Nat.le_refl _), dig_tie (by omega) g1.1 _ 96 (Nat.le_refl _)]
theorem mw_swap (a0 a1 a2 a3 a4 a5 a6 a7 a8 a9 a10 a11 a12 a13 a14 a15 a16 a17 a18 a19 a20 a21 a22 a23 a24 a25 a26 a27 a28 a29 a30 a31 a32 a33 a34 a35 : Nat × va_E) : List.Perm [a0, a1, a2, a3, a4, a5, a6, a7, a8, a9, a10, a11, a12, a13, a14, a15, a16, a17, a18, a19, a20, a21, a22, a23, a24, a25, a26, a27, a28, a29, a30, a31, a32, a33, a34, a35] [a0, a1, a2, a3, a4, a5, a6, a7, a8, a9, a23, a24, a25, a26, a27, a28, a29, a30, a31, a32, a33, a34, a35, a10, a11, a12, a13, a14, a15, a16, a17, a18, a19, a20, a21, a22] :=
  List.Perm.append_left [a0, a1, a2, a3, a4, a5, a6, a7, a8, a9] (List.perm_append_comm (l₁ := [a10, a11, a12, a13, a14, a15, a16, a17, a18, a19, a20, a21, a22]) (l₂ := [a23, a24, a25, a26, a27, a28, a29, a30, a31, a32, a33, a34, a35]))
set_option maxHeartbeats 4000000 in
set_option maxRecDepth 100000 in
theorem m_set {E : gE} {x : Nat} {f th : AF} {m : Nat} {car tur pre : Int32} {n : Nat} {k kp : AF} {kq : Nat} {ko : Int32} {ws : va_W} (h : MWP E x (f, th, m, car, tur, pre, n, k, kp, kq, ko) ws) (a b : Nat) (v : Int32) (ha : a < 12) (hb : b < 8) (h1 : ¬ v < 0) (h2 : v ≤ 255) : CtP E yX4_set wsX4_set ({ frames := 8, cells := 0, slots := 0, locals := 132 }) [.ref x, .int (nI a), .int (nI b), .int v] ws (fun o V => o = some (.int (f (12 * b + a))) ∧ MWP E x (upd f (12 * b + a) v, th, m, car, tur, pre, n, k, kp, kq, ko) V) := by
  obtain ⟨A, J, I, kb, hp, hb6, hk⟩ := h
  refine CtP.perm hp (((c_X4_set E x (A 0) (A 1) (A 2) (A 7) (A 9) (A 22) f (nI m) car tur pre (nI n) (nI a) (nI b) v (by rw [gCell_nI ha hb]; decide) h1 h2).lift (W := MWL E x A J I kb f th m car tur pre n) [0, 1, 2] rfl (by decide)).weaken ?_)
  rintro o V ⟨rfl, rfl⟩
  refine ⟨congrArg (fun z => some (Value.int z)) (sGAt_nI ha hb), A, J, I, kb, ?_, hb6, hk⟩
  refine List.Perm.of_eq ?_; simp only [MWL, wput, List.set_cons_succ, List.set_cons_zero]; rw [sGPut_nI ha hb]

set_option maxHeartbeats 4000000 in
set_option maxRecDepth 100000 in
theorem m_row {E : gE} {x : Nat} {f th : AF} {m : Nat} {car tur pre : Int32} {n : Nat} {k kp : AF} {kq : Nat} {ko : Int32} {ws : va_W} (h : MWP E x (f, th, m, car, tur, pre, n, k, kp, kq, ko) ws) (b : Nat) (a s9 : Int32) (hb : b < 8) (h2 : ¬ a < 0) (h3 : a ≤ 255) (h4 : ¬ s9 < (-60)) (h5 : s9 ≤ 60) : CtP E yX4_row wsX4_row ({ frames := 8, cells := 0, slots := 0, locals := 132 }) [.ref x, .int (nI b), .int a, .int s9] ws (fun o V => o = some (.int (mRowF f b a s9 12 (12 * b + 11))) ∧ MWP E x (mRowF f b a s9 12, th, m, car, tur, pre, n, k, kp, kq, ko) V) := by
  obtain ⟨A, J, I, kb, hp, hb6, hk⟩ := h
  refine CtP.perm hp (((c_X4_row E x (A 0) (A 1) (A 2) (A 7) (A 9) (A 22) f (nI m) car tur pre (nI n) (nI b) a s9 (nI_pos (by omega)) (le_nI (i := 7) (by omega) (by omega)) h2 h3 h4 h5).lift (W := MWL E x A J I kb f th m car tur pre n) [0, 1, 2] rfl (by decide)).weaken ?_)
  rintro o V ⟨rfl, rfl⟩
  refine ⟨congrArg (fun z => some (Value.int z)) (by rw [rowF_tie f hb a s9 12 (Nat.le_refl _)]; exact sGAt_nI (x := 11) (by omega) hb), A, J, I, kb, ?_, hb6, hk⟩
  refine List.Perm.of_eq ?_; simp only [MWL, wput, List.set_cons_succ, List.set_cons_zero]; rw [rowF_tie f hb a s9 12 (Nat.le_refl _)]

set_option maxHeartbeats 4000000 in
set_option maxRecDepth 100000 in
theorem m_like {E : gE} {x : Nat} {f th : AF} {m : Nat} {car tur pre : Int32} {n : Nat} {k kp : AF} {kq : Nat} {ko : Int32} {ws : va_W} (h : MWP E x (f, th, m, car, tur, pre, n, k, kp, kq, ko) ws) (b o9 : Nat) (hb : b < 8) (ho : o9 < 8) : CtP E yX4_like wsX4_like ({ frames := 8, cells := 0, slots := 0, locals := 131 }) [.ref x, .int (nI b), .int (nI o9)] ws (fun o V => o = some (.int ((mLk f b o9 12).2)) ∧ MWP E x ((mLk f b o9 12).1, th, m, car, tur, pre, n, k, kp, kq, ko) V) := by
  obtain ⟨A, J, I, kb, hp, hb6, hk⟩ := h
  refine CtP.perm hp (((c_X4_like E x (A 0) (A 1) (A 2) (A 7) (A 9) (A 22) f (nI m) car tur pre (nI n) (nI b) (nI o9) (nI_pos (by omega)) (le_nI (i := 7) (by omega) (by omega)) (nI_pos (by omega)) (le_nI (i := 7) (by omega) (by omega))).lift (W := MWL E x A J I kb f th m car tur pre n) [0, 1, 2] rfl (by decide)).weaken ?_)
  rintro o V ⟨rfl, rfl⟩
  refine ⟨congrArg (fun z => some (Value.int z)) (by rw [like_tieF f hb ho 12 (Nat.le_refl _)]), A, J, I, kb, ?_, hb6, hk⟩
  refine List.Perm.of_eq ?_; simp only [MWL, wput, List.set_cons_succ, List.set_cons_zero]; rw [like_tieF f hb ho 12 (Nat.le_refl _)]

set_option maxHeartbeats 4000000 in
set_option maxRecDepth 100000 in
theorem m_setColours {E : gE} {x : Nat} {f th : AF} {m : Nat} {car tur pre : Int32} {n : Nat} {k kp : AF} {kq : Nat} {ko : Int32} {ws : va_W} (h : MWP E x (f, th, m, car, tur, pre, n, k, kp, kq, ko) ws) (v : Nat) (h1 : 2 ≤ v) (h2 : v ≤ 6) : CtP E yX4_setColours wsX4_setColours ({ frames := 8, cells := 0, slots := 0, locals := 132 }) [.ref x, .int (nI v)] ws (fun o V => o = some (.int (nI m)) ∧ MWP E x (f, th, v, car, tur, pre, n, k, kp, kq, ko) V) := by
  obtain ⟨A, J, I, kb, hp, hb6, hk⟩ := h
  refine CtP.perm hp (((c_X4_setColours E x (A 0) (A 2) (A 7) (A 9) (A 22) (nI m) car tur pre (nI n) (nI v) (nI_nlt (b := 2) (by omega) (by omega)) (le_nI (i := 6) (by omega) (by omega))).lift (W := MWL E x A J I kb f th m car tur pre n) [0] rfl (by decide)).weaken ?_)
  rintro o V ⟨rfl, rfl⟩
  refine ⟨rfl, A, J, I, kb, ?_, hb6, hk⟩
  exact List.Perm.of_eq (by simp only [MWL, wput, List.set_cons_succ, List.set_cons_zero])

set_option maxHeartbeats 4000000 in
set_option maxRecDepth 100000 in
theorem m_setCarry {E : gE} {x : Nat} {f th : AF} {m : Nat} {car tur pre : Int32} {n : Nat} {k kp : AF} {kq : Nat} {ko : Int32} {ws : va_W} (h : MWP E x (f, th, m, car, tur, pre, n, k, kp, kq, ko) ws) (v : Int32) (h1 : ¬ v < 0) (h2 : v ≤ 2) : CtP E yX4_setCarry wsX4_setCarry ({ frames := 7, cells := 0, slots := 0, locals := 111 }) [.ref x, .int v] ws (fun o V => o = some (.int (car)) ∧ MWP E x (f, th, m, v, tur, pre, n, k, kp, kq, ko) V) := by
  obtain ⟨A, J, I, kb, hp, hb6, hk⟩ := h
  refine CtP.perm hp (((c_X4_setCarry E x (A 0) (A 2) (A 7) (A 9) (A 22) (nI m) car tur pre (nI n) v h1 h2).lift (W := MWL E x A J I kb f th m car tur pre n) [0] rfl (by decide)).weaken ?_)
  rintro o V ⟨rfl, rfl⟩
  refine ⟨rfl, A, J, I, kb, ?_, hb6, hk⟩
  exact List.Perm.of_eq (by simp only [MWL, wput, List.set_cons_succ, List.set_cons_zero])

set_option maxHeartbeats 4000000 in
set_option maxRecDepth 100000 in
theorem m_setTurning {E : gE} {x : Nat} {f th : AF} {m : Nat} {car tur pre : Int32} {n : Nat} {k kp : AF} {kq : Nat} {ko : Int32} {ws : va_W} (h : MWP E x (f, th, m, car, tur, pre, n, k, kp, kq, ko) ws) (v : Int32) (ht : tur = 0 ∨ tur = 1) (h1 : v = 0 ∨ v = 1) : CtP E yX4_setTurning wsX4_setTurning ({ frames := 0, cells := 0, slots := 0, locals := 0 }) [.ref x, .int v] ws (fun o V => o = some (.int (tur)) ∧ MWP E x (f, th, m, car, v, pre, n, k, kp, kq, ko) V) := by
  obtain ⟨A, J, I, kb, hp, hb6, hk⟩ := h
  refine CtP.perm hp (((c_X4_setTurning E x (A 0) (A 2) (A 7) (A 9) (A 22) (nI m) car tur pre (nI n) v ht h1).lift (W := MWL E x A J I kb f th m car tur pre n) [0] rfl (by decide)).weaken ?_)
  rintro o V ⟨rfl, rfl⟩
  refine ⟨rfl, A, J, I, kb, ?_, hb6, hk⟩
  exact List.Perm.of_eq (by simp only [MWL, wput, List.set_cons_succ, List.set_cons_zero])

set_option maxHeartbeats 4000000 in
set_option maxRecDepth 100000 in
theorem m_setPressing {E : gE} {x : Nat} {f th : AF} {m : Nat} {car tur pre : Int32} {n : Nat} {k kp : AF} {kq : Nat} {ko : Int32} {ws : va_W} (h : MWP E x (f, th, m, car, tur, pre, n, k, kp, kq, ko) ws) (v : Int32) (ht : pre = 0 ∨ pre = 1) (h1 : v = 0 ∨ v = 1) : CtP E yX4_setPressing wsX4_setPressing ({ frames := 0, cells := 0, slots := 0, locals := 0 }) [.ref x, .int v] ws (fun o V => o = some (.int (pre)) ∧ MWP E x (f, th, m, car, tur, v, n, k, kp, kq, ko) V) := by
  obtain ⟨A, J, I, kb, hp, hb6, hk⟩ := h
  refine CtP.perm hp (((c_X4_setPressing E x (A 0) (A 2) (A 7) (A 9) (A 22) (nI m) car tur pre (nI n) v ht h1).lift (W := MWL E x A J I kb f th m car tur pre n) [0] rfl (by decide)).weaken ?_)
  rintro o V ⟨rfl, rfl⟩
  refine ⟨rfl, A, J, I, kb, ?_, hb6, hk⟩
  exact List.Perm.of_eq (by simp only [MWL, wput, List.set_cons_succ, List.set_cons_zero])

set_option maxHeartbeats 4000000 in
set_option maxRecDepth 100000 in
theorem m_wind {E : gE} {x : Nat} {f th : AF} {m : Nat} {car tur pre : Int32} {n : Nat} {k kp : AF} {kq : Nat} {ko : Int32} {ws : va_W} (h : MWP E x (f, th, m, car, tur, pre, n, k, kp, kq, ko) ws) (c : Nat) (v : Int32) (hc : c < 6) (h2 : ¬ v < 1) (h3 : v ≤ 99) : CtP E yX4_wind wsX4_wind ({ frames := 8, cells := 0, slots := 0, locals := 132 }) [.ref x, .int (nI c), .int v] ws (fun o V => o = some (.int (sMin 999 (th c + v))) ∧ MWP E x (f, upd th c (sMin 999 (th c + v)), m, car, tur, pre, n, k, kp, kq, ko) V) := by
  obtain ⟨A, J, I, kb, hp, hb6, hk⟩ := h
  refine CtP.perm hp (((c_X4_wind E x (A 0) (A 2) (A 7) (A 8) (A 9) (A 22) th (nI m) car tur pre (nI n) (nI c) v (nI_pos (by omega)) (le_nI (i := 5) (by omega) (by omega)) h2 h3).lift (W := MWL E x A J I kb f th m car tur pre n) [0, 8, 9] rfl (by decide)).weaken ?_)
  rintro o V ⟨rfl, rfl⟩
  refine ⟨congrArg (fun z => some (Value.int z)) (by unfold sWind; rw [sPut_nI hc (by omega), sAt_nI hc (by omega), sAt_nI hc (by omega), pk_us]), A, J, I, kb, ?_, hb6, hk⟩
  refine List.Perm.of_eq ?_; simp only [MWL, wput, List.set_cons_succ, List.set_cons_zero]; unfold sWind; rw [sPut_nI hc (by omega), sAt_nI hc (by omega)]

set_option maxHeartbeats 4000000 in
set_option maxRecDepth 100000 in
theorem m_shade {E : gE} {x : Nat} {f th : AF} {m : Nat} {car tur pre : Int32} {n : Nat} {k kp : AF} {kq : Nat} {ko : Int32} {ws : va_W} (h : MWP E x (f, th, m, car, tur, pre, n, k, kp, kq, ko) ws) (a b : Nat) (ha : a < 12) (hb : b < 8) : CtP E yX4_shade wsX4_shade ({ frames := 7, cells := 0, slots := 0, locals := 111 }) [.ref x, .int (nI a), .int (nI b)] ws (fun o V => o = some (.int (f (12 * b + a))) ∧ MWP E x (f, th, m, car, tur, pre, n, k, kp, kq, ko) V) := by
  obtain ⟨A, J, I, kb, hp, hb6, hk⟩ := h
  refine CtP.perm hp (((c_X4_shade E x (A 0) (A 1) (A 2) (A 7) (A 9) (A 22) f (nI m) car tur pre (nI n) (nI a) (nI b) (by rw [gCell_nI ha hb]; decide)).lift (W := MWL E x A J I kb f th m car tur pre n) [0, 1, 2] rfl (by decide)).weaken ?_)
  rintro o V ⟨rfl, rfl⟩
  refine ⟨congrArg (fun z => some (Value.int z)) (sGAt_nI ha hb), A, J, I, kb, ?_, hb6, hk⟩
  exact List.Perm.of_eq (by simp only [MWL, wput, List.set_cons_succ, List.set_cons_zero])

set_option maxHeartbeats 4000000 in
set_option maxRecDepth 100000 in
theorem m_palette {E : gE} {x : Nat} {f th : AF} {m : Nat} {car tur pre : Int32} {n : Nat} {k kp : AF} {kq : Nat} {ko : Int32} {ws : va_W} (h : MWP E x (f, th, m, car, tur, pre, n, k, kp, kq, ko) ws) (c : Nat) (hc : c < 6) {N : Nat} (hok : OkS N (f, th, m, car, tur, pre, n, k, kp, kq, ko)) : CtP E yX4_palette wsX4_palette ({ frames := 8, cells := 0, slots := 0, locals := 131 }) [.ref x, .int (nI c)] ws (fun o V => o = some (.int (if c < PQ f m then PP f m c else (-1))) ∧ MWP E x (f, th, m, car, tur, pre, n, k, kp, kq, ko) V) := by
  obtain ⟨hf, hth, ⟨hm2, hm6⟩, hcar, htur, hpre, hnN, hkc⟩ := hok
  obtain ⟨A, J, I, kb, hp, hb6, hk⟩ := h
  refine CtP.perm hp (((c_X4_palette E x (A 0) (A 1) (A 2) (A 3) (A 4) (A 5) (A 6) (A 7) (A 9) (A 22) f (J 0) (J 1) (J 2) (J 3) (I 0) car tur pre (nI n) (nI c) m (nI_pos (by omega)) (le_nI (i := 5) (by omega) (by omega)) hm2 hm6).lift (W := MWL E x A J I kb f th m car tur pre n) [0, 1, 2, 3, 4, 5, 6, 7] rfl (by decide)).weaken ?_)
  rintro o V ⟨rfl, rfl⟩
  refine ⟨congrArg (fun z => some (Value.int z)) (by
    obtain ⟨e1, -⟩ := fitF_tie hf (J 1) z0 (J 2) (m := m) (by omega) hm6
    have e2 := pal_tie hf (J 1) z0 (J 2) (J 3) z0 (m := m) (by omega) hm6
    have h6 := mFit_m f z0 (m := m) (by omega)
    rw [e1]
    by_cases q : c < (mFit f z0 m).2
    · rw [shade_nI q (by omega), e2 c q]
      exact (if_pos q).symm
    · unfold sShade
      rw [if_neg (nI_pos (by omega)), if_pos (le_nI (by omega) (by omega))]
      exact (if_neg q).symm), A, fun i => match i with | 0 => sTally f (J 0) | 1 => sSorted f (J 1) | 2 => (sFitF f (J 1) (J 2) m).1 | 3 => sMnsF f (J 1) (J 2) (J 3) m | _ => J i, fun i => match i with | 0 => nI (sFitF f (J 1) (J 2) m).2 | _ => I i, kb, ?_, hb6, hk⟩
  exact List.Perm.of_eq (by simp only [MWL, wput, List.set_cons_succ, List.set_cons_zero])

set_option maxHeartbeats 4000000 in
set_option maxRecDepth 100000 in
theorem m_cell {E : gE} {x : Nat} {f th : AF} {m : Nat} {car tur pre : Int32} {n : Nat} {k kp : AF} {kq : Nat} {ko : Int32} {ws : va_W} (h : MWP E x (f, th, m, car, tur, pre, n, k, kp, kq, ko) ws) (a b : Nat) (ha : a < 12) (hb : b < 8) (h0 : 0 < n) (hn : n < 2147483648) : CtP E yX4_cell wsX4_cell ({ frames := 7, cells := 0, slots := 0, locals := 111 }) [.ref x, .int (nI a), .int (nI b)] ws (fun o V => o = some (.int (k (12 * b + a))) ∧ MWP E x (f, th, m, car, tur, pre, n, k, kp, kq, ko) V) := by
  obtain ⟨A, J, I, kb, hp, hb6, hk⟩ := h
  refine CtP.perm hp (((c_X4_cell E x (A 0) (A 2) (A 7) (A 9) (A 10) (A 11) (A 12) (A 13) (A 14) (A 15) (A 16) (A 17) (A 18) (A 19) (A 20) (A 21) (A 22) (J 4) (J 5) (J 6) (J 7) (J 8) (J 9) (J 10) (J 11) (I 1) (nI m) car tur pre (nI n) kb (nI a) (nI b) (by rw [gCell_nI ha hb]; decide) (sHas_pos h0 hn)).lift (W := MWL E x A J I kb f th m car tur pre n) [0, 10, 11, 12, 13, 14, 15, 16, 17, 18, 19, 20, 21, 22] rfl (by decide)).weaken ?_)
  rintro o V ⟨rfl, rfl⟩
  refine ⟨congrArg (fun z => some (Value.int z)) ((sGAt_nI ha hb).trans ((hk h0).1.1 _ (by omega))), A, J, I, kb, ?_, hb6, hk⟩
  exact List.Perm.of_eq (by simp only [MWL, wput, List.set_cons_succ, List.set_cons_zero])

set_option maxHeartbeats 4000000 in
set_option maxRecDepth 100000 in
theorem m_run {E : gE} {x : Nat} {f th : AF} {m : Nat} {car tur pre : Int32} {n : Nat} {k kp : AF} {kq : Nat} {ko : Int32} {ws : va_W} (h : MWP E x (f, th, m, car, tur, pre, n, k, kp, kq, ko) ws) (b p9 : Nat) (w : Int32) (hb : b < 8) (hp9 : p9 < mRn k b) (hw1 : ¬ w < 0) (hw2 : w ≤ 1) (h0 : 0 < n) (hn : n < 2147483648) : CtP E yX4_run wsX4_run ({ frames := 8, cells := 0, slots := 0, locals := 131 }) [.ref x, .int (nI b), .int (nI p9), .int w] ws (fun o V => o = some (.int (mTold k b p9 w)) ∧ MWP E x (f, th, m, car, tur, pre, n, k, kp, kq, ko) V) := by
  obtain ⟨A, J, I, kb, hp, hb6, hk⟩ := h
  refine CtP.perm hp (((c_X4_run E x (A 0) (A 2) (A 7) (A 9) (A 10) (A 11) (A 12) (A 13) (A 14) (A 15) (A 16) (A 17) (A 18) (A 19) (A 20) (A 21) (A 22) (J 4) (J 5) (J 6) (J 7) (J 8) (J 9) (J 10) (J 11) (I 1) (nI m) car tur pre (nI n) kb (nI b) (nI p9) w (nI_pos (by omega)) (le_nI (i := 7) (by omega) (by omega)) hw1 hw2 (sHas_pos h0 hn) (nI_pos (by have := mRn_12 k b; omega)) (by have := mRn_12 k b; rw [rn_tie (hk h0).1 hb]; exact Int32.le_trans (le_nI (n := p9) (i := mRn k b - 1) (by omega) (by omega)) (by rw [pk_sub (b := 1) (by omega) |>.symm]; exact Int32.le_refl _))).lift (W := MWL E x A J I kb f th m car tur pre n) [0, 10, 11, 12, 13, 14, 15, 16, 17, 18, 19, 20, 21, 22] rfl (by decide)).weaken ?_)
  rintro o V ⟨rfl, rfl⟩
  refine ⟨congrArg (fun z => some (Value.int z)) (run_tie (hk h0).1 hb hp9 w), A, J, I, kb, ?_, hb6, hk⟩
  exact List.Perm.of_eq (by simp only [MWL, wput, List.set_cons_succ, List.set_cons_zero])

set_option maxHeartbeats 4000000 in
set_option maxRecDepth 100000 in
theorem m_knots {E : gE} {x : Nat} {f th : AF} {m : Nat} {car tur pre : Int32} {n : Nat} {k kp : AF} {kq : Nat} {ko : Int32} {ws : va_W} (h : MWP E x (f, th, m, car, tur, pre, n, k, kp, kq, ko) ws) (b : Nat) (hb : b < 8) (h0 : 0 < n) (hn : n < 2147483648) : CtP E yX4_knots wsX4_knots ({ frames := 8, cells := 0, slots := 0, locals := 131 }) [.ref x, .int (nI b)] ws (fun o V => o = some (.int (mKn k pre b)) ∧ MWP E x (f, th, m, car, tur, pre, n, k, kp, kq, ko) V) := by
  obtain ⟨A, J, I, kb, hp, hb6, hk⟩ := h
  refine CtP.perm hp (((c_X4_knots E x (A 0) (A 2) (A 7) (A 9) (A 10) (A 11) (A 12) (A 13) (A 14) (A 15) (A 16) (A 17) (A 18) (A 19) (A 20) (A 21) (A 22) (J 4) (J 5) (J 6) (J 7) (J 8) (J 9) (J 10) (J 11) (I 1) (nI m) car tur pre (nI n) kb (nI b) (nI_pos (by omega)) (le_nI (i := 7) (by omega) (by omega)) (sHas_pos h0 hn)).lift (W := MWL E x A J I kb f th m car tur pre n) [0, 10, 11, 12, 13, 14, 15, 16, 17, 18, 19, 20, 21, 22] rfl (by decide)).weaken ?_)
  rintro o V ⟨rfl, rfl⟩
  refine ⟨congrArg (fun z => some (Value.int z)) (kn_tie (hk h0).1 pre hb), A, J, I, kb, ?_, hb6, hk⟩
  exact List.Perm.of_eq (by simp only [MWL, wput, List.set_cons_succ, List.set_cons_zero])

set_option maxHeartbeats 4000000 in
set_option maxRecDepth 100000 in
theorem m_thread0 {E : gE} {x : Nat} {f th : AF} {m : Nat} {car tur pre : Int32} {n : Nat} {k kp : AF} {kq : Nat} {ko : Int32} {ws : va_W} (h : MWP E x (f, th, m, car, tur, pre, n, k, kp, kq, ko) ws) (c : Nat) (hc : c < 6) : CtP E yX4_thread wsX4_thread ({ frames := 8, cells := 0, slots := 0, locals := 131 }) [.ref x, .int (nI c), .int 0] ws (fun o V => o = some (.int (th c)) ∧ MWP E x (f, th, m, car, tur, pre, n, k, kp, kq, ko) V) := by
  obtain ⟨A, J, I, kb, hp, hb6, hk⟩ := h
  refine CtP.perm hp (((c_X4_thread E x (A 0) (A 2) (A 7) (A 8) (A 9) (A 10) (A 11) (A 12) (A 13) (A 14) (A 15) (A 16) (A 17) (A 18) (A 19) (A 20) (A 21) (A 22) th (J 4) (J 5) (J 6) (J 7) (J 8) (J 9) (J 10) (J 11) (I 1) (nI m) car tur pre (nI n) kb (nI c) 0 (nI_pos (by omega)) (le_nI (i := 5) (by omega) (by omega)) (by decide) (by decide)).lift (W := MWL E x A J I kb f th m car tur pre n) [0, 8, 9, 10, 11, 12, 13, 14, 15, 16, 17, 18, 19, 20, 21, 22] rfl (by decide)).weaken ?_)
  rintro o V ⟨rfl, rfl⟩
  refine ⟨congrArg (fun z => some (Value.int z)) (by unfold sThr; rw [if_neg (fun z => z rfl)]; exact sAt_nI hc (by omega)), A, J, I, kb, ?_, hb6, hk⟩
  exact List.Perm.of_eq (by simp only [MWL, wput, List.set_cons_succ, List.set_cons_zero])

set_option maxHeartbeats 4000000 in
set_option maxRecDepth 100000 in
theorem m_thread1 {E : gE} {x : Nat} {f th : AF} {m : Nat} {car tur pre : Int32} {n : Nat} {k kp : AF} {kq : Nat} {ko : Int32} {ws : va_W} (h : MWP E x (f, th, m, car, tur, pre, n, k, kp, kq, ko) ws) (c : Nat) (hc : c < 6) (hn : n < 2147483648) : CtP E yX4_thread wsX4_thread ({ frames := 8, cells := 0, slots := 0, locals := 131 }) [.ref x, .int (nI c), .int 1] ws (fun o V => o = some (.int (if n = 0 then 0 else mCo k (nI c) 96)) ∧ MWP E x (f, th, m, car, tur, pre, n, k, kp, kq, ko) V) := by
  obtain ⟨A, J, I, kb, hp, hb6, hk⟩ := h
  refine CtP.perm hp (((c_X4_thread E x (A 0) (A 2) (A 7) (A 8) (A 9) (A 10) (A 11) (A 12) (A 13) (A 14) (A 15) (A 16) (A 17) (A 18) (A 19) (A 20) (A 21) (A 22) th (J 4) (J 5) (J 6) (J 7) (J 8) (J 9) (J 10) (J 11) (I 1) (nI m) car tur pre (nI n) kb (nI c) 1 (nI_pos (by omega)) (le_nI (i := 5) (by omega) (by omega)) (by decide) (by decide)).lift (W := MWL E x A J I kb f th m car tur pre n) [0, 8, 9, 10, 11, 12, 13, 14, 15, 16, 17, 18, 19, 20, 21, 22] rfl (by decide)).weaken ?_)
  rintro o V ⟨rfl, rfl⟩
  refine ⟨congrArg (fun z => some (Value.int z)) (by
    unfold sThr
    rw [if_pos (by decide), if_neg (fun z => z rfl), sHas_n hn]
    by_cases h0 : n = 0
    · rw [if_pos h0, if_pos rfl, if_pos h0]
    · rw [if_neg h0, if_neg (by decide), if_neg h0, sAt_nI hc (by omega), (hk (by omega)).2.1 c hc, mCo_c]), A, J, I, kb, ?_, hb6, hk⟩
  exact List.Perm.of_eq (by simp only [MWL, wput, List.set_cons_succ, List.set_cons_zero])

set_option maxHeartbeats 4000000 in
set_option maxRecDepth 100000 in
theorem m_thread2 {E : gE} {x : Nat} {f th : AF} {m : Nat} {car tur pre : Int32} {n : Nat} {k kp : AF} {kq : Nat} {ko : Int32} {ws : va_W} (h : MWP E x (f, th, m, car, tur, pre, n, k, kp, kq, ko) ws) (c : Nat) (hc : c < 6) (hn : n < 2147483648) : CtP E yX4_thread wsX4_thread ({ frames := 8, cells := 0, slots := 0, locals := 131 }) [.ref x, .int (nI c), .int 2] ws (fun o V => o = some (.int (if n = 0 then (-1) else if c < kq then kp c else (-1))) ∧ MWP E x (f, th, m, car, tur, pre, n, k, kp, kq, ko) V) := by
  obtain ⟨A, J, I, kb, hp, hb6, hk⟩ := h
  refine CtP.perm hp (((c_X4_thread E x (A 0) (A 2) (A 7) (A 8) (A 9) (A 10) (A 11) (A 12) (A 13) (A 14) (A 15) (A 16) (A 17) (A 18) (A 19) (A 20) (A 21) (A 22) th (J 4) (J 5) (J 6) (J 7) (J 8) (J 9) (J 10) (J 11) (I 1) (nI m) car tur pre (nI n) kb (nI c) 2 (nI_pos (by omega)) (le_nI (i := 5) (by omega) (by omega)) (by decide) (by decide)).lift (W := MWL E x A J I kb f th m car tur pre n) [0, 8, 9, 10, 11, 12, 13, 14, 15, 16, 17, 18, 19, 20, 21, 22] rfl (by decide)).weaken ?_)
  rintro o V ⟨rfl, rfl⟩
  refine ⟨congrArg (fun z => some (Value.int z)) (by
    unfold sThr
    rw [if_pos (by decide), if_pos (by decide), sHas_n hn]
    by_cases h0 : n = 0
    · rw [if_pos h0, if_pos rfl, if_pos h0]
    · obtain ⟨-, -, e1, e2, -⟩ := hk (by omega)
      rw [if_neg h0, if_neg (by decide), if_neg h0]
      by_cases q : c < kq
      · rw [if_pos q, shade_nI (by omega) hb6, e2 c q]
      · unfold sShade
        rw [if_neg q, if_neg (nI_pos (by omega)), if_pos (le_nI (by omega) (by omega))]), A, J, I, kb, ?_, hb6, hk⟩
  exact List.Perm.of_eq (by simp only [MWL, wput, List.set_cons_succ, List.set_cons_zero])

set_option maxHeartbeats 4000000 in
set_option maxRecDepth 100000 in
theorem m_count {E : gE} {x : Nat} {f th : AF} {m : Nat} {car tur pre : Int32} {n : Nat} {k kp : AF} {kq : Nat} {ko : Int32} {ws : va_W} (h : MWP E x (f, th, m, car, tur, pre, n, k, kp, kq, ko) ws) (w : Nat) (hw : w < 8) (hn : n < 2147483648) : CtP E yX4_count wsX4_count ({ frames := 7, cells := 0, slots := 0, locals := 131 }) [.ref x, .int (nI w)] ws (fun o V => o = some (.int (mCnt (nI m) car tur pre (nI n) (if n = 0 then 0 else ko) th k w)) ∧ MWP E x (f, th, m, car, tur, pre, n, k, kp, kq, ko) V) := by
  obtain ⟨A, J, I, kb, hp, hb6, hk⟩ := h
  refine CtP.perm hp (((c_X4_count E x (A 0) (A 2) (A 7) (A 8) (A 9) (A 10) (A 11) (A 12) (A 13) (A 14) (A 15) (A 16) (A 17) (A 18) (A 19) (A 20) (A 21) (A 22) th (J 4) (J 5) (J 6) (J 7) (J 8) (J 9) (J 10) (J 11) (I 1) (nI m) car tur pre (nI n) kb w hw).lift (W := MWL E x A J I kb f th m car tur pre n) [0, 8, 9, 10, 11, 12, 13, 14, 15, 16, 17, 18, 19, 20, 21, 22] rfl (by decide)).weaken ?_)
  rintro o V ⟨rfl, rfl⟩
  refine ⟨congrArg (fun z => some (Value.int z)) (by
    match w, hw with
    | 0, _ => rfl
    | 1, _ => rfl
    | 2, _ => rfl
    | 3, _ => rfl
    | 4, _ => rfl
    | 5, _ => exact hold_tie th 6 (Nat.le_refl _)
    | 6, _ =>
      show (if sHas (nI n) = 0 then 0 else (I 1)) = if n = 0 then 0 else ko
      rw [sHas_n hn]
      by_cases h0 : n = 0
      · rw [if_pos h0, if_pos rfl, if_pos h0]
      · rw [if_neg h0, if_neg (by decide), if_neg h0, (hk (by omega)).2.2.2.2]
    | 7, _ =>
      show (if sHas (nI n) = 0 then 0 else sAK (J 8) (J 10) pre 8) = if nI n ≤ 0 then 0 else mAK k pre 8
      rw [sHas_n hn]
      by_cases h0 : n = 0
      · rw [if_pos h0, if_pos rfl, if_pos ((nI_le0 hn).mpr h0)]
      · rw [if_neg h0, if_neg (by decide), if_neg (fun z => h0 ((nI_le0 hn).mp z)), ak_tie (hk (by omega)).1 pre 8 (Nat.le_refl _)]), A, J, I, kb, ?_, hb6, hk⟩
  exact List.Perm.of_eq (by simp only [MWL, wput, List.set_cons_succ, List.set_cons_zero])

set_option maxHeartbeats 4000000 in
set_option maxRecDepth 100000 in
theorem m_would {E : gE} {x : Nat} {f th : AF} {m : Nat} {car tur pre : Int32} {n : Nat} {k kp : AF} {kq : Nat} {ko : Int32} {ws : va_W} (h : MWP E x (f, th, m, car, tur, pre, n, k, kp, kq, ko) ws) (v : Nat) (w : Int32) (hv2 : 2 ≤ v) (hv6 : v ≤ 6) (hw1 : ¬ w < 0) (hw2 : w ≤ 2) {N : Nat} (hok : OkS N (f, th, m, car, tur, pre, n, k, kp, kq, ko)) : CtP E yX4_would wsX4_would ({ frames := 8, cells := 0, slots := 0, locals := 152 }) [.ref x, .int (nI v), .int w] ws (fun o V => o = some (.int (mWould (PQ f v) (OF f v car tur) (CL f v car tur) pre w)) ∧ MWP E x (f, th, m, car, tur, pre, n, k, kp, kq, ko) V) := by
  obtain ⟨hf, hth, ⟨hm2, hm6⟩, hcar, htur, hpre, hnN, hkc⟩ := hok
  obtain ⟨A, J, I, kb, hp, hb6, hk⟩ := h
  refine CtP.perm hp (((c_X4_would E x (A 0) (A 1) (A 2) (A 7) (A 9) (A 22) (A 23) (A 24) (A 25) (A 26) (A 27) (A 28) (A 29) (A 30) (A 31) (A 32) (A 33) (A 34) f (J 12) (J 13) (J 14) (J 15) (J 16) (J 17) (J 18) (J 19) (I 2) (I 3) (nI m) car tur pre (nI n) v w hv2 hv6 hw1 hw2).lift (W := MWL E x A J I kb f th m car tur pre n) [0, 1, 2, 23, 24, 25, 26, 27, 28, 29, 30, 31, 32, 33, 34, 35] rfl (by decide)).weaken ?_)
  rintro o V ⟨rfl, rfl⟩
  refine ⟨congrArg (fun z => some (Value.int z)) (would_tie hf hv2 hv6 hcar tur pre ((J 12), (J 13), (J 14), (J 15), (I 2), (J 16), (J 17), (J 18), (J 19), (I 3)) w0 w), A, fun i => match i with | 12 => sTally f (J 12) | 13 => sSorted f (J 13) | 14 => (sFitF f (J 13) (J 14) v).1 | 15 => sMnsF f (J 13) (J 14) (J 15) v | 16 => (sMake f v car tur (J 13) (J 14) (J 15) (J 16) (J 17) (J 19) (J 18)).1.1 | 17 => (sMake f v car tur (J 13) (J 14) (J 15) (J 16) (J 17) (J 19) (J 18)).1.2.1 | 18 => (sMake f v car tur (J 13) (J 14) (J 15) (J 16) (J 17) (J 19) (J 18)).2 | 19 => (sMake f v car tur (J 13) (J 14) (J 15) (J 16) (J 17) (J 19) (J 18)).1.2.2.1 | _ => J i, fun i => match i with | 2 => nI (sFitF f (J 13) (J 14) v).2 | 3 => (sMake f v car tur (J 13) (J 14) (J 15) (J 16) (J 17) (J 19) (J 18)).1.2.2.2 | _ => I i, kb, ?_, hb6, hk⟩
  exact List.Perm.of_eq (by simp only [MWL, wput, List.set_cons_succ, List.set_cons_zero])

set_option maxHeartbeats 4000000 in
set_option maxRecDepth 100000 in
theorem m_advise {E : gE} {x : Nat} {f th : AF} {m : Nat} {car tur pre : Int32} {n : Nat} {k kp : AF} {kq : Nat} {ko : Int32} {ws : va_W} (h : MWP E x (f, th, m, car, tur, pre, n, k, kp, kq, ko) ws) (kn : Int32) (h1 : ¬ kn < 0) (h2 : kn ≤ 96) {N : Nat} (hok : OkS N (f, th, m, car, tur, pre, n, k, kp, kq, ko)) : CtP E yX4_advise wsX4_advise ({ frames := 8, cells := 0, slots := 0, locals := 152 }) [.ref x, .int kn] ws (fun o V => o = some (.int ((mAdv f car tur pre kn w0 5).1)) ∧ MWP E x (f, th, m, car, tur, pre, n, k, kp, kq, ko) V) := by
  obtain ⟨hf, hth, ⟨hm2, hm6⟩, hcar, htur, hpre, hnN, hkc⟩ := hok
  obtain ⟨A, J, I, kb, hp, hb6, hk⟩ := h
  refine CtP.perm hp (((c_X4_advise E x (A 0) (A 1) (A 2) (A 7) (A 9) (A 22) (A 23) (A 24) (A 25) (A 26) (A 27) (A 28) (A 29) (A 30) (A 31) (A 32) (A 33) (A 34) f (J 12) (J 13) (J 14) (J 15) (J 16) (J 17) (J 18) (J 19) (I 2) (I 3) (nI m) car tur pre (nI n) kn h1 h2).lift (W := MWL E x A J I kb f th m car tur pre n) [0, 1, 2, 23, 24, 25, 26, 27, 28, 29, 30, 31, 32, 33, 34, 35] rfl (by decide)).weaken ?_)
  rintro o V ⟨rfl, rfl⟩
  refine ⟨congrArg (fun z => some (Value.int z)) ((adv_tie hf hcar tur pre kn ((J 12), (J 13), (J 14), (J 15), (I 2), (J 16), (J 17), (J 18), (J 19), (I 3)) w0 5 (Nat.le_refl _)).1), A, fun i => match i with | 12 => ((sAdv f car tur pre kn ((J 12), (J 13), (J 14), (J 15), (I 2), (J 16), (J 17), (J 18), (J 19), (I 3)) 5).2.2).1 | 13 => ((sAdv f car tur pre kn ((J 12), (J 13), (J 14), (J 15), (I 2), (J 16), (J 17), (J 18), (J 19), (I 3)) 5).2.2).2.1 | 14 => ((sAdv f car tur pre kn ((J 12), (J 13), (J 14), (J 15), (I 2), (J 16), (J 17), (J 18), (J 19), (I 3)) 5).2.2).2.2.1 | 15 => ((sAdv f car tur pre kn ((J 12), (J 13), (J 14), (J 15), (I 2), (J 16), (J 17), (J 18), (J 19), (I 3)) 5).2.2).2.2.2.1 | 16 => ((sAdv f car tur pre kn ((J 12), (J 13), (J 14), (J 15), (I 2), (J 16), (J 17), (J 18), (J 19), (I 3)) 5).2.2).2.2.2.2.2.1 | 17 => ((sAdv f car tur pre kn ((J 12), (J 13), (J 14), (J 15), (I 2), (J 16), (J 17), (J 18), (J 19), (I 3)) 5).2.2).2.2.2.2.2.2.1 | 18 => ((sAdv f car tur pre kn ((J 12), (J 13), (J 14), (J 15), (I 2), (J 16), (J 17), (J 18), (J 19), (I 3)) 5).2.2).2.2.2.2.2.2.2.1 | 19 => ((sAdv f car tur pre kn ((J 12), (J 13), (J 14), (J 15), (I 2), (J 16), (J 17), (J 18), (J 19), (I 3)) 5).2.2).2.2.2.2.2.2.2.2.1 | _ => J i, fun i => match i with | 2 => ((sAdv f car tur pre kn ((J 12), (J 13), (J 14), (J 15), (I 2), (J 16), (J 17), (J 18), (J 19), (I 3)) 5).2.2).2.2.2.2.1 | 3 => ((sAdv f car tur pre kn ((J 12), (J 13), (J 14), (J 15), (I 2), (J 16), (J 17), (J 18), (J 19), (I 3)) 5).2.2).2.2.2.2.2.2.2.2.2 | _ => I i, kb, ?_, hb6, hk⟩
  exact List.Perm.of_eq (by simp only [MWL, wput, List.set_cons_succ, List.set_cons_zero])

set_option maxHeartbeats 4000000 in
set_option maxRecDepth 100000 in
theorem m_mean {E : gE} {x : Nat} {f th : AF} {m : Nat} {car tur pre : Int32} {n : Nat} {k kp : AF} {kq : Nat} {ko : Int32} {ws : va_W} (h : MWP E x (f, th, m, car, tur, pre, n, k, kp, kq, ko) ws)  : CtP E yX4_mean wsX4_mean ({ frames := 2, cells := 0, slots := 0, locals := 43 }) [.ref x] ws (fun o V => o = some (.double (sMean (mSumF f 96))) ∧ MWP E x (f, th, m, car, tur, pre, n, k, kp, kq, ko) V) := by
  obtain ⟨A, J, I, kb, hp, hb6, hk⟩ := h
  refine CtP.perm hp (((c_X4_mean E x (A 0) (A 1) (A 2) (A 7) (A 9) (A 22) f (nI m) car tur pre (nI n) (sMean_n _)).lift (W := MWL E x A J I kb f th m car tur pre n) [0, 1, 2] rfl (by decide)).weaken ?_)
  rintro o V ⟨rfl, rfl⟩
  refine ⟨congrArg (fun z => some (Value.double z)) (by rw [sumA_tie f 8 (Nat.le_refl _)]), A, J, I, kb, ?_, hb6, hk⟩
  exact List.Perm.of_eq (by simp only [MWL, wput, List.set_cons_succ, List.set_cons_zero])

set_option maxHeartbeats 4000000 in
set_option maxRecDepth 100000 in
theorem m_digest {E : gE} {x : Nat} {f th : AF} {m : Nat} {car tur pre : Int32} {n : Nat} {k kp : AF} {kq : Nat} {ko : Int32} {ws : va_W} (h : MWP E x (f, th, m, car, tur, pre, n, k, kp, kq, ko) ws) (hn : n < 2147483648) : CtP E yX4_digest wsX4_digest ({ frames := 6, cells := 0, slots := 0, locals := 131 }) [.ref x] ws (fun o V => o = some (.long (mDG (f, th, m, car, tur, pre, n, k, kp, kq, ko))) ∧ MWP E x (f, th, m, car, tur, pre, n, k, kp, kq, ko) V) := by
  obtain ⟨A, J, I, kb, hp, hb6, hk⟩ := h
  refine CtP.perm hp (((c_X4_digest E x (A 0) (A 1) (A 2) (A 7) (A 8) (A 9) (A 10) (A 11) (A 12) (A 13) (A 14) (A 15) (A 16) (A 17) (A 18) (A 19) (A 20) (A 21) (A 22) f th (J 4) (J 5) (J 6) (J 7) (J 8) (J 9) (J 10) (J 11) (I 1) (nI m) car tur pre (nI n) kb hb6).lift (W := MWL E x A J I kb f th m car tur pre n) [0, 1, 2, 8, 9, 10, 11, 12, 13, 14, 15, 16, 17, 18, 19, 20, 21, 22] rfl (by decide)).weaken ?_)
  rintro o V ⟨rfl, rfl⟩
  refine ⟨congrArg (fun z => some (Value.long z)) (dg_tie hb6 hn hk), A, J, I, kb, ?_, hb6, hk⟩
  exact List.Perm.of_eq (by simp only [MWL, wput, List.set_cons_succ, List.set_cons_zero])

set_option maxHeartbeats 4000000 in
set_option maxRecDepth 100000 in
theorem m_weave {E : gE} {x : Nat} {f th : AF} {m : Nat} {car tur pre : Int32} {n : Nat} {k kp : AF} {kq : Nat} {ko : Int32} {ws : va_W} (h : MWP E x (f, th, m, car, tur, pre, n, k, kp, kq, ko) ws) {N : Nat} (hok : OkS N (f, th, m, car, tur, pre, n, k, kp, kq, ko)) (hs : ∀ c, c < 6 → mCo (CL f m car tur) (nI c) 96 ≤ th c) : CtP E yX4_weave wsX4_weave ({ frames := 7, cells := 0, slots := 0, locals := 152 }) [.ref x] ws (fun o V => o = some (.int (mAK (CL f m car tur) pre 8)) ∧ MWP E x (f, mTk (CL f m car tur) th 6, m, car, tur, pre, n + 1, CL f m car tur, PP f m, PQ f m, OF f m car tur) V) := by
  obtain ⟨hf, hth, ⟨hm2, hm6⟩, hcar, htur, hpre, hnN, hkc⟩ := hok
  obtain ⟨A, J, I, kb, hp, hb6, hk⟩ := h
  obtain ⟨g1, g2, g3, g4, g5⟩ := mkS_tie hf hm2 hm6 hcar tur ((J 12), (J 13), (J 14), (J 15), (I 2), (J 16), (J 17), (J 18), (J 19), (I 3))
  dsimp only [csFw, csFr, csOff, csFu, csBx, sMakeS] at g1 g2 g3 g4 g5
  obtain ⟨e1, -⟩ := fitF_tie hf (J 13) z0 (J 14) (m := m) (by omega) hm6
  have e1 : (sFitF f (J 13) (J 14) m).2 = PQ f m := e1
  have hq6 := mFit_m f z0 (m := m) (by omega)
  refine CtP.perm hp (((c_X4_weave E x (A 0) (A 1) (A 2) (A 7) (A 8) (A 9) (A 22) (A 23) (A 24) (A 25) (A 26) (A 27) (A 28) (A 29) (A 30) (A 31) (A 32) (A 33) (A 34) f th (J 12) (J 13) (J 14) (J 15) (J 16) (J 17) (J 18) (J 19) (I 2) (I 3) car tur pre (nI n) m hm2 hm6 (fun z => absurd ((((suf_tie g3).trans (pIf_pos hs)).symm).trans z) (by decide))).lift (W := MWL E x A J I kb f th m car tur pre n) [0, 1, 2, 8, 9, 23, 24, 25, 26, 27, 28, 29, 30, 31, 32, 33, 34, 35] rfl (by decide)).weaken ?_)
  rintro o V ⟨rfl, rfl⟩
  refine ⟨congrArg (fun z => some (Value.int z)) (ak_tie g1 pre 8 (Nat.le_refl _)), fun i => match i with | 9 => A 22 | 10 => A 23 | 11 => A 24 | 12 => A 25 | 13 => A 26 | 14 => A 27 | 15 => A 28 | 16 => A 29 | 17 => A 30 | 18 => A 31 | 19 => A 32 | 20 => A 33 | 21 => A 34 | 22 => A 9 | 23 => A 10 | 24 => A 11 | 25 => A 12 | 26 => A 13 | 27 => A 14 | 28 => A 15 | 29 => A 16 | 30 => A 17 | 31 => A 18 | 32 => A 19 | 33 => A 20 | 34 => A 21 | _ => A i, fun i => match i with | 4 => sTally f (J 12) | 5 => sSorted f (J 13) | 6 => (sFitF f (J 13) (J 14) m).1 | 7 => sMnsF f (J 13) (J 14) (J 15) m | 8 => (sMake f m car tur (J 13) (J 14) (J 15) (J 16) (J 17) (J 19) (J 18)).1.1 | 9 => (sMake f m car tur (J 13) (J 14) (J 15) (J 16) (J 17) (J 19) (J 18)).1.2.1 | 10 => (sMake f m car tur (J 13) (J 14) (J 15) (J 16) (J 17) (J 19) (J 18)).2 | 11 => (sMake f m car tur (J 13) (J 14) (J 15) (J 16) (J 17) (J 19) (J 18)).1.2.2.1 | 12 => (J 4) | 13 => (J 5) | 14 => (J 6) | 15 => (J 7) | 16 => (J 8) | 17 => (J 9) | 18 => (J 10) | 19 => (J 11) | _ => J i, fun i => match i with | 1 => (sMake f m car tur (J 13) (J 14) (J 15) (J 16) (J 17) (J 19) (J 18)).1.2.2.2 | 2 => nI kb | 3 => (I 1) | _ => I i, (sFitF f (J 13) (J 14) m).2, ?_, by rw [e1]; show (mFit f z0 m).2 ≤ 6; omega, fun _ => ⟨g1, g3, e1, g5, g2⟩⟩
  simp only [MWL, wput, List.set_cons_succ, List.set_cons_zero]
  rw [show sTake (sMake f m car tur (J 13) (J 14) (J 15) (J 16) (J 17) (J 19) (J 18)).1.2.2.1 th 6 = mTk (CL f m car tur) th 6 from take_tie g3 6 (Nat.le_refl _), nI_1]
  exact mw_swap _ _ _ _ _ _ _ _ _ _ _ _ _ _ _ _ _ _ _ _ _ _ _ _ _ _ _ _ _ _ _ _ _ _ _ _
set_option maxHeartbeats 4000000 in
set_option maxRecDepth 100000 in
theorem m_weaveX {E : gE} {x : Nat} {f th : AF} {m : Nat} {car tur pre : Int32} {n : Nat} {k kp : AF} {kq : Nat} {ko : Int32} {ws : va_W} (h : MWP E x (f, th, m, car, tur, pre, n, k, kp, kq, ko) ws) {N : Nat} (hok : OkS N (f, th, m, car, tur, pre, n, k, kp, kq, ko)) (hs : ¬ ∀ c, c < 6 → mCo (CL f m car tur) (nI c) 96 ≤ th c) : CtXP E yX4_weave wsX4_weave ({ frames := 7, cells := 1, slots := 6, locals := 152 }) [.ref x] ws "java/lang/IllegalStateException" (fun V => MWP E x (f, th, m, car, tur, pre, n, k, kp, kq, ko) V) := by
  obtain ⟨hf, hth, ⟨hm2, hm6⟩, hcar, htur, hpre, hnN, hkc⟩ := hok
  obtain ⟨A, J, I, kb, hp, hb6, hk⟩ := h
  obtain ⟨g1, g2, g3, g4, g5⟩ := mkS_tie hf hm2 hm6 hcar tur ((J 12), (J 13), (J 14), (J 15), (I 2), (J 16), (J 17), (J 18), (J 19), (I 3))
  dsimp only [csFw, csFr, csOff, csFu, csBx, sMakeS] at g1 g2 g3 g4 g5
  have h0 : sSuf (sMake f m car tur (J 13) (J 14) (J 15) (J 16) (J 17) (J 19) (J 18)).1.2.2.1 th = 0 := (suf_tie g3).trans (pIf_neg hs)
  refine (CtX.lift (W := MWL E x A J I kb f th m car tur pre n) (x_X4_weave E x (A 0) (A 1) (A 2) (A 7) (A 8) (A 9) (A 22) (A 23) (A 24) (A 25) (A 26) (A 27) (A 28) (A 29) (A 30) (A 31) (A 32) (A 33) (A 34) f th (J 12) (J 13) (J 14) (J 15) (J 16) (J 17) (J 18) (J 19) (I 2) (I 3) car tur pre (nI n) m hm2 hm6 h0) hp [0, 1, 2, 8, 9, 23, 24, 25, 26, 27, 28, 29, 30, 31, 32, 33, 34, 35] rfl (by decide)).weaken ?_
  rintro V rfl
  refine ⟨A, fun i => match i with | 12 => sTally f (J 12) | 13 => sSorted f (J 13) | 14 => (sFitF f (J 13) (J 14) m).1 | 15 => sMnsF f (J 13) (J 14) (J 15) m | 16 => (sMake f m car tur (J 13) (J 14) (J 15) (J 16) (J 17) (J 19) (J 18)).1.1 | 17 => (sMake f m car tur (J 13) (J 14) (J 15) (J 16) (J 17) (J 19) (J 18)).1.2.1 | 18 => (sMake f m car tur (J 13) (J 14) (J 15) (J 16) (J 17) (J 19) (J 18)).2 | 19 => (sMake f m car tur (J 13) (J 14) (J 15) (J 16) (J 17) (J 19) (J 18)).1.2.2.1 | _ => J i, fun i => match i with | 2 => nI (sFitF f (J 13) (J 14) m).2 | 3 => (sMake f m car tur (J 13) (J 14) (J 15) (J 16) (J 17) (J 19) (J 18)).1.2.2.2 | _ => I i, kb, ?_, hb6, hk⟩
  exact List.Perm.of_eq (by simp only [MWL, wput, List.set_cons_succ, List.set_cons_zero])
end MWX
