/-! what holds at the law's entry -/
section PENTRY
set_option maxRecDepth 20000 in
theorem st_nest : ∀ w ∈ gNq.map (fun q => Cond.methodLinkNest q.1 q.2.1 q.2.2 "TapestryRuns"), w ∈ lw_tbl := wsL_sub [43, 54, 80, 89, 94, 96, 120, 234, 235, 257, 259, 260, 347, 352, 412, 433, 434, 480, 488, 497, 634] rfl
set_option maxRecDepth 20000 in
theorem st_cast : ∀ w ∈ gExc.map (fun x => Cond.castable x x), w ∈ lw_tbl := wsL_sub [164, 392, 312] rfl
set_option maxRecDepth 20000 in
theorem st_dec : ∀ w ∈ gDec.map Cond.declares, w ∈ lw_tbl := wsL_sub [166, 168, 170] rfl
set_option maxRecDepth 20000 in
theorem st_str : ∀ w ∈ gStr.map (fun q => Cond.stringRef RX4 q.1 q.2), w ∈ lw_tbl := wsL_sub [203, 399, 248, 662, 319] rfl
set_option maxRecDepth 20000 in
theorem st_misc : ∀ w ∈ [Cond.laysStatic Bundle.tN "UNASSIGNED_STACK" Bundle.steD, Cond.laysStatic Bundle.tN "SUPPRESSED_SENTINEL" Bundle.listD, Cond.initialized Bundle.tN, Cond.arrayClass .int, Cond.arrayOver (.array .int), Cond.castable "[I" "java/lang/Cloneable", Cond.arrayClass .boolean], w ∈ lw_tbl := wsL_sub [189, 191, 26, 51, 553, 600, 719] rfl
set_option maxRecDepth 20000 in
theorem st_inst : ∀ w ∈ [Cond.instantiable RX0 6, Cond.instantiable RX1 1, Cond.instantiable RX2 5, Cond.instantiable RX3 1, Cond.instantiable RX4 10, Cond.instantiable RX5 10], w ∈ lw_tbl := wsL_sub [88, 42, 53, 75, 34, 675] rfl
/-- the classes and the three kinds of rows -/
theorem st_K {s : State} {b : Nat} (hts : ∀ w ∈ lw_tbl, w.before #[Value.ref b] s = true) : ∃ (D : va_G) (cI : ClassId), va_K D vwCl [(cI, .int), (D.1 100, .array .int), (D.1 101, .boolean)] s := by
  obtain ⟨c0, j0, k0⟩ := u_known (C := RX0) (T := TX0) (N := 6) (n := 6) hts inX0 (hts _ (st_inst _ (List.mem_of_getElem? (i := 0) rfl)))
  obtain ⟨c1, j1, k1⟩ := u_known (C := RX1) (T := TX1) (N := 1) (n := 1) hts inX1 (hts _ (st_inst _ (List.mem_of_getElem? (i := 1) rfl)))
  obtain ⟨c2, j2, k2⟩ := u_known (C := RX2) (T := TX2) (N := 5) (n := 5) hts inX2 (hts _ (st_inst _ (List.mem_of_getElem? (i := 2) rfl)))
  obtain ⟨c3, j3, k3⟩ := u_known (C := RX3) (T := TX3) (N := 1) (n := 1) hts inX3 (hts _ (st_inst _ (List.mem_of_getElem? (i := 3) rfl)))
  obtain ⟨c4, j4, k4⟩ := u_known (C := RX4) (T := TX4) (N := 10) (n := 10) hts inX4 (hts _ (st_inst _ (List.mem_of_getElem? (i := 4) rfl)))
  obtain ⟨c5, j5, k5⟩ := u_known (C := RX5) (T := TX5) (N := 10) (n := 10) hts inX5 (hts _ (st_inst _ (List.mem_of_getElem? (i := 5) rfl)))
  obtain ⟨cI, kI, pI, a1, a2, a3⟩ := Cond.arrayClass_spec (hts _ (st_misc _ (List.mem_of_getElem? (i := 3) rfl)))
  obtain ⟨pG, cG, kG, -, -, g2, g3, g1⟩ := arrayOverA_spec (hts _ (st_misc _ (List.mem_of_getElem? (i := 4) rfl)))
  obtain ⟨cZ, kZ, pZ, z1, z2, z3⟩ := Cond.arrayClass_spec (hts _ (st_misc _ (List.mem_of_getElem? (i := 6) rfl)))
  obtain ⟨dC, dI, hKc, h100, h101⟩ : ∃ (dC : Nat → ClassId) (dI : Nat → Nat → Nat), (∀ (k : Nat) (q : vw_C), vwCl[k]? = some q → u_Kn s q.1 q.2.1 q.2.2 (dC k) (dI k)) ∧ dC 100 = cG ∧ dC 101 = cZ := by
    refine ⟨fun k => if k = 0 then c0 else if k = 1 then c1 else if k = 2 then c2 else if k = 3 then c3 else if k = 4 then c4 else if k = 5 then c5 else if k = 100 then cG else cZ, fun k => match k with | 0 => j0 | 1 => j1 | 2 => j2 | 3 => j3 | 4 => j4 | _ => j5, ?_, rfl, rfl⟩
    intro k q hq
    match k, hq with
    | 0, hq => cases hq; exact k0
    | 1, hq => cases hq; exact k1
    | 2, hq => cases hq; exact k2
    | 3, hq => cases hq; exact k3
    | 4, hq => cases hq; exact k4
    | 5, hq => cases hq; exact k5
    | k + 6, hq => simp at hq
  refine ⟨(dC, dI), cI, ⟨hKc, fun k q h => ?_⟩⟩
  match k, h with
  | 0, h => cases h; exact ⟨fun n z => ⟨fun k h => (by cases h), kI, a2, pI, a3⟩, a1⟩
  | 1, h =>
    cases h
    show ArrOfT s (dC 100) (.array .int) ∧ va_RA s (dC 100) (.array .int)
    rw [h100]
    exact ⟨fun n z => ⟨fun k h => (by cases h), kG, g2, pG, g3⟩, g1⟩
  | 2, h =>
    cases h
    show ArrOfT s (dC 101) .boolean ∧ va_RA s (dC 101) .boolean
    rw [h101]
    exact ⟨fun n z => ⟨fun k h => (by cases h), kZ, z2, pZ, z3⟩, z1⟩
  | k + 3, h => simp at h
theorem st_Nq {s : State} {b : Nat} (hts : ∀ w ∈ lw_tbl, w.before #[Value.ref b] s = true) : ∀ q ∈ gNq, va_Nw (.methodLinkNest q.1 q.2.1 q.2.2 "TapestryRuns") s := fun q hq => va_Nw.of rfl (hts _ (st_nest _ (List.mem_map_of_mem hq)))
theorem st_T {l : Launch} (hfl : l.flags = flags0) {D : va_G} {cI : ClassId} {s : State} {b : Nat} (hts : ∀ w ∈ lw_tbl, w.before #[Value.ref b] s = true) (hK : va_K D vwCl [(cI, .int), (D.1 100, .array .int), (D.1 101, .boolean)] s) : gTD (l, D, cI) s := by
  refine ⟨⟨?_, ?_, ?_⟩, ?_⟩
  · show l.stackTraces = false
    unfold Launch.stackTraces
    rw [hfl]
    decide
  · intro q hq
    have h1 := hts _ (st_str _ (List.mem_map_of_mem hq))
    have hc : s.vm.findClass RX4 = some (D.1 4) := (hK.1 4 (RX4, TX4, 10) rfl).2.1
    obtain ⟨k, cf, i, a, -, -, -, -, -, hev⟩ := Cond.stringRef_spec hc h1
    refine ⟨a, vk_R.of h1 ?_⟩
    exact hev
  · exact fun x hx => va_Nw.of rfl (hts _ (st_cast _ (List.mem_map_of_mem hx)))
  · exact fun y hy => va_Nw.of rfl (hts _ (st_dec _ (List.mem_map_of_mem hy)))
set_option maxRecDepth 20000 in
theorem st_nar : ∀ w ∈ [Cond.isRef (.static Bundle.tN "UNASSIGNED_STACK" Bundle.steD), Cond.isRef (.static Bundle.tN "SUPPRESSED_SENTINEL" Bundle.listD)], w ∈ flatC (Jvm.Cond.and given_1 narrow_1) := by decide +kernel
theorem st_Z {s : State} {b : Nat} (hts : ∀ w ∈ lw_tbl, w.before #[Value.ref b] s = true) (hgv : (Jvm.Cond.and given_1 narrow_1).before #[Value.ref b] s = true) : gZ (fun q : Nat => s.heap.size ≤ q) s s.heap := by
  have hs := flat_of_before _ hgv
  have hi := hts _ (st_misc _ (List.mem_of_getElem? (i := 2) rfl))
  exact ⟨vx_Zqof (hts _ (st_misc _ (List.mem_of_getElem? (i := 0) rfl))) hi (hs _ (st_nar _ (List.mem_of_getElem? (i := 0) rfl))) (fun a h => Nat.not_le.mpr h),
    vx_Zqof (hts _ (st_misc _ (List.mem_of_getElem? (i := 1) rfl))) hi (hs _ (st_nar _ (List.mem_of_getElem? (i := 1) rfl))) (fun a h => Nat.not_le.mpr h)⟩
end PENTRY
