/-! what holds at the law's entry -/
section PENTRY
set_option maxRecDepth 20000 in
theorem st_nest : ∀ w ∈ gNq.map (fun q => Cond.methodLinkNest q.1 q.2.1 q.2.2 "TapestryRuns"), w ∈ lw_tbl := wsL_sub [58, 69, 95, 104, 109, 111, 135, 183, 186, 208, 238, 246, 255, 364, 435, 457, 459, 460, 490, 512, 513] rfl
set_option maxRecDepth 20000 in
theorem st_cast : ∀ w ∈ gExc.map (fun x => Cond.castable x x), w ∈ lw_tbl := wsL_sub [272, 346, 543] rfl
set_option maxRecDepth 20000 in
theorem st_dec : ∀ w ∈ gDec.map Cond.declares, w ∈ lw_tbl := wsL_sub [274, 276, 278] rfl
set_option maxRecDepth 20000 in
theorem st_str : ∀ w ∈ gStr.map (fun q => Cond.stringRef RX4 q.1 q.2), w ∈ lw_tbl := wsL_sub [311, 353, 380, 550, 592] rfl
set_option maxRecDepth 20000 in
theorem st_misc : ∀ w ∈ [Cond.laysStatic Bundle.tN "UNASSIGNED_STACK" Bundle.steD, Cond.laysStatic Bundle.tN "SUPPRESSED_SENTINEL" Bundle.listD, Cond.initialized Bundle.tN, Cond.arrayClass .int, Cond.arrayClass .long], w ∈ lw_tbl := wsL_sub [297, 299, 40, 66, 908] rfl
set_option maxRecDepth 20000 in
theorem st_inst : ∀ w ∈ [Cond.instantiable RX0 6, Cond.instantiable RX1 1, Cond.instantiable RX2 5, Cond.instantiable RX3 1, Cond.instantiable RX4 10, Cond.instantiable RX5 19], w ∈ lw_tbl := wsL_sub [103, 57, 68, 90, 49, 666] rfl
/-- the classes and the two kinds of rows -/
theorem st_K {s : State} {b : Nat} (hts : ∀ w ∈ lw_tbl, w.before #[Value.ref b] s = true) : ∃ (D : va_G) (cI cL : ClassId), va_K D vwCl [(cI, .int)] s ∧ va_K D vwCl [(cL, .long)] s := by
  obtain ⟨c0, j0, k0⟩ := u_known (C := RX0) (T := TX0) (N := 6) (n := 6) hts inX0 (hts _ (st_inst _ (List.mem_of_getElem? (i := 0) rfl)))
  obtain ⟨c1, j1, k1⟩ := u_known (C := RX1) (T := TX1) (N := 1) (n := 1) hts inX1 (hts _ (st_inst _ (List.mem_of_getElem? (i := 1) rfl)))
  obtain ⟨c2, j2, k2⟩ := u_known (C := RX2) (T := TX2) (N := 5) (n := 5) hts inX2 (hts _ (st_inst _ (List.mem_of_getElem? (i := 2) rfl)))
  obtain ⟨c3, j3, k3⟩ := u_known (C := RX3) (T := TX3) (N := 1) (n := 1) hts inX3 (hts _ (st_inst _ (List.mem_of_getElem? (i := 3) rfl)))
  obtain ⟨c4, j4, k4⟩ := u_known (C := RX4) (T := TX4) (N := 10) (n := 10) hts inX4 (hts _ (st_inst _ (List.mem_of_getElem? (i := 4) rfl)))
  obtain ⟨c5, j5, k5⟩ := u_known (C := RX5) (T := TX5) (N := 19) (n := 19) hts inX5 (hts _ (st_inst _ (List.mem_of_getElem? (i := 5) rfl)))
  obtain ⟨cI, kI, pI, a1, a2, a3⟩ := Cond.arrayClass_spec (hts _ (st_misc _ (List.mem_of_getElem? (i := 3) rfl)))
  obtain ⟨cL, kL, pL, b1, b2, b3⟩ := Cond.arrayClass_spec (hts _ (st_misc _ (List.mem_of_getElem? (i := 4) rfl)))
  obtain ⟨dC, dI, hKc⟩ : ∃ (dC : Nat → ClassId) (dI : Nat → Nat → Nat), ∀ (k : Nat) (q : vw_C), vwCl[k]? = some q → u_Kn s q.1 q.2.1 q.2.2 (dC k) (dI k) := by
    refine ⟨fun k => match k with | 0 => c0 | 1 => c1 | 2 => c2 | 3 => c3 | 4 => c4 | _ => c5, fun k => match k with | 0 => j0 | 1 => j1 | 2 => j2 | 3 => j3 | 4 => j4 | _ => j5, ?_⟩
    intro k q hq
    match k, hq with
    | 0, hq => cases hq; exact k0
    | 1, hq => cases hq; exact k1
    | 2, hq => cases hq; exact k2
    | 3, hq => cases hq; exact k3
    | 4, hq => cases hq; exact k4
    | 5, hq => cases hq; exact k5
    | k + 6, hq => simp at hq
  refine ⟨(dC, dI), cI, cL, ⟨hKc, fun k q h => ?_⟩, ⟨hKc, fun k q h => ?_⟩⟩
  · match k, h with
    | 0, h => cases h; exact ⟨fun n z => ⟨fun k h => (by cases h), kI, a2, pI, a3⟩, a1⟩
    | k + 1, h => simp at h
  · match k, h with
    | 0, h => cases h; exact ⟨fun n z => ⟨fun k h => (by cases h), kL, b2, pL, b3⟩, b1⟩
    | k + 1, h => simp at h
theorem st_Nq {s : State} {b : Nat} (hts : ∀ w ∈ lw_tbl, w.before #[Value.ref b] s = true) : ∀ q ∈ gNq, va_Nw (.methodLinkNest q.1 q.2.1 q.2.2 "TapestryRuns") s := fun q hq => va_Nw.of rfl (hts _ (st_nest _ (List.mem_map_of_mem hq)))
theorem st_T {l : Launch} (hfl : l.flags = flags0) {D : va_G} {cI : ClassId} {s : State} {b : Nat} (hts : ∀ w ∈ lw_tbl, w.before #[Value.ref b] s = true) (hK : va_K D vwCl [(cI, .int)] s) : gTD (l, D, cI) s := by
  refine ⟨⟨?_, ?_, ?_⟩, ?_⟩
  · show l.stackTraces = false
    unfold Launch.stackTraces
    rw [hfl]
    decide
  · intro q hq
    have h1 := hts _ (st_str _ (List.mem_map_of_mem hq))
    have hc : s.vm.findClass RX4 = some (D.1 4) := (hK.1 4 (RX4, TX4, 10) rfl).2.1
    obtain ⟨k, cf, i, a, -, -, -, -, -, hev⟩ := Cond.stringRef_spec hc h1
    refine ⟨a, vk_R.of h1 ?_⟩
    exact hev
  · exact fun x hx => va_Nw.of rfl (hts _ (st_cast _ (List.mem_map_of_mem hx)))
  · exact fun y hy => va_Nw.of rfl (hts _ (st_dec _ (List.mem_map_of_mem hy)))
set_option maxRecDepth 20000 in
theorem st_nar : ∀ w ∈ [Cond.isRef (.static Bundle.tN "UNASSIGNED_STACK" Bundle.steD), Cond.isRef (.static Bundle.tN "SUPPRESSED_SENTINEL" Bundle.listD), Cond.not (.castable xIA xIO), Cond.not (.castable xIS xIO), Cond.not (.castable xIO xIA)], w ∈ flatC (Jvm.Cond.and given_1 narrow_1) := by decide +kernel
theorem st_Nc {s : State} {b : Nat} (hgv : (Jvm.Cond.and given_1 narrow_1).before #[Value.ref b] s = true) : ∀ q ∈ gNcL, va_Nc q.1 q.2 s := by
  have hs := flat_of_before _ hgv
  intro q hq
  rcases List.mem_cons.mp hq with e | hq
  · subst e
    exact va_Nc.of (hs _ (st_nar _ (List.mem_of_getElem? (i := 2) rfl)))
  · rcases List.mem_cons.mp hq with e | hq
    · subst e
      exact va_Nc.of (hs _ (st_nar _ (List.mem_of_getElem? (i := 3) rfl)))
    · rcases List.mem_cons.mp hq with e | hq
      · subst e
        exact va_Nc.of (hs _ (st_nar _ (List.mem_of_getElem? (i := 4) rfl)))
      · cases hq
theorem st_Z {s : State} {b : Nat} (hts : ∀ w ∈ lw_tbl, w.before #[Value.ref b] s = true) (hgv : (Jvm.Cond.and given_1 narrow_1).before #[Value.ref b] s = true) : gZ (fun q : Nat => s.heap.size ≤ q) s s.heap := by
  have hs := flat_of_before _ hgv
  have hi := hts _ (st_misc _ (List.mem_of_getElem? (i := 2) rfl))
  exact ⟨vx_Zqof (hts _ (st_misc _ (List.mem_of_getElem? (i := 0) rfl))) hi (hs _ (st_nar _ (List.mem_of_getElem? (i := 0) rfl))) (fun a h => Nat.not_le.mpr h),
    vx_Zqof (hts _ (st_misc _ (List.mem_of_getElem? (i := 1) rfl))) hi (hs _ (st_nar _ (List.mem_of_getElem? (i := 1) rfl))) (fun a h => Nat.not_le.mpr h)⟩
/-! the first rows -/
theorem fill_eq (x : Int32) (f : AF) : ∀ n, n < 2147483648 → sFill x f n = aFill x f n
  | 0, _ => rfl
  | n + 1, h => by rw [sFill, aFill, fill_eq x f n (by omega), cl_nI (by omega)]
theorem fill_at (x : Int32) (f : AF) : ∀ n j, j < n → aFill x f n j = x
  | 0, j, h => absurd h (Nat.not_lt_zero _)
  | n + 1, j, h => by
    rw [aFill]
    show (if j = n then x else aFill x f n j) = x
    by_cases e : j = n
    · rw [if_pos e]
    · rw [if_neg e]
      exact fill_at x f n j (by omega)
theorem okF_0 : okF (aFill 128 (fun _ => 0) 96) := fun j hj => ⟨128, by omega, fill_at 128 _ 96 j hj⟩
end PENTRY
