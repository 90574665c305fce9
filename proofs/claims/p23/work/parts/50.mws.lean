/-! a loom that cells choose -/
section MWS
theorem spl_0 : sFill 200 (fun _ => 0) 6 = upd (upd (upd (upd (upd (upd (fun _ => 0) 0 200) 1 200) 2 200) 3 200) 4 200) 5 200 := by
  simp only [sFill]
  rfl
theorem fill_at (x : Int32) (f : AF) : ∀ n, n < 2147483648 → ∀ j, sFill x f n j = if j < n then x else f j
  | 0, _, j => by rw [if_neg (by omega)]; rfl
  | n + 1, hn, j => by
    rw [sFill, nI_clamp (show n < 2 ^ 31 by omega)]
    by_cases e : j = n
    · subst e; rw [pk_us, if_pos (by omega)]
    · rw [pk_un e, fill_at x f n (by omega)]
      by_cases h : j < n
      · rw [if_pos h, if_pos (by omega)]
      · rw [if_neg h, if_neg (by omega)]
/-- as it is at first -/
def sg0 : SG := (sFill 128 (fun _ => 0) 96, sFill 200 (fun _ => 0) 6, 3, 2, 0, 0, 0, z0, z0, 0, 0)
theorem ok_0 : OkS 0 sg0 := by
  refine ⟨fun j hj => ⟨128, by omega, ?_⟩, fun c hc => ⟨200, by omega, ?_⟩, ⟨by omega, by omega⟩, Or.inr (Or.inr rfl), Or.inl rfl, Or.inl rfl, Nat.le_refl _, fun h => absurd h (Nat.lt_irrefl 0)⟩
  · rw [fill_at _ _ _ (by omega), if_pos hj]; rfl
  · rw [fill_at _ _ _ (by omega), if_pos hc]; rfl
theorem OkS.mono {N M : Nat} {σ : SG} (h : OkS N σ) (hm : N ≤ M) : OkS M σ := by
  obtain ⟨f, th, m, car, tur, pre, n, k, kp, kq, ko⟩ := σ
  exact ⟨h.1, h.2.1, h.2.2.1, h.2.2.2.1, h.2.2.2.2.1, h.2.2.2.2.2.1, Nat.le_trans h.2.2.2.2.2.2.1 hm, h.2.2.2.2.2.2.2⟩
theorem sim_0 {E : gE} {b : Nat} {a : Nat → Nat} : SWP E b sg0 ([(b, .inr (5, [.ref (a 0), .int 3, .int 2, .int 0, .int 0, .ref (a 1), .int 0, .ref (a 2), .ref (a 3), .int 0])), ((a 0), qE E 8 (fun j => a (j + 4))), ((a 1), .inl (E.2.2, 6, .inl (upd (upd (upd (upd (upd (upd (fun _ => 0) 0 200) 1 200) 2 200) 3 200) 4 200) 5 200)))] ++ (gW E (fun j => a (j + 4)) (fun _ => 12) (fun _ _ => 128) 8 ++ [((a 2), .inl (E.2.2, 0, .inl (fun _ => 0))), ((a 3), qF E 0 (fun _ => none))])) := by
  rw [← spl_0]
  exact ⟨a 0, a 1, a 2, a 3, fun j => a (j + 4), fun _ _ => 128, 0, _, rfl, fun y hy x hx => by rw [fill_at _ _ _ (by omega), if_pos (by omega)], Or.inl ⟨rfl, rfl, rfl⟩⟩
theorem sim_perm {a b c d e : Nat × va_E} {g wm : va_W} : (wm ++ ([a, b, c, d, e] ++ (g ++ []))).Perm (([a, b, c] ++ (g ++ [d, e])) ++ wm) := by
  refine List.perm_append_comm.trans (List.Perm.append_right wm ?_)
  rw [List.append_nil]
  show ([a, b, c] ++ ([d, e] ++ g)).Perm _
  exact List.Perm.append_left _ List.perm_append_comm
theorem nd_of {l : List Nat} (h : l.Nodup) : va_nd l = true := by
  induction l with
  | nil => rfl
  | cons a l ih =>
    rw [List.nodup_cons] at h
    simp only [va_nd, Bool.and_eq_true, decide_eq_true_eq]
    exact ⟨h.1, ih h.2⟩
theorem nd_all (ws : va_W) : (List.range ws.length).map (fun i => ws[i]?) = ws.map some := by
  apply List.ext_getElem?
  intro i
  rw [List.getElem?_map, List.getElem?_map]
  by_cases h : i < ws.length
  · rw [List.getElem?_range h, List.getElem?_eq_getElem h]
    simp [h]
  · rw [List.getElem?_eq_none (by simpa using h), List.getElem?_eq_none (by simpa using h)]
    rfl
theorem nd_x {x : Nat × va_E} {ws : va_W} : (0 :: (List.range ws.length).map Nat.succ).map (fun i => (x :: ws)[i]?) = (x :: ws).map some ∧ va_nd (0 :: (List.range ws.length).map Nat.succ) = true := by
  rw [← List.range_succ_eq_map]
  exact ⟨nd_all (x :: ws), nd_of List.nodup_range⟩
theorem nd_2 {n : Nat} : va_nd (0 :: (List.range n).map Nat.succ) = true := by
  rw [← List.range_succ_eq_map]
  exact nd_of List.nodup_range
theorem g_gen {E : gE} {X : gX} {cells slots pc : Nat} {L : List (Nat × Value)} {st : List Value} {ws : va_W} {x : Int32} (k : ∀ v, G E X cells slots pc L (.int v :: st) ws) : G E X cells slots pc L (.int x :: st) ws := k x
set_option maxHeartbeats 4000000 in
set_option maxRecDepth 100000 in
theorem c_L_build {E : gE} {x bS nS : Nat} {xs : Nat → Int32} {wm : va_W} (hnS : nS < 2147483648) (hm : MWP E x sg0 wm) : CtL E bS nS xs yL_build wsL_build ({ frames := 10, cells := 4513, slots := 77700, locals := 199 }) [.ref x, .ref bS] wm (fun o V => ∃ y σ ws wm', o = some (.ref y) ∧ V = ws ++ wm' ∧ SWP E y σ ws ∧ MWP E x σ wm' ∧ OkS 30 σ) := by
  refine CtL.of (cc := cL_build) (maxL := 5) (ret := some (.object "TapestryRunsLaw$Sim")) (own := RL) (L := [(0, .ref x), (1, .ref bS)]) (by decide) rfl rfl (Nat.le_of_ble_eq_true rfl) rfl ?_
  intro X F S hQ
  have i5 : ∀ w ∈ u_ws RX5 TX5 10, w ∈ wsL_build := gsub [339, 340, 341, 342, 343, 344, 345, 346, 347, 348] rfl
  refine g_new (ci := 5) (fs := [.null, .int 0, .int 0, .int 0, .int 0, .null, .int 0, .null, .null, .int 0]) F dL_build_0 i5 tyX5 tyX5_ok (List.mem_of_getElem? (i := 1) rfl) (List.mem_of_getElem? (i := 2) rfl) (List.mem_of_getElem? (i := 3) rfl) rfl (by intro j hj; match j, hj with | 0, _ => rfl | 1, _ => rfl | 2, _ => rfl | 3, _ => rfl | 4, _ => rfl | 5, _ => rfl | 6, _ => rfl | 7, _ => rfl | 8, _ => rfl | 9, _ => rfl) (by show 0 + 1 ≤ 4513; omega) (by show 0 + 10 ≤ 77700; omega) (fun q0 => ?_)
  refine g_dup F dL_build_3 rfl ?_
  refine g_front ?_
  refine g_callI (q0 := 0) (isR := (List.range wm.length).map Nat.succ) (wsR := wm) F dL_build_4 (c_X5_init E q0) rfl gL_build_X5_init (List.mem_of_getElem? (i := 3) rfl) (List.mem_of_getElem? (i := 6) rfl) (List.mem_of_getElem? (i := 5) rfl) rfl ⟨by decide, by decide, by decide +kernel⟩ ⟨by decide, by decide⟩ nd_x.1 nd_2 rfl (by exact Nat.le_of_ble_eq_true rfl) ⟨by show 0 + 1 + 12 ≤ 4513; omega, by show 0 + 10 + 110 ≤ 77700; omega⟩ (fun a4 => ?_)
  refine g_perm sim_perm ?_
  obtain ⟨ws0, hw0⟩ : ∃ w, w = ([(q0, .inr (5, [.ref (a4 0), .int 3, .int 2, .int 0, .int 0, .ref (a4 1), .int 0, .ref (a4 2), .ref (a4 3), .int 0])), ((a4 0), qE E 8 (fun j => a4 (j + 4))), ((a4 1), .inl (E.2.2, 6, .inl (upd (upd (upd (upd (upd (upd (fun _ => 0) 0 200) 1 200) 2 200) 3 200) 4 200) 5 200)))] ++ (gW E (fun j => a4 (j + 4)) (fun _ => 12) (fun _ _ => 128) 8 ++ [((a4 2), .inl (E.2.2, 0, .inl (fun _ => 0))), ((a4 3), qF E 0 (fun _ => none))])) := ⟨_, rfl⟩
  have hs0 : SWP E q0 sg0 ws0 := by rw [hw0]; exact sim_0
  refine g_ws (ws' := ([] ++ (ws0 ++ wm))) (by rw [hw0]; rfl) ?_
  clear hw0
  refine g_astore_n (L' := [(0, .ref x), (1, .ref bS), (2, .ref q0)]) F dL_build_7 rfl (by decide) [1, 2, 0] rfl ?_
  refine g_iconst (v := 0) F dL_build_8 (by decide) ?_
  refine g_istore_n (L' := [(0, .ref x), (1, .ref bS), (2, .ref q0), (3, .int 0)]) F dL_build_9 rfl (by decide) [1, 2, 3, 0] rfl ?_
  have lp10 : ∀ (n10 i10 : Nat), i10 + n10 = 30 → ∀ (σ : SG) (ws9 wm9 : va_W), (SWP E q0 σ ws9) → (MWP E x σ wm9) → (OkS i10 σ) → G E X (13 + 150 * i10) (120 + 2586 * i10) 10 [(0, .ref x), (1, .ref bS), (2, .ref q0), (3, .int (nI i10))] [] ([] ++ (ws9 ++ wm9)) := by
    intro n10
    induction n10 with
    | zero =>
      intro i10 hi10 σ  ws9 wm9  h1 h2 h3
      have he10 : i10 = 30 := by omega
      rw [he10] at h3
      rw [he10]
      refine g_iload_n F dL_build_10 rfl 3 rfl ?_
      refine g_bipush (v := 30) F dL_build_11 (by decide) ?_
      refine g_icmp_ge_t (tgt := 82) F dL_build_13 (by decide) (by decide) ?_
      refine g_aload_n F dL_build_82 rfl 2 rfl ?_
      refine g_cs (cells' := 4513) (slots' := 77700) (by show 13 + 150 * 30 ≤ 4513; omega) (by show 120 + 2586 * 30 ≤ 77700; omega) ?_
      exact g_aretP F hQ dL_build_83 (Or.inl ⟨_, rfl⟩) ⟨q0, σ, ws9, wm9, rfl, by simp, h1, h2, h3⟩
    | succ n10 ih10 =>
      intro i10 hi10 σ  ws9 wm9  h1 h2 h3
      have hl10 : i10 < 30 := by omega
      refine g_iload_n F dL_build_10 rfl 3 rfl ?_
      refine g_bipush (v := 30) F dL_build_11 (by decide) ?_
      refine g_icmp_ge_f (tgt := 82) F dL_build_13 (by decide) (nle_nI (n := 30) hl10 (by omega)) ?_
      refine g_aload_n F dL_build_16 rfl 1 rfl ?_
      refine g_iload_n F dL_build_17 rfl 3 rfl ?_
      refine g_bipush (v := 16) F dL_build_18 (by decide) ?_
      refine g_irem (v := nI (i10 % 16)) F dL_build_20 (by decide) ((pk_rem (d := 16) (by omega) (by omega) (by omega)).symm) ?_
      refine g_callSL (R := ([] ++ (ws9 ++ wm9))) F S dL_build_21 (c_L_cell E hnS (k := i10 % 16) (by omega)) rfl gL_build_L_cell kS_L_cell ⟨by decide, by decide⟩ (List.Perm.refl _) rfl (by exact Nat.le_of_ble_eq_true rfl) ⟨by show 13 + 150 * i10 + 0 ≤ 4513; omega, by show 120 + 2586 * i10 + 0 ≤ 77700; omega⟩ (fun ov21 V21 hV21 => ?_)
      obtain ⟨rfl, v21, rfl⟩ := hV21
      refine g_ws (ws' := ([] ++ (ws9 ++ wm9))) rfl ?_
      refine g_iload_n F dL_build_24 rfl 3 rfl ?_
      refine g_bipush (v := 16) F dL_build_25 (by decide) ?_
      refine g_idiv F dL_build_27 (by decide) ?_
      refine g_iconst (v := 4) F dL_build_28 (by decide) ?_
      refine g_imul F dL_build_29 ?_
      refine g_ishr F dL_build_30 ?_
      refine g_bipush (v := 47) F dL_build_31 (by decide) ?_
      refine g_iload_n F dL_build_33 rfl 3 rfl ?_
      refine g_imul F dL_build_34 ?_
      refine g_iadd F dL_build_35 ?_
      refine g_gen (fun v36 => ?_)
      refine g_istore (L' := [(0, .ref x), (1, .ref bS), (2, .ref q0), (3, .int (nI i10)), (4, .int v36)]) F dL_build_36 (by decide) [1, 2, 3, 4, 0] rfl ?_
      refine g_iload_n F dL_build_38 rfl 3 rfl ?_
      refine g_bipush (v := 8) F dL_build_39 (by decide) ?_
      refine g_icmp_ge (tgt := 64) F dL_build_41 (by decide) (fun k41 => ?_) (fun k41 => ?_)
      · skip
        refine g_aload_n F dL_build_64 rfl 0 rfl ?_
        refine g_aload_n F dL_build_65 rfl 2 rfl ?_
        refine g_iload F dL_build_66 4 rfl ?_
        refine g_callSLW (R := []) F S dL_build_68 (c_L_act h1 h2 h3 (by omega) v36) rfl gL_build_L_act kS_L_act ⟨by decide, by decide⟩ (List.Perm.of_eq (by simp)) rfl (by exact Nat.le_of_ble_eq_true rfl) ⟨by show 13 + 150 * i10 + 0 + 150 ≤ 4513; omega, by show 120 + 2586 * i10 + 0 + 2586 ≤ 77700; omega⟩ (fun ov68 V68 hV68 => ?_)
        obtain ⟨rfl, σ8, ws8, wm8, rfl, h5, h6, h7, h8⟩ := hV68
        refine g_ws (ws' := ([] ++ (ws8 ++ wm8))) (by simp) ?_
        refine g_if_ne_t (tgt := 76) F dL_build_71 (by decide) (by decide) ?_
        refine g_iinc (L' := [(0, .ref x), (1, .ref bS), (2, .ref q0), (3, .int (nI (i10 + 1))), (4, .int v36)]) (v := nI (i10 + 1)) F dL_build_76 3 rfl (nI_1 _) (by decide) [1, 2, 3, 0, 4] rfl ?_
        refine g_goto (tgt := 10) F dL_build_79 (by decide) ?_
        refine g_lv (L' := [(0, .ref x), (1, .ref bS), (2, .ref q0), (3, .int (nI (i10 + 1)))]) [0, 1, 2, 3] rfl ?_
        refine g_cs (cells' := (13 + 150 * (i10 + 1))) (slots' := (120 + 2586 * (i10 + 1))) (by show 13 + 150 * i10 + 0 + 150 ≤ 13 + 150 * (i10 + 1); omega) (by show 120 + 2586 * i10 + 0 + 2586 ≤ 120 + 2586 * (i10 + 1); omega) ?_
        exact ih10 (i10 + 1) (by omega) σ8 ws8 wm8 h5 h6 h7
      · skip
        refine g_bipush (v := 14) F dL_build_44 (by decide) ?_
        refine g_iload F dL_build_46 4 rfl ?_
        refine g_iconst (v := 2) F dL_build_48 (by decide) ?_
        refine g_ishr F dL_build_49 ?_
        refine g_ldc (v := 1048576) F dL_build_50 (List.mem_of_getElem? (i := 4) rfl) ?_
        refine g_callSA (R := ([] ++ (ws9 ++ wm9))) F dL_build_52 (c_L_below E (v36 >>> (2 &&& 31)) 1048576 (by first | assumption | decide | omega) (by first | assumption | decide | omega)) rfl gL_build_L_below kS_L_below ⟨by decide, by decide⟩ (ps3 (List.Perm.nil)) rfl (Nat.le_of_ble_eq_true rfl) ⟨by show 13 + 150 * i10 + 0 + 0 ≤ 4513; omega, by show 120 + 2586 * i10 + 0 + 0 ≤ 77700; omega⟩ (fun a52 => ?_)
        refine g_ws (ws' := ([] ++ (ws9 ++ wm9))) rfl ?_
        refine g_imul F dL_build_55 ?_
        refine g_iconst (v := 2) F dL_build_56 (by decide) ?_
        refine g_iadd F dL_build_57 ?_
        refine g_iload_n F dL_build_58 rfl 3 rfl ?_
        refine g_iconst (v := 3) F dL_build_59 (by decide) ?_
        refine g_irem (v := nI (i10 % 3)) F dL_build_60 (by decide) ((pk_rem (d := 3) (by omega) (by omega) (by omega)).symm) ?_
        refine g_iadd F dL_build_61 ?_
        refine g_gen (fun v62 => ?_)
        refine g_istore (L' := [(0, .ref x), (1, .ref bS), (2, .ref q0), (3, .int (nI i10)), (4, .int v62)]) F dL_build_62 (by decide) [1, 2, 3, 4, 0] rfl ?_
        refine g_aload_n F dL_build_64 rfl 0 rfl ?_
        refine g_aload_n F dL_build_65 rfl 2 rfl ?_
        refine g_iload F dL_build_66 4 rfl ?_
        refine g_callSLW (R := []) F S dL_build_68 (c_L_act h1 h2 h3 (by omega) v62) rfl gL_build_L_act kS_L_act ⟨by decide, by decide⟩ (List.Perm.of_eq (by simp)) rfl (by exact Nat.le_of_ble_eq_true rfl) ⟨by show 13 + 150 * i10 + 0 + 0 + 150 ≤ 4513; omega, by show 120 + 2586 * i10 + 0 + 0 + 2586 ≤ 77700; omega⟩ (fun ov68 V68 hV68 => ?_)
        obtain ⟨rfl, σ8, ws8, wm8, rfl, h5, h6, h7, h8⟩ := hV68
        refine g_ws (ws' := ([] ++ (ws8 ++ wm8))) (by simp) ?_
        refine g_if_ne_t (tgt := 76) F dL_build_71 (by decide) (by decide) ?_
        refine g_iinc (L' := [(0, .ref x), (1, .ref bS), (2, .ref q0), (3, .int (nI (i10 + 1))), (4, .int v62)]) (v := nI (i10 + 1)) F dL_build_76 3 rfl (nI_1 _) (by decide) [1, 2, 3, 0, 4] rfl ?_
        refine g_goto (tgt := 10) F dL_build_79 (by decide) ?_
        refine g_lv (L' := [(0, .ref x), (1, .ref bS), (2, .ref q0), (3, .int (nI (i10 + 1)))]) [0, 1, 2, 3] rfl ?_
        refine g_cs (cells' := (13 + 150 * (i10 + 1))) (slots' := (120 + 2586 * (i10 + 1))) (by show 13 + 150 * i10 + 0 + 0 + 150 ≤ 13 + 150 * (i10 + 1); omega) (by show 120 + 2586 * i10 + 0 + 0 + 2586 ≤ 120 + 2586 * (i10 + 1); omega) ?_
        exact ih10 (i10 + 1) (by omega) σ8 ws8 wm8 h5 h6 h7
  refine g_cs (cells' := (13 + 150 * 0)) (slots' := (120 + 2586 * 0)) (by show 0 + 1 + 12 ≤ 13 + 150 * 0; omega) (by show 0 + 10 + 110 ≤ 120 + 2586 * 0; omega) ?_
  exact lp10 30 0 (by omega) sg0 ws0 wm hs0 hm ok_0
end MWS
