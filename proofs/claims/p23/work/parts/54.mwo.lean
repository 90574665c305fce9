/-! the law: its loop, its start -/
section MWO
theorem SWP.mem {E : gE} {y : Nat} {σ : SG} {ws : va_W} (h : SWP E y σ ws) : ∃ fs, (y, .inr (5, fs)) ∈ ws := by
  obtain ⟨f, th, m, car, tur, pre, n, k, kp, kq, ko⟩ := σ
  obtain ⟨pa, sa, kpa, kka, r, c, ko', rs, rfl, -⟩ := h
  exact ⟨_, List.mem_append_left _ List.mem_cons_self⟩
theorem same_P {E : gE} {x y : Nat} {σ : SG} {ws wm : va_W} {N : Nat} (hs : SWP E y σ ws) (hm : MWP E x σ wm) (hok : OkS N σ) (hN : N < 1000) : CtP E yX5_isSame_ wsX5_isSame_ ({ frames := 9, cells := 70, slots := 4000, locals := 154 }) [.ref y, .ref x] (ws ++ wm) (fun o V => o = some (.int 1)) := by
  obtain ⟨f, th, m, car, tur, pre, n, k, kp, kq, ko⟩ := σ
  obtain ⟨pa, sa, kpa, kka, r, c, ko', rs, rfl, hc, hkp⟩ := hs
  rcases hkp with ⟨hn0, hko, rfl⟩ | ⟨hn0, hko, pl, r2, d, rfl, hpl, hd⟩
  · refine CtP.perm ?_ (c_X5_isSame_0 (y := y) (pa := pa) (sa := sa) (kpa := kpa) (kka := kka) (r := r) hm hc hok hN hn0 hko)
    simp only [List.append_assoc, List.nil_append]
    refine List.Perm.append_left [_, _, _] ?_
    exact (psw _ [_, _] _)
  · refine CtP.perm ?_ (c_X5_isSame_1 (y := y) (pa := pa) (sa := sa) (kpa := kpa) (kka := kka) (r := r) (r2 := r2) hm hc hok hN hn0 hko hpl hd)
    simp only [List.append_assoc, List.nil_append]
    refine List.Perm.append_left [_, _, _] ?_
    exact (psw _ [_, _] _)
theorem mwp_0 {E : gE} {b : Nat} (a : Nat → Nat) : MWP E b sg0 (MWL E b a (fun _ _ => 0) (fun _ => 0) 0 (sFill 128 (fun _ => 0) 96) (sFill 200 (fun _ => 0) 6) 3 2 0 0 0) :=
  ⟨a, fun _ _ => 0, fun _ => 0, 0, List.Perm.refl _, by omega, fun h => absurd h (Nat.lt_irrefl 0)⟩
set_option maxHeartbeats 4000000 in
set_option maxRecDepth 100000 in
theorem law_20 {E : gE} {X : gX} {bS nS x y : Nat} {xs : Nat → Int32} (F : gF E X cL_law RL wsL_law (some .boolean) room_1 22) (S : gLX E X bS nS xs) (hnS : nS < 2147483648) {σ0 : SG} {ws0 wm0 : va_W} (h1 : SWP E y σ0 ws0) (h2 : MWP E x σ0 wm0) (h3 : OkS 30 σ0) (fin : ∀ L ws, G E X 30000 300000 787 L [.int 1] ws) : G E X 5000 90000 20 [(0, .ref bS), (1, .ref x), (2, .ref y)] [] ([] ++ (ws0 ++ wm0)) := by
  refine g_iconst (v := 0) F dL_law_20 (by decide) ?_
  refine g_istore_n (L' := [(0, .ref bS), (1, .ref x), (2, .ref y), (3, .int 0)]) F dL_law_21 rfl (by decide) [1, 2, 3, 0] rfl ?_
  have lp22 : ∀ (n22 i22 : Nat), i22 + n22 = 14 → ∀ (σ : SG) (ws9 wm9 : va_W), (SWP E y σ ws9) → (MWP E x σ wm9) → (OkS (30 + i22) σ) → G E X (5000 + 151 * i22) (90000 + 2842 * i22) 22 [(0, .ref bS), (1, .ref x), (2, .ref y), (3, .int (nI i22))] [] ([] ++ (ws9 ++ wm9)) := by
    intro n22
    induction n22 with
    | zero =>
      intro i22 hi22 σ  ws9 wm9  h1 h2 h3
      have he22 : i22 = 14 := by omega
      rw [he22] at h3
      rw [he22]
      refine g_iload_n F dL_law_22 rfl 3 rfl ?_
      refine g_bipush (v := 14) F dL_law_23 (by decide) ?_
      refine g_icmp_ge_t (tgt := 782) F dL_law_25 (by decide) (by decide) ?_
      refine g_aload_n F dL_law_782 rfl 2 rfl ?_
      refine g_aload_n F dL_law_783 rfl 1 rfl ?_
      refine g_callVP (R := []) F dL_law_784 (same_P h1 h2 h3 (by omega)) rfl gL_law_X5_isSame_ (List.mem_append_right [] (List.mem_append_left _ h1.mem.choose_spec)) rfl kV_X5_isSame_ ⟨Nat.le_of_ble_eq_true rfl, Nat.le_of_ble_eq_true rfl⟩ (List.Perm.of_eq (by simp)) rfl (by exact Nat.le_of_ble_eq_true rfl) ⟨by show 5000 + 151 * 14 + 70 ≤ 600130; omega, by show 90000 + 2842 * 14 + 4000 ≤ 7301080; omega⟩ (fun ov784 V784 hV784 => ?_)
      obtain rfl := hV784
      refine g_cs (cells' := 30000) (slots' := 300000) (by show 5000 + 151 * 14 + 70 ≤ 30000; omega) (by show 90000 + 2842 * 14 + 4000 ≤ 300000; omega) ?_
      exact fin _ _
    | succ n22 ih22 =>
      intro i22 hi22 σ  ws9 wm9  h1 h2 h3
      have hl22 : i22 < 14 := by omega
      obtain ⟨f0, th0, m0, car0, tur0, pre0, n0, k0, kp0, kq0, ko0⟩ := σ
      have hn0 : n0 < 2147483648 := by have := h3.2.2.2.2.2.2.1; omega
      refine g_iload_n F dL_law_22 rfl 3 rfl ?_
      refine g_bipush (v := 14) F dL_law_23 (by decide) ?_
      refine g_icmp_ge_f (tgt := 782) F dL_law_25 (by decide) (nle_nI (n := 14) hl22 (by omega)) ?_
      refine g_aload_n F dL_law_28 rfl 0 rfl ?_
      refine g_iload_n F dL_law_29 rfl 3 rfl ?_
      refine g_bipush (v := 16) F dL_law_30 (by decide) ?_
      refine g_irem (v := nI (i22 % 16)) F dL_law_32 (by decide) ((pk_rem (d := 16) (by omega) (by omega) (by omega)).symm) ?_
      refine g_callSL (R := ([] ++ (ws9 ++ wm9))) F S dL_law_33 (c_L_cell E hnS (k := i22 % 16) (by omega)) rfl gL_law_L_cell kS_L_cell ⟨Nat.le_of_ble_eq_true rfl, Nat.le_of_ble_eq_true rfl⟩ (List.Perm.refl _) rfl (by exact Nat.le_of_ble_eq_true rfl) ⟨by show 5000 + 151 * i22 + 0 ≤ 600130; omega, by show 90000 + 2842 * i22 + 0 ≤ 7301080; omega⟩ (fun ov33 V33 hV33 => ?_)
      obtain ⟨rfl, v33, rfl⟩ := hV33
      refine g_ws (ws' := ([] ++ (ws9 ++ wm9))) rfl ?_
      refine g_iconst (v := 2) F dL_law_36 (by decide) ?_
      refine g_ishr F dL_law_37 ?_
      refine g_bipush (v := 59) F dL_law_38 (by decide) ?_
      refine g_iload_n F dL_law_40 rfl 3 rfl ?_
      refine g_imul F dL_law_41 ?_
      refine g_iadd F dL_law_42 ?_
      refine g_gen (fun v43 => ?_)
      refine g_istore (L' := [(0, .ref bS), (1, .ref x), (2, .ref y), (3, .int (nI i22)), (4, .int v43)]) F dL_law_43 (by decide) [1, 2, 3, 4, 0] rfl ?_
      refine g_aload_n F dL_law_45 rfl 1 rfl ?_
      refine g_iconst (v := 5) F dL_law_46 (by decide) ?_
      refine g_callM (B := ([] ++ ws9)) (wm := wm9) F dL_law_47 (m_count h2 5 (by omega) hn0) rfl gL_law_X4_count h2.mem.choose_spec rfl kV_X4_count ⟨by decide, by decide⟩ (by simp only [List.append_assoc]) rfl (by exact Nat.le_of_ble_eq_true rfl) ⟨by show 5000 + 151 * i22 + 0 + 0 ≤ 600130; omega, by show 90000 + 2842 * i22 + 0 + 0 ≤ 7301080; omega⟩ (fun ov47 V47 hV47 => ?_)
      obtain ⟨rfl, hV47⟩ := hV47
      refine g_ws (ws' := ([] ++ (ws9 ++ V47))) (by simp only [List.append_assoc]) ?_
      refine g_istore (L' := [(0, .ref bS), (1, .ref x), (2, .ref y), (3, .int (nI i22)), (4, .int v43), (5, .int (mHold th0 6))]) F dL_law_50 (by decide) [1, 2, 3, 4, 5, 0] rfl ?_
      refine g_aload_n F dL_law_52 rfl 1 rfl ?_
      refine g_iconst (v := 4) F dL_law_53 (by decide) ?_
      refine g_callM (B := ([] ++ ws9)) (wm := V47) F dL_law_54 (m_count hV47 4 (by omega) hn0) rfl gL_law_X4_count hV47.mem.choose_spec rfl kV_X4_count ⟨by decide, by decide⟩ (by simp only [List.append_assoc]) rfl (by exact Nat.le_of_ble_eq_true rfl) ⟨by show 5000 + 151 * i22 + 0 + 0 + 0 ≤ 600130; omega, by show 90000 + 2842 * i22 + 0 + 0 + 0 ≤ 7301080; omega⟩ (fun ov54 V54 hV54 => ?_)
      obtain ⟨rfl, hV54⟩ := hV54
      refine g_ws (ws' := ([] ++ (ws9 ++ V54))) (by simp only [List.append_assoc]) ?_
      refine g_istore (L' := [(0, .ref bS), (1, .ref x), (2, .ref y), (3, .int (nI i22)), (4, .int v43), (5, .int (mHold th0 6)), (6, .int (nI n0))]) F dL_law_57 (by decide) [1, 2, 3, 4, 5, 6, 0] rfl ?_
      refine g_aload_n F dL_law_59 rfl 1 rfl ?_
      refine g_aload_n F dL_law_60 rfl 2 rfl ?_
      refine g_iload F dL_law_61 4 rfl ?_
      refine g_callSLW (R := []) F S dL_law_63 (c_L_act h1 hV54 h3 (by omega) v43) rfl gL_law_L_act kS_L_act ⟨Nat.le_of_ble_eq_true rfl, Nat.le_of_ble_eq_true rfl⟩ (List.Perm.of_eq (by simp)) rfl (by exact Nat.le_of_ble_eq_true rfl) ⟨by show 5000 + 151 * i22 + 0 + 0 + 0 + 150 ≤ 600130; omega, by show 90000 + 2842 * i22 + 0 + 0 + 0 + 2586 ≤ 7301080; omega⟩ (fun ov63 V63 hV63 => ?_)
      obtain ⟨rfl, σ8, ws8, wm8, rfl, h5, h6, h7, h8⟩ := hV63
      obtain ⟨f, th, m, car, tur, pre, n, k, kp, kq, ko⟩ := σ8
      have h8 : (n = n0 ∧ tot th ≤ tot th0 + 99) ∨ (n = n0 + 1 ∧ tot th + 96 = tot th0) := h8
      have h9 : tot th ≤ tot th0 + 99 := by omega
      have hn : n < 2147483648 := by have := h7.2.2.2.2.2.2.1; omega
      refine g_ws (ws' := ([] ++ (ws8 ++ wm8))) (by simp) ?_
      refine g_if_ne_t (tgt := 71) F dL_law_66 (by decide) (by decide) ?_
      refine g_aload_n F dL_law_71 rfl 1 rfl ?_
      refine g_iconst (v := 5) F dL_law_72 (by decide) ?_
      refine g_callM (B := ([] ++ ws8)) (wm := wm8) F dL_law_73 (m_count h6 5 (by omega) hn) rfl gL_law_X4_count h6.mem.choose_spec rfl kV_X4_count ⟨by decide, by decide⟩ (by simp only [List.append_assoc]) rfl (by exact Nat.le_of_ble_eq_true rfl) ⟨by show 5000 + 151 * i22 + 0 + 0 + 0 + 150 + 0 ≤ 600130; omega, by show 90000 + 2842 * i22 + 0 + 0 + 0 + 2586 + 0 ≤ 7301080; omega⟩ (fun ov73 V73 hV73 => ?_)
      obtain ⟨rfl, hV73⟩ := hV73
      refine g_ws (ws' := ([] ++ (ws8 ++ V73))) (by simp only [List.append_assoc]) ?_
      refine g_iload F dL_law_76 5 rfl ?_
      refine g_bipush (v := 99) F dL_law_78 (by decide) ?_
      refine g_iadd F dL_law_80 ?_
      refine g_icmp_gt_f (tgt := 107) F dL_law_81 (by decide) (Int32.not_lt.mpr (hold_le h3.2.1 h7.2.1 h9)) ?_
      refine g_aload_n F dL_law_84 rfl 1 rfl ?_
      refine g_iconst (v := 4) F dL_law_85 (by decide) ?_
      refine g_callM (B := ([] ++ ws8)) (wm := V73) F dL_law_86 (m_count hV73 4 (by omega) hn) rfl gL_law_X4_count hV73.mem.choose_spec rfl kV_X4_count ⟨by decide, by decide⟩ (by simp only [List.append_assoc]) rfl (by exact Nat.le_of_ble_eq_true rfl) ⟨by show 5000 + 151 * i22 + 0 + 0 + 0 + 150 + 0 + 0 ≤ 600130; omega, by show 90000 + 2842 * i22 + 0 + 0 + 0 + 2586 + 0 + 0 ≤ 7301080; omega⟩ (fun ov86 V86 hV86 => ?_)
      obtain ⟨rfl, hV86⟩ := hV86
      refine g_ws (ws' := ([] ++ (ws8 ++ V86))) (by simp only [List.append_assoc]) ?_
      refine g_iload F dL_law_89 6 rfl ?_
      refine g_icmp_eq (tgt := 109) F dL_law_91 (by decide) (fun k91 => ?_) (fun k91 => ?_)
      · skip
        refine g_lv (L' := [(0, .ref bS), (1, .ref x), (2, .ref y), (3, .int (nI i22)), (4, .int v43)]) [0, 1, 2, 3, 4] rfl ?_
        refine g_cs (cells' := (5000 + 151 * i22 + 150)) (slots' := (90000 + 2842 * i22 + 2586)) (by show 5000 + 151 * i22 + 0 + 0 + 0 + 150 + 0 + 0 ≤ (5000 + 151 * i22 + 150); omega) (by show 90000 + 2842 * i22 + 0 + 0 + 0 + 2586 + 0 + 0 ≤ (90000 + 2842 * i22 + 2586); omega) ?_
        refine law_109 (nS := nS) (xs := xs) F hV86 h7 (by omega) (by omega) (by omega) (fun w9 hw9 => ?_)
        refine g_iinc (L' := [(0, .ref bS), (1, .ref x), (2, .ref y), (3, .int (nI (i22 + 1)))]) (v := nI (i22 + 1)) F dL_law_776 3 rfl (nI_1 _) (by decide) [1, 2, 3, 0] rfl ?_
        refine g_goto (tgt := 22) F dL_law_779 (by decide) ?_
        refine g_cs (cells' := (5000 + 151 * (i22 + 1))) (slots' := (90000 + 2842 * (i22 + 1))) (by show (5000 + 151 * i22 + 150) + 1 ≤ 5000 + 151 * (i22 + 1); omega) (by show (90000 + 2842 * i22 + 2586) + 256 ≤ 90000 + 2842 * (i22 + 1); omega) ?_
        exact ih22 (i22 + 1) (by omega) (f, th, m, car, tur, pre, n, k, kp, kq, ko) ws8 w9 h5 hw9 h7
      · skip
        refine g_aload_n F dL_law_94 rfl 1 rfl ?_
        refine g_iconst (v := 5) F dL_law_95 (by decide) ?_
        refine g_callM (B := ([] ++ ws8)) (wm := V86) F dL_law_96 (m_count hV86 5 (by omega) hn) rfl gL_law_X4_count hV86.mem.choose_spec rfl kV_X4_count ⟨by decide, by decide⟩ (by simp only [List.append_assoc]) rfl (by exact Nat.le_of_ble_eq_true rfl) ⟨by show 5000 + 151 * i22 + 0 + 0 + 0 + 150 + 0 + 0 + 0 ≤ 600130; omega, by show 90000 + 2842 * i22 + 0 + 0 + 0 + 2586 + 0 + 0 + 0 ≤ 7301080; omega⟩ (fun ov96 V96 hV96 => ?_)
        obtain ⟨rfl, hV96⟩ := hV96
        refine g_ws (ws' := ([] ++ (ws8 ++ V96))) (by simp only [List.append_assoc]) ?_
        refine g_iload F dL_law_99 5 rfl ?_
        refine g_bipush (v := 96) F dL_law_101 (by decide) ?_
        refine g_isub F dL_law_103 ?_
        refine g_icmp_eq_t (tgt := 109) F dL_law_104 (by decide) (by rcases h8 with ⟨e, _⟩ | ⟨_, e⟩; exact (k91 (congrArg nI e)).elim; exact hold_96 h3.2.1 h7.2.1 e) ?_
        refine g_lv (L' := [(0, .ref bS), (1, .ref x), (2, .ref y), (3, .int (nI i22)), (4, .int v43)]) [0, 1, 2, 3, 4] rfl ?_
        refine g_cs (cells' := (5000 + 151 * i22 + 150)) (slots' := (90000 + 2842 * i22 + 2586)) (by show 5000 + 151 * i22 + 0 + 0 + 0 + 150 + 0 + 0 + 0 ≤ (5000 + 151 * i22 + 150); omega) (by show 90000 + 2842 * i22 + 0 + 0 + 0 + 2586 + 0 + 0 + 0 ≤ (90000 + 2842 * i22 + 2586); omega) ?_
        refine law_109 (nS := nS) (xs := xs) F hV96 h7 (by omega) (by omega) (by omega) (fun w9 hw9 => ?_)
        refine g_iinc (L' := [(0, .ref bS), (1, .ref x), (2, .ref y), (3, .int (nI (i22 + 1)))]) (v := nI (i22 + 1)) F dL_law_776 3 rfl (nI_1 _) (by decide) [1, 2, 3, 0] rfl ?_
        refine g_goto (tgt := 22) F dL_law_779 (by decide) ?_
        refine g_cs (cells' := (5000 + 151 * (i22 + 1))) (slots' := (90000 + 2842 * (i22 + 1))) (by show (5000 + 151 * i22 + 150) + 1 ≤ 5000 + 151 * (i22 + 1); omega) (by show (90000 + 2842 * i22 + 2586) + 256 ≤ 90000 + 2842 * (i22 + 1); omega) ?_
        exact ih22 (i22 + 1) (by omega) (f, th, m, car, tur, pre, n, k, kp, kq, ko) ws8 w9 h5 hw9 h7
  refine g_cs (cells' := (5000 + 151 * 0)) (slots' := (90000 + 2842 * 0)) (by show 5000 ≤ 5000 + 151 * 0; omega) (by show 90000 ≤ 90000 + 2842 * 0; omega) ?_
  exact lp22 14 0 (by omega) σ0 ws0 wm0 h1 h2 h3
set_option maxHeartbeats 4000000 in
set_option maxRecDepth 100000 in
theorem law_0 {E : gE} {X : gX} {bS nS : Nat} {xs : Nat → Int32} (F : gF E X cL_law RL wsL_law (some .boolean) room_1 22) (S : gLX E X bS nS xs) (hnS : nS < 2147483648) (fin : ∀ L ws, G E X 30000 300000 787 L [.int 1] ws) : G E X 0 0 0 [(0, .ref bS)] [] [] := by
  refine g_new (ci := 4) (fs := [.null, .null, .null, .null, .null, .int 0, .int 0, .int 0, .int 0, .int 0]) F dL_law_0 inlX4 tyX4 tyX4_ok (inL_i (i := 0) rfl) (inL_i (i := 1) rfl) (inL_i (i := 2) rfl) rfl (by intro j hj; match j, hj with | 0, _ => rfl | 1, _ => rfl | 2, _ => rfl | 3, _ => rfl | 4, _ => rfl | 5, _ => rfl | 6, _ => rfl | 7, _ => rfl | 8, _ => rfl | 9, _ => rfl) (by show 0 + 1 ≤ 600130; omega) (by show 0 + 10 ≤ 7301080; omega) (fun x => ?_)
  refine g_dup F dL_law_3 rfl ?_
  refine g_callI (q0 := 0) (isR := []) (wsR := []) (rest := [.ref x]) F dL_law_4 (c_X4_init E x) rfl gL_law_X4_init (inL_i (i := 2) rfl) (inL_i (i := 13) rfl) (inL_i (i := 12) rfl) rfl ⟨by decide, by decide, by decide +kernel⟩ ⟨Nat.le_of_ble_eq_true rfl, Nat.le_of_ble_eq_true rfl⟩ rfl (by decide +kernel) rfl (by exact Nat.le_of_ble_eq_true rfl) ⟨by show 0 + 1 + 36 ≤ 600130; omega, by show 0 + 10 + 5000 ≤ 7301080; omega⟩ (fun a => ?_)
  refine g_ws (ws' := MWL E x a (fun _ _ => 0) (fun _ => 0) 0 (sFill 128 (fun _ => 0) 96) (sFill 200 (fun _ => 0) 6) 3 2 0 0 0) rfl ?_
  have hm0 := mwp_0 (E := E) (b := x) a
  generalize MWL E x a (fun _ _ => 0) (fun _ => 0) 0 (sFill 128 (fun _ => 0) 96) (sFill 200 (fun _ => 0) 6) 3 2 0 0 0 = wm at hm0 ⊢
  refine g_astore_n (L' := [(0, .ref bS), (1, .ref x)]) F dL_law_7 rfl (by decide) [1, 0] rfl ?_
  refine g_aload_n F dL_law_8 rfl 1 rfl ?_
  refine g_aload_n F dL_law_9 rfl 0 rfl ?_
  refine g_callSL (R := []) F S dL_law_10 (c_L_build hnS hm0) rfl gL_law_L_build kS_L_build ⟨Nat.le_of_ble_eq_true rfl, Nat.le_of_ble_eq_true rfl⟩ (List.Perm.of_eq (by simp)) rfl (by exact Nat.le_of_ble_eq_true rfl) ⟨by show 0 + 1 + 36 + 4513 ≤ 600130; omega, by show 0 + 10 + 5000 + 77700 ≤ 7301080; omega⟩ (fun ov10 V10 hV10 => ?_)
  obtain ⟨y, σ, ws, wm2, rfl, rfl, h1, h2, h3⟩ := hV10
  refine g_ws (ws' := ([] ++ (ws ++ wm2))) (by simp) ?_
  refine g_astore_n (L' := [(0, .ref bS), (1, .ref x), (2, .ref y)]) F dL_law_13 rfl (by decide) [1, 2, 0] rfl ?_
  refine g_aload_n F dL_law_14 rfl 2 rfl ?_
  refine g_ifnn (tgt := 20) F dL_law_15 (by decide) ?_
  refine g_cs (cells' := 5000) (slots' := 90000) (by show 0 + 1 + 36 + 4513 ≤ 5000; omega) (by show 0 + 10 + 5000 + 77700 ≤ 90000; omega) ?_
  exact law_20 F S hnS h1 h2 h3 fin
end MWO
