/-! the law's wrappers -/
section PWRAPS
set_option maxHeartbeats 4000000 in
set_option maxRecDepth 100000 in
theorem w_L_set (E : gE) (cL : ClassId) (x : Nat) (g : Nat) (ga : Nat) (p : Nat) (s : Nat) (kc : Nat) (qc : Nat) (f : AF) (col : Int32) (car : Int32) (tur : Int32) (pre : Int32) (cl : Int32) (a : Int32) (b : Int32) (v : Int32) (oa : Nat) (ol : Nat → Int64) (h0 : ¬ sCell a b = 0) (h1 : ¬ v < 0) (h2 : v ≤ 255) : CtW E cL yL_set wsL_set ({ frames := 9, cells := 0, slots := 0, locals := 156 }) [.ref x, .int a, .int b, .int v, .ref oa] [(x, .inr (4, [.ref g, .ref p, .ref s, .ref kc, .ref qc, .int col, .int car, .int tur, .int pre, .int cl])), (g, .inr (1, [.ref ga])), (ga, .inl (E.2.2, 96, .inl f)), (oa, .inl (cL, 1, .inr (.inl ol)))] (some (.int 0)) [(x, .inr (4, [.ref g, .ref p, .ref s, .ref kc, .ref qc, .int col, .int car, .int tur, .int pre, .int cl])), (g, .inr (1, [.ref ga])), (ga, .inl (E.2.2, 96, .inl (sGPut f a b v))), (oa, .inl (cL, 1, .inr (.inl (vp_updL ol (0 : Int32).toNatClampNeg (sGAt f a b).toInt64))))] := by
  refine CtW.of (cc := cL_set) (maxL := 6) (ret := (some .int)) (hh := [(0, 12, 15, 13), (0, 12, 19, 15)]) (own := RL) (L := [(0, .ref x), (1, .int a), (2, .int b), (3, .int v), (4, .ref oa)]) (by decide) rfl rfl rfl (Nat.le_of_ble_eq_true rfl) rfl ?_
  intro X F Z hQ
  have i1 : ∀ w ∈ u_ws RX1 TX1 1, w ∈ wsL_set := gsub [49] rfl
  have i4 : ∀ w ∈ u_ws RX4 TX4 10, w ∈ wsL_set := gsub [39, 40, 41, 42, 43, 44, 45, 46, 47, 48] rfl
  refine h_aload F dL_set_0 4 rfl ?_
  refine h_iconst (v := 0) F dL_set_2 (by decide) ?_
  refine h_aload_n F dL_set_3 rfl 0 rfl ?_
  refine h_iload_n F dL_set_4 rfl 1 rfl ?_
  refine h_iload_n F dL_set_5 rfl 2 rfl ?_
  refine h_iload_n F dL_set_6 rfl 3 rfl ?_
  refine h_callV (ws' := [(x, .inr (4, [.ref g, .ref p, .ref s, .ref kc, .ref qc, .int col, .int car, .int tur, .int pre, .int cl])), (g, .inr (1, [.ref ga])), (ga, .inl (E.2.2, 96, .inl (sGPut f a b v))), (oa, .inl (cL, 1, .inr (.inl ol)))]) F dL_set_7 (c_X4_set E x g ga p s kc qc f col car tur pre cl a b v (h0) (h1) (h2)) rfl gL_set_X4_set 0 rfl rfl kV_X4_set ⟨by decide, by decide⟩ [0, 1, 2] rfl (by decide +kernel) rfl rfl (Nat.le_of_ble_eq_true rfl) ⟨by decide, by decide⟩ ?_
  refine h_i2l (v := (sGAt f a b).toInt64) F dL_set_10 rfl ?_
  refine h_last (ws' := [(x, .inr (4, [.ref g, .ref p, .ref s, .ref kc, .ref qc, .int col, .int car, .int tur, .int pre, .int cl])), (g, .inr (1, [.ref ga])), (ga, .inl (E.2.2, 96, .inl (sGPut f a b v))), (oa, .inl (cL, 1, .inr (.inl (vp_updL ol (0 : Int32).toNatClampNeg ((sGAt f a b).toInt64)))))]) F Z dL_set_11 3 rfl (by unfold vp_in; decide) rfl ?_
  refine h_goto (tgt := 23) F dL_set_12 (by decide) ?_
  refine h_iconst (v := 0) F dL_set_23 (by decide) ?_
  exact h_iret F hQ dL_set_24 (rfl) (rfl)

set_option maxHeartbeats 4000000 in
set_option maxRecDepth 100000 in
theorem v_L_set_1 (E : gE) (cL : ClassId) (x : Nat) (g : Nat) (p : Nat) (s : Nat) (kc : Nat) (qc : Nat) (col : Int32) (car : Int32) (tur : Int32) (pre : Int32) (cl : Int32) (a : Int32) (b : Int32) (v : Int32) (oa : Nat) (ol : Nat → Int64) (h0 : sCell a b = 0) : CtW E cL yL_set wsL_set ({ frames := 9, cells := 1, slots := 6, locals := 156 }) [.ref x, .int a, .int b, .int v, .ref oa] [(x, .inr (4, [.ref g, .ref p, .ref s, .ref kc, .ref qc, .int col, .int car, .int tur, .int pre, .int cl])), (oa, .inl (cL, 1, .inr (.inl ol)))] (some (.int 1)) [(x, .inr (4, [.ref g, .ref p, .ref s, .ref kc, .ref qc, .int col, .int car, .int tur, .int pre, .int cl])), (oa, .inl (cL, 1, .inr (.inl ol)))] := by
  refine CtW.of (cc := cL_set) (maxL := 6) (ret := (some .int)) (hh := [(0, 12, 15, 13), (0, 12, 19, 15)]) (own := RL) (L := [(0, .ref x), (1, .int a), (2, .int b), (3, .int v), (4, .ref oa)]) (by decide) rfl rfl rfl (Nat.le_of_ble_eq_true rfl) rfl ?_
  intro X F Z hQ
  have i1 : ∀ w ∈ u_ws RX1 TX1 1, w ∈ wsL_set := gsub [49] rfl
  have i4 : ∀ w ∈ u_ws RX4 TX4 10, w ∈ wsL_set := gsub [39, 40, 41, 42, 43, 44, 45, 46, 47, 48] rfl
  refine h_aload F dL_set_0 4 rfl ?_
  refine h_iconst (v := 0) F dL_set_2 (by decide) ?_
  refine h_aload_n F dL_set_3 rfl 0 rfl ?_
  refine h_iload_n F dL_set_4 rfl 1 rfl ?_
  refine h_iload_n F dL_set_5 rfl 2 rfl ?_
  refine h_iload_n F dL_set_6 rfl 3 rfl ?_
  refine h_xcatch (ws' := [(x, .inr (4, [.ref g, .ref p, .ref s, .ref kc, .ref qc, .int col, .int car, .int tur, .int pre, .int cl])), (oa, .inl (cL, 1, .inr (.inl ol)))]) F Z dL_set_7 (x_X4_set_1 E x g p s kc qc col car tur pre cl a b v (h0)) rfl gL_set_X4_set 0 rfl rfl kV_X4_set rfl ⟨by decide, by decide⟩ [0] rfl (by decide +kernel) rfl (Nat.le_of_ble_eq_true rfl) ⟨by decide, by decide⟩ [] [(0, 12, 19, 15)] (0, 12, 15, 13) rfl (fun z hz => nomatch hz) (by decide) (by decide) (List.mem_of_getElem? (i := 1) rfl) (List.mem_of_getElem? (i := 0) rfl) (fun q7 => ?_)
  refine h_astore (L' := [(0, .ref x), (1, .int a), (2, .int b), (3, .int v), (4, .ref oa), (5, .ref q7)]) F dL_set_15 (by decide) [1, 2, 3, 4, 5, 0] rfl ?_
  refine h_iconst (v := 1) F dL_set_17 (by decide) ?_
  refine g_cs (cells' := 1) (slots' := 6) (by show 0 + 1 ≤ 1; omega) (by show 0 + 6 ≤ 6; omega) ?_
  exact h_iret F hQ dL_set_18 (rfl) (rfl)

set_option maxHeartbeats 4000000 in
set_option maxRecDepth 100000 in
theorem v_L_set_2 (E : gE) (cL : ClassId) (x : Nat) (g : Nat) (p : Nat) (s : Nat) (kc : Nat) (qc : Nat) (col : Int32) (car : Int32) (tur : Int32) (pre : Int32) (cl : Int32) (a : Int32) (b : Int32) (v : Int32) (oa : Nat) (ol : Nat → Int64) (h0 : ¬ sCell a b = 0) (h1 : ¬ (¬ v < 0 ∧ v ≤ 255)) : CtW E cL yL_set wsL_set ({ frames := 9, cells := 1, slots := 6, locals := 156 }) [.ref x, .int a, .int b, .int v, .ref oa] [(x, .inr (4, [.ref g, .ref p, .ref s, .ref kc, .ref qc, .int col, .int car, .int tur, .int pre, .int cl])), (oa, .inl (cL, 1, .inr (.inl ol)))] (some (.int 2)) [(x, .inr (4, [.ref g, .ref p, .ref s, .ref kc, .ref qc, .int col, .int car, .int tur, .int pre, .int cl])), (oa, .inl (cL, 1, .inr (.inl ol)))] := by
  refine CtW.of (cc := cL_set) (maxL := 6) (ret := (some .int)) (hh := [(0, 12, 15, 13), (0, 12, 19, 15)]) (own := RL) (L := [(0, .ref x), (1, .int a), (2, .int b), (3, .int v), (4, .ref oa)]) (by decide) rfl rfl rfl (Nat.le_of_ble_eq_true rfl) rfl ?_
  intro X F Z hQ
  have i1 : ∀ w ∈ u_ws RX1 TX1 1, w ∈ wsL_set := gsub [49] rfl
  have i4 : ∀ w ∈ u_ws RX4 TX4 10, w ∈ wsL_set := gsub [39, 40, 41, 42, 43, 44, 45, 46, 47, 48] rfl
  refine h_aload F dL_set_0 4 rfl ?_
  refine h_iconst (v := 0) F dL_set_2 (by decide) ?_
  refine h_aload_n F dL_set_3 rfl 0 rfl ?_
  refine h_iload_n F dL_set_4 rfl 1 rfl ?_
  refine h_iload_n F dL_set_5 rfl 2 rfl ?_
  refine h_iload_n F dL_set_6 rfl 3 rfl ?_
  refine h_xcatch (ws' := [(x, .inr (4, [.ref g, .ref p, .ref s, .ref kc, .ref qc, .int col, .int car, .int tur, .int pre, .int cl])), (oa, .inl (cL, 1, .inr (.inl ol)))]) F Z dL_set_7 (x_X4_set_2 E x g p s kc qc col car tur pre cl a b v (h0) (h1)) rfl gL_set_X4_set 0 rfl rfl kV_X4_set rfl ⟨by decide, by decide⟩ [0] rfl (by decide +kernel) rfl (Nat.le_of_ble_eq_true rfl) ⟨by decide, by decide⟩ [(0, 12, 15, 13)] [] (0, 12, 19, 15) rfl (fun z hz => by obtain rfl := List.mem_singleton.mp hz; exact ⟨by decide, _, (List.mem_of_getElem? (i := 1) rfl), List.mem_of_getElem? (i := 0) rfl⟩) (by decide) (by decide) (List.mem_of_getElem? (i := 2) rfl) (List.mem_of_getElem? (i := 1) rfl) (fun q7 => ?_)
  refine h_astore (L' := [(0, .ref x), (1, .int a), (2, .int b), (3, .int v), (4, .ref oa), (5, .ref q7)]) F dL_set_19 (by decide) [1, 2, 3, 4, 5, 0] rfl ?_
  refine h_iconst (v := 2) F dL_set_21 (by decide) ?_
  refine g_cs (cells' := 1) (slots' := 6) (by show 0 + 1 ≤ 1; omega) (by show 0 + 6 ≤ 6; omega) ?_
  exact h_iret F hQ dL_set_22 (rfl) (rfl)

set_option maxHeartbeats 4000000 in
set_option maxRecDepth 100000 in
theorem w_L_row (E : gE) (cL : ClassId) (x : Nat) (g : Nat) (ga : Nat) (p : Nat) (s : Nat) (kc : Nat) (qc : Nat) (f : AF) (col : Int32) (car : Int32) (tur : Int32) (pre : Int32) (cl : Int32) (y : Int32) (a : Int32) (b : Int32) (oa : Nat) (ol : Nat → Int64) (h0 : ¬ y < 0) (h1 : y ≤ 7) (h2 : ¬ a < 0) (h3 : a ≤ 255) (h4 : ¬ b < (-60)) (h5 : b ≤ 60) : CtW E cL yL_row wsL_row ({ frames := 9, cells := 0, slots := 0, locals := 156 }) [.ref x, .int y, .int a, .int b, .ref oa] [(x, .inr (4, [.ref g, .ref p, .ref s, .ref kc, .ref qc, .int col, .int car, .int tur, .int pre, .int cl])), (g, .inr (1, [.ref ga])), (ga, .inl (E.2.2, 96, .inl f)), (oa, .inl (cL, 1, .inr (.inl ol)))] (some (.int 0)) [(x, .inr (4, [.ref g, .ref p, .ref s, .ref kc, .ref qc, .int col, .int car, .int tur, .int pre, .int cl])), (g, .inr (1, [.ref ga])), (ga, .inl (E.2.2, 96, .inl (sRowF f y a b 12))), (oa, .inl (cL, 1, .inr (.inl (vp_updL ol (0 : Int32).toNatClampNeg (sGAt (sRowF f y a b 12) 11 y).toInt64))))] := by
  refine CtW.of (cc := cL_row) (maxL := 6) (ret := (some .int)) (hh := [(0, 12, 15, 13), (0, 12, 19, 15)]) (own := RL) (L := [(0, .ref x), (1, .int y), (2, .int a), (3, .int b), (4, .ref oa)]) (by decide) rfl rfl rfl (Nat.le_of_ble_eq_true rfl) rfl ?_
  intro X F Z hQ
  have i1 : ∀ w ∈ u_ws RX1 TX1 1, w ∈ wsL_row := gsub [64] rfl
  have i4 : ∀ w ∈ u_ws RX4 TX4 10, w ∈ wsL_row := gsub [54, 55, 56, 57, 58, 59, 60, 61, 62, 63] rfl
  refine h_aload F dL_row_0 4 rfl ?_
  refine h_iconst (v := 0) F dL_row_2 (by decide) ?_
  refine h_aload_n F dL_row_3 rfl 0 rfl ?_
  refine h_iload_n F dL_row_4 rfl 1 rfl ?_
  refine h_iload_n F dL_row_5 rfl 2 rfl ?_
  refine h_iload_n F dL_row_6 rfl 3 rfl ?_
  refine h_callV (ws' := [(x, .inr (4, [.ref g, .ref p, .ref s, .ref kc, .ref qc, .int col, .int car, .int tur, .int pre, .int cl])), (g, .inr (1, [.ref ga])), (ga, .inl (E.2.2, 96, .inl (sRowF f y a b 12))), (oa, .inl (cL, 1, .inr (.inl ol)))]) F dL_row_7 (c_X4_row E x g ga p s kc qc f col car tur pre cl y a b (h0) (h1) (h2) (h3) (h4) (h5)) rfl gL_row_X4_row 0 rfl rfl kV_X4_row ⟨by decide, by decide⟩ [0, 1, 2] rfl (by decide +kernel) rfl rfl (Nat.le_of_ble_eq_true rfl) ⟨by decide, by decide⟩ ?_
  refine h_i2l (v := (sGAt (sRowF f y a b 12) 11 y).toInt64) F dL_row_10 rfl ?_
  refine h_last (ws' := [(x, .inr (4, [.ref g, .ref p, .ref s, .ref kc, .ref qc, .int col, .int car, .int tur, .int pre, .int cl])), (g, .inr (1, [.ref ga])), (ga, .inl (E.2.2, 96, .inl (sRowF f y a b 12))), (oa, .inl (cL, 1, .inr (.inl (vp_updL ol (0 : Int32).toNatClampNeg ((sGAt (sRowF f y a b 12) 11 y).toInt64)))))]) F Z dL_row_11 3 rfl (by unfold vp_in; decide) rfl ?_
  refine h_goto (tgt := 23) F dL_row_12 (by decide) ?_
  refine h_iconst (v := 0) F dL_row_23 (by decide) ?_
  exact h_iret F hQ dL_row_24 (rfl) (rfl)

set_option maxHeartbeats 4000000 in
set_option maxRecDepth 100000 in
theorem v_L_row_1 (E : gE) (cL : ClassId) (x : Nat) (g : Nat) (p : Nat) (s : Nat) (kc : Nat) (qc : Nat) (col : Int32) (car : Int32) (tur : Int32) (pre : Int32) (cl : Int32) (y : Int32) (a : Int32) (b : Int32) (oa : Nat) (ol : Nat → Int64) (h0 : ¬ (¬ y < 0 ∧ y ≤ 7)) : CtW E cL yL_row wsL_row ({ frames := 9, cells := 1, slots := 6, locals := 156 }) [.ref x, .int y, .int a, .int b, .ref oa] [(x, .inr (4, [.ref g, .ref p, .ref s, .ref kc, .ref qc, .int col, .int car, .int tur, .int pre, .int cl])), (oa, .inl (cL, 1, .inr (.inl ol)))] (some (.int 1)) [(x, .inr (4, [.ref g, .ref p, .ref s, .ref kc, .ref qc, .int col, .int car, .int tur, .int pre, .int cl])), (oa, .inl (cL, 1, .inr (.inl ol)))] := by
  refine CtW.of (cc := cL_row) (maxL := 6) (ret := (some .int)) (hh := [(0, 12, 15, 13), (0, 12, 19, 15)]) (own := RL) (L := [(0, .ref x), (1, .int y), (2, .int a), (3, .int b), (4, .ref oa)]) (by decide) rfl rfl rfl (Nat.le_of_ble_eq_true rfl) rfl ?_
  intro X F Z hQ
  have i1 : ∀ w ∈ u_ws RX1 TX1 1, w ∈ wsL_row := gsub [64] rfl
  have i4 : ∀ w ∈ u_ws RX4 TX4 10, w ∈ wsL_row := gsub [54, 55, 56, 57, 58, 59, 60, 61, 62, 63] rfl
  refine h_aload F dL_row_0 4 rfl ?_
  refine h_iconst (v := 0) F dL_row_2 (by decide) ?_
  refine h_aload_n F dL_row_3 rfl 0 rfl ?_
  refine h_iload_n F dL_row_4 rfl 1 rfl ?_
  refine h_iload_n F dL_row_5 rfl 2 rfl ?_
  refine h_iload_n F dL_row_6 rfl 3 rfl ?_
  refine h_xcatch (ws' := [(x, .inr (4, [.ref g, .ref p, .ref s, .ref kc, .ref qc, .int col, .int car, .int tur, .int pre, .int cl])), (oa, .inl (cL, 1, .inr (.inl ol)))]) F Z dL_row_7 (x_X4_row_1 E x g p s kc qc col car tur pre cl y a b (h0)) rfl gL_row_X4_row 0 rfl rfl kV_X4_row rfl ⟨by decide, by decide⟩ [0] rfl (by decide +kernel) rfl (Nat.le_of_ble_eq_true rfl) ⟨by decide, by decide⟩ [] [(0, 12, 19, 15)] (0, 12, 15, 13) rfl (fun z hz => nomatch hz) (by decide) (by decide) (List.mem_of_getElem? (i := 1) rfl) (List.mem_of_getElem? (i := 0) rfl) (fun q7 => ?_)
  refine h_astore (L' := [(0, .ref x), (1, .int y), (2, .int a), (3, .int b), (4, .ref oa), (5, .ref q7)]) F dL_row_15 (by decide) [1, 2, 3, 4, 5, 0] rfl ?_
  refine h_iconst (v := 1) F dL_row_17 (by decide) ?_
  refine g_cs (cells' := 1) (slots' := 6) (by show 0 + 1 ≤ 1; omega) (by show 0 + 6 ≤ 6; omega) ?_
  exact h_iret F hQ dL_row_18 (rfl) (rfl)

set_option maxHeartbeats 4000000 in
set_option maxRecDepth 100000 in
theorem v_L_row_2 (E : gE) (cL : ClassId) (x : Nat) (g : Nat) (p : Nat) (s : Nat) (kc : Nat) (qc : Nat) (col : Int32) (car : Int32) (tur : Int32) (pre : Int32) (cl : Int32) (y : Int32) (a : Int32) (b : Int32) (oa : Nat) (ol : Nat → Int64) (h0 : ¬ y < 0) (h1 : y ≤ 7) (h2 : ¬ (¬ a < 0 ∧ a ≤ 255)) : CtW E cL yL_row wsL_row ({ frames := 9, cells := 1, slots := 6, locals := 156 }) [.ref x, .int y, .int a, .int b, .ref oa] [(x, .inr (4, [.ref g, .ref p, .ref s, .ref kc, .ref qc, .int col, .int car, .int tur, .int pre, .int cl])), (oa, .inl (cL, 1, .inr (.inl ol)))] (some (.int 2)) [(x, .inr (4, [.ref g, .ref p, .ref s, .ref kc, .ref qc, .int col, .int car, .int tur, .int pre, .int cl])), (oa, .inl (cL, 1, .inr (.inl ol)))] := by
  refine CtW.of (cc := cL_row) (maxL := 6) (ret := (some .int)) (hh := [(0, 12, 15, 13), (0, 12, 19, 15)]) (own := RL) (L := [(0, .ref x), (1, .int y), (2, .int a), (3, .int b), (4, .ref oa)]) (by decide) rfl rfl rfl (Nat.le_of_ble_eq_true rfl) rfl ?_
  intro X F Z hQ
  have i1 : ∀ w ∈ u_ws RX1 TX1 1, w ∈ wsL_row := gsub [64] rfl
  have i4 : ∀ w ∈ u_ws RX4 TX4 10, w ∈ wsL_row := gsub [54, 55, 56, 57, 58, 59, 60, 61, 62, 63] rfl
  refine h_aload F dL_row_0 4 rfl ?_
  refine h_iconst (v := 0) F dL_row_2 (by decide) ?_
  refine h_aload_n F dL_row_3 rfl 0 rfl ?_
  refine h_iload_n F dL_row_4 rfl 1 rfl ?_
  refine h_iload_n F dL_row_5 rfl 2 rfl ?_
  refine h_iload_n F dL_row_6 rfl 3 rfl ?_
  refine h_xcatch (ws' := [(x, .inr (4, [.ref g, .ref p, .ref s, .ref kc, .ref qc, .int col, .int car, .int tur, .int pre, .int cl])), (oa, .inl (cL, 1, .inr (.inl ol)))]) F Z dL_row_7 (x_X4_row_2 E x g p s kc qc col car tur pre cl y a b (h0) (h1) (h2)) rfl gL_row_X4_row 0 rfl rfl kV_X4_row rfl ⟨by decide, by decide⟩ [0] rfl (by decide +kernel) rfl (Nat.le_of_ble_eq_true rfl) ⟨by decide, by decide⟩ [(0, 12, 15, 13)] [] (0, 12, 19, 15) rfl (fun z hz => by obtain rfl := List.mem_singleton.mp hz; exact ⟨by decide, _, (List.mem_of_getElem? (i := 1) rfl), List.mem_of_getElem? (i := 0) rfl⟩) (by decide) (by decide) (List.mem_of_getElem? (i := 2) rfl) (List.mem_of_getElem? (i := 1) rfl) (fun q7 => ?_)
  refine h_astore (L' := [(0, .ref x), (1, .int y), (2, .int a), (3, .int b), (4, .ref oa), (5, .ref q7)]) F dL_row_19 (by decide) [1, 2, 3, 4, 5, 0] rfl ?_
  refine h_iconst (v := 2) F dL_row_21 (by decide) ?_
  refine g_cs (cells' := 1) (slots' := 6) (by show 0 + 1 ≤ 1; omega) (by show 0 + 6 ≤ 6; omega) ?_
  exact h_iret F hQ dL_row_22 (rfl) (rfl)

set_option maxHeartbeats 4000000 in
set_option maxRecDepth 100000 in
theorem v_L_row_3 (E : gE) (cL : ClassId) (x : Nat) (g : Nat) (p : Nat) (s : Nat) (kc : Nat) (qc : Nat) (col : Int32) (car : Int32) (tur : Int32) (pre : Int32) (cl : Int32) (y : Int32) (a : Int32) (b : Int32) (oa : Nat) (ol : Nat → Int64) (h0 : ¬ y < 0) (h1 : y ≤ 7) (h2 : ¬ a < 0) (h3 : a ≤ 255) (h4 : ¬ (¬ b < (-60) ∧ b ≤ 60)) : CtW E cL yL_row wsL_row ({ frames := 9, cells := 1, slots := 6, locals := 156 }) [.ref x, .int y, .int a, .int b, .ref oa] [(x, .inr (4, [.ref g, .ref p, .ref s, .ref kc, .ref qc, .int col, .int car, .int tur, .int pre, .int cl])), (oa, .inl (cL, 1, .inr (.inl ol)))] (some (.int 2)) [(x, .inr (4, [.ref g, .ref p, .ref s, .ref kc, .ref qc, .int col, .int car, .int tur, .int pre, .int cl])), (oa, .inl (cL, 1, .inr (.inl ol)))] := by
  refine CtW.of (cc := cL_row) (maxL := 6) (ret := (some .int)) (hh := [(0, 12, 15, 13), (0, 12, 19, 15)]) (own := RL) (L := [(0, .ref x), (1, .int y), (2, .int a), (3, .int b), (4, .ref oa)]) (by decide) rfl rfl rfl (Nat.le_of_ble_eq_true rfl) rfl ?_
  intro X F Z hQ
  have i1 : ∀ w ∈ u_ws RX1 TX1 1, w ∈ wsL_row := gsub [64] rfl
  have i4 : ∀ w ∈ u_ws RX4 TX4 10, w ∈ wsL_row := gsub [54, 55, 56, 57, 58, 59, 60, 61, 62, 63] rfl
  refine h_aload F dL_row_0 4 rfl ?_
  refine h_iconst (v := 0) F dL_row_2 (by decide) ?_
  refine h_aload_n F dL_row_3 rfl 0 rfl ?_
  refine h_iload_n F dL_row_4 rfl 1 rfl ?_
  refine h_iload_n F dL_row_5 rfl 2 rfl ?_
  refine h_iload_n F dL_row_6 rfl 3 rfl ?_
  refine h_xcatch (ws' := [(x, .inr (4, [.ref g, .ref p, .ref s, .ref kc, .ref qc, .int col, .int car, .int tur, .int pre, .int cl])), (oa, .inl (cL, 1, .inr (.inl ol)))]) F Z dL_row_7 (x_X4_row_3 E x g p s kc qc col car tur pre cl y a b (h0) (h1) (h2) (h3) (h4)) rfl gL_row_X4_row 0 rfl rfl kV_X4_row rfl ⟨by decide, by decide⟩ [0] rfl (by decide +kernel) rfl (Nat.le_of_ble_eq_true rfl) ⟨by decide, by decide⟩ [(0, 12, 15, 13)] [] (0, 12, 19, 15) rfl (fun z hz => by obtain rfl := List.mem_singleton.mp hz; exact ⟨by decide, _, (List.mem_of_getElem? (i := 1) rfl), List.mem_of_getElem? (i := 0) rfl⟩) (by decide) (by decide) (List.mem_of_getElem? (i := 2) rfl) (List.mem_of_getElem? (i := 1) rfl) (fun q7 => ?_)
  refine h_astore (L' := [(0, .ref x), (1, .int y), (2, .int a), (3, .int b), (4, .ref oa), (5, .ref q7)]) F dL_row_19 (by decide) [1, 2, 3, 4, 5, 0] rfl ?_
  refine h_iconst (v := 2) F dL_row_21 (by decide) ?_
  refine g_cs (cells' := 1) (slots' := 6) (by show 0 + 1 ≤ 1; omega) (by show 0 + 6 ≤ 6; omega) ?_
  exact h_iret F hQ dL_row_22 (rfl) (rfl)

set_option maxHeartbeats 4000000 in
set_option maxRecDepth 100000 in
theorem w_L_like (E : gE) (cL : ClassId) (x : Nat) (g : Nat) (ga : Nat) (p : Nat) (s : Nat) (kc : Nat) (qc : Nat) (f : AF) (col : Int32) (car : Int32) (tur : Int32) (pre : Int32) (cl : Int32) (y : Int32) (o : Int32) (oa : Nat) (ol : Nat → Int64) (h0 : ¬ y < 0) (h1 : y ≤ 7) (h2 : ¬ o < 0) (h3 : o ≤ 7) : CtW E cL yL_like wsL_like ({ frames := 9, cells := 0, slots := 0, locals := 156 }) [.ref x, .int y, .int o, .ref oa] [(x, .inr (4, [.ref g, .ref p, .ref s, .ref kc, .ref qc, .int col, .int car, .int tur, .int pre, .int cl])), (g, .inr (1, [.ref ga])), (ga, .inl (E.2.2, 96, .inl f)), (oa, .inl (cL, 1, .inr (.inl ol)))] (some (.int 0)) [(x, .inr (4, [.ref g, .ref p, .ref s, .ref kc, .ref qc, .int col, .int car, .int tur, .int pre, .int cl])), (g, .inr (1, [.ref ga])), (ga, .inl (E.2.2, 96, .inl ((sLike f y o 12).1))), (oa, .inl (cL, 1, .inr (.inl (vp_updL ol (0 : Int32).toNatClampNeg ((sLike f y o 12).2).toInt64))))] := by
  refine CtW.of (cc := cL_like) (maxL := 5) (ret := (some .int)) (hh := [(0, 10, 13, 13)]) (own := RL) (L := [(0, .ref x), (1, .int y), (2, .int o), (3, .ref oa)]) (by decide) rfl rfl rfl (Nat.le_of_ble_eq_true rfl) rfl ?_
  intro X F Z hQ
  have i1 : ∀ w ∈ u_ws RX1 TX1 1, w ∈ wsL_like := gsub [42] rfl
  have i4 : ∀ w ∈ u_ws RX4 TX4 10, w ∈ wsL_like := gsub [32, 33, 34, 35, 36, 37, 38, 39, 40, 41] rfl
  refine h_aload_n F dL_like_0 rfl 3 rfl ?_
  refine h_iconst (v := 0) F dL_like_1 (by decide) ?_
  refine h_aload_n F dL_like_2 rfl 0 rfl ?_
  refine h_iload_n F dL_like_3 rfl 1 rfl ?_
  refine h_iload_n F dL_like_4 rfl 2 rfl ?_
  refine h_callV (ws' := [(x, .inr (4, [.ref g, .ref p, .ref s, .ref kc, .ref qc, .int col, .int car, .int tur, .int pre, .int cl])), (g, .inr (1, [.ref ga])), (ga, .inl (E.2.2, 96, .inl ((sLike f y o 12).1))), (oa, .inl (cL, 1, .inr (.inl ol)))]) F dL_like_5 (c_X4_like E x g ga p s kc qc f col car tur pre cl y o (h0) (h1) (h2) (h3)) rfl gL_like_X4_like 0 rfl rfl kV_X4_like ⟨by decide, by decide⟩ [0, 1, 2] rfl (by decide +kernel) rfl rfl (Nat.le_of_ble_eq_true rfl) ⟨by decide, by decide⟩ ?_
  refine h_i2l (v := ((sLike f y o 12).2).toInt64) F dL_like_8 rfl ?_
  refine h_last (ws' := [(x, .inr (4, [.ref g, .ref p, .ref s, .ref kc, .ref qc, .int col, .int car, .int tur, .int pre, .int cl])), (g, .inr (1, [.ref ga])), (ga, .inl (E.2.2, 96, .inl ((sLike f y o 12).1))), (oa, .inl (cL, 1, .inr (.inl (vp_updL ol (0 : Int32).toNatClampNeg (((sLike f y o 12).2).toInt64)))))]) F Z dL_like_9 3 rfl (by unfold vp_in; decide) rfl ?_
  refine h_goto (tgt := 17) F dL_like_10 (by decide) ?_
  refine h_iconst (v := 0) F dL_like_17 (by decide) ?_
  exact h_iret F hQ dL_like_18 (rfl) (rfl)

set_option maxHeartbeats 4000000 in
set_option maxRecDepth 100000 in
theorem v_L_like_1 (E : gE) (cL : ClassId) (x : Nat) (g : Nat) (p : Nat) (s : Nat) (kc : Nat) (qc : Nat) (col : Int32) (car : Int32) (tur : Int32) (pre : Int32) (cl : Int32) (y : Int32) (o : Int32) (oa : Nat) (ol : Nat → Int64) (h0 : ¬ (¬ y < 0 ∧ y ≤ 7)) : CtW E cL yL_like wsL_like ({ frames := 9, cells := 1, slots := 6, locals := 156 }) [.ref x, .int y, .int o, .ref oa] [(x, .inr (4, [.ref g, .ref p, .ref s, .ref kc, .ref qc, .int col, .int car, .int tur, .int pre, .int cl])), (oa, .inl (cL, 1, .inr (.inl ol)))] (some (.int 1)) [(x, .inr (4, [.ref g, .ref p, .ref s, .ref kc, .ref qc, .int col, .int car, .int tur, .int pre, .int cl])), (oa, .inl (cL, 1, .inr (.inl ol)))] := by
  refine CtW.of (cc := cL_like) (maxL := 5) (ret := (some .int)) (hh := [(0, 10, 13, 13)]) (own := RL) (L := [(0, .ref x), (1, .int y), (2, .int o), (3, .ref oa)]) (by decide) rfl rfl rfl (Nat.le_of_ble_eq_true rfl) rfl ?_
  intro X F Z hQ
  have i1 : ∀ w ∈ u_ws RX1 TX1 1, w ∈ wsL_like := gsub [42] rfl
  have i4 : ∀ w ∈ u_ws RX4 TX4 10, w ∈ wsL_like := gsub [32, 33, 34, 35, 36, 37, 38, 39, 40, 41] rfl
  refine h_aload_n F dL_like_0 rfl 3 rfl ?_
  refine h_iconst (v := 0) F dL_like_1 (by decide) ?_
  refine h_aload_n F dL_like_2 rfl 0 rfl ?_
  refine h_iload_n F dL_like_3 rfl 1 rfl ?_
  refine h_iload_n F dL_like_4 rfl 2 rfl ?_
  refine h_xcatch (ws' := [(x, .inr (4, [.ref g, .ref p, .ref s, .ref kc, .ref qc, .int col, .int car, .int tur, .int pre, .int cl])), (oa, .inl (cL, 1, .inr (.inl ol)))]) F Z dL_like_5 (x_X4_like_1 E x g p s kc qc col car tur pre cl y o (h0)) rfl gL_like_X4_like 0 rfl rfl kV_X4_like rfl ⟨by decide, by decide⟩ [0] rfl (by decide +kernel) rfl (Nat.le_of_ble_eq_true rfl) ⟨by decide, by decide⟩ [] [] (0, 10, 13, 13) rfl (fun z hz => nomatch hz) (by decide) (by decide) (List.mem_of_getElem? (i := 1) rfl) (List.mem_of_getElem? (i := 0) rfl) (fun q5 => ?_)
  refine h_astore (L' := [(0, .ref x), (1, .int y), (2, .int o), (3, .ref oa), (4, .ref q5)]) F dL_like_13 (by decide) [1, 2, 3, 4, 0] rfl ?_
  refine h_iconst (v := 1) F dL_like_15 (by decide) ?_
  refine g_cs (cells' := 1) (slots' := 6) (by show 0 + 1 ≤ 1; omega) (by show 0 + 6 ≤ 6; omega) ?_
  exact h_iret F hQ dL_like_16 (rfl) (rfl)

set_option maxHeartbeats 4000000 in
set_option maxRecDepth 100000 in
theorem v_L_like_2 (E : gE) (cL : ClassId) (x : Nat) (g : Nat) (p : Nat) (s : Nat) (kc : Nat) (qc : Nat) (col : Int32) (car : Int32) (tur : Int32) (pre : Int32) (cl : Int32) (y : Int32) (o : Int32) (oa : Nat) (ol : Nat → Int64) (h0 : ¬ y < 0) (h1 : y ≤ 7) (h2 : ¬ (¬ o < 0 ∧ o ≤ 7)) : CtW E cL yL_like wsL_like ({ frames := 9, cells := 1, slots := 6, locals := 156 }) [.ref x, .int y, .int o, .ref oa] [(x, .inr (4, [.ref g, .ref p, .ref s, .ref kc, .ref qc, .int col, .int car, .int tur, .int pre, .int cl])), (oa, .inl (cL, 1, .inr (.inl ol)))] (some (.int 1)) [(x, .inr (4, [.ref g, .ref p, .ref s, .ref kc, .ref qc, .int col, .int car, .int tur, .int pre, .int cl])), (oa, .inl (cL, 1, .inr (.inl ol)))] := by
  refine CtW.of (cc := cL_like) (maxL := 5) (ret := (some .int)) (hh := [(0, 10, 13, 13)]) (own := RL) (L := [(0, .ref x), (1, .int y), (2, .int o), (3, .ref oa)]) (by decide) rfl rfl rfl (Nat.le_of_ble_eq_true rfl) rfl ?_
  intro X F Z hQ
  have i1 : ∀ w ∈ u_ws RX1 TX1 1, w ∈ wsL_like := gsub [42] rfl
  have i4 : ∀ w ∈ u_ws RX4 TX4 10, w ∈ wsL_like := gsub [32, 33, 34, 35, 36, 37, 38, 39, 40, 41] rfl
  refine h_aload_n F dL_like_0 rfl 3 rfl ?_
  refine h_iconst (v := 0) F dL_like_1 (by decide) ?_
  refine h_aload_n F dL_like_2 rfl 0 rfl ?_
  refine h_iload_n F dL_like_3 rfl 1 rfl ?_
  refine h_iload_n F dL_like_4 rfl 2 rfl ?_
  refine h_xcatch (ws' := [(x, .inr (4, [.ref g, .ref p, .ref s, .ref kc, .ref qc, .int col, .int car, .int tur, .int pre, .int cl])), (oa, .inl (cL, 1, .inr (.inl ol)))]) F Z dL_like_5 (x_X4_like_2 E x g p s kc qc col car tur pre cl y o (h0) (h1) (h2)) rfl gL_like_X4_like 0 rfl rfl kV_X4_like rfl ⟨by decide, by decide⟩ [0] rfl (by decide +kernel) rfl (Nat.le_of_ble_eq_true rfl) ⟨by decide, by decide⟩ [] [] (0, 10, 13, 13) rfl (fun z hz => nomatch hz) (by decide) (by decide) (List.mem_of_getElem? (i := 1) rfl) (List.mem_of_getElem? (i := 0) rfl) (fun q5 => ?_)
  refine h_astore (L' := [(0, .ref x), (1, .int y), (2, .int o), (3, .ref oa), (4, .ref q5)]) F dL_like_13 (by decide) [1, 2, 3, 4, 0] rfl ?_
  refine h_iconst (v := 1) F dL_like_15 (by decide) ?_
  refine g_cs (cells' := 1) (slots' := 6) (by show 0 + 1 ≤ 1; omega) (by show 0 + 6 ≤ 6; omega) ?_
  exact h_iret F hQ dL_like_16 (rfl) (rfl)

set_option maxHeartbeats 4000000 in
set_option maxRecDepth 100000 in
theorem w_L_setColours (E : gE) (cL : ClassId) (x : Nat) (g : Nat) (p : Nat) (s : Nat) (kc : Nat) (qc : Nat) (col : Int32) (car : Int32) (tur : Int32) (pre : Int32) (cl : Int32) (n : Int32) (oa : Nat) (ol : Nat → Int64) (h0 : ¬ n < 2) (h1 : n ≤ 6) : CtW E cL yL_setColours wsL_setColours ({ frames := 9, cells := 0, slots := 0, locals := 154 }) [.ref x, .int n, .ref oa] [(x, .inr (4, [.ref g, .ref p, .ref s, .ref kc, .ref qc, .int col, .int car, .int tur, .int pre, .int cl])), (oa, .inl (cL, 1, .inr (.inl ol)))] (some (.int 0)) [(x, .inr (4, [.ref g, .ref p, .ref s, .ref kc, .ref qc, .int n, .int car, .int tur, .int pre, .int cl])), (oa, .inl (cL, 1, .inr (.inl (vp_updL ol (0 : Int32).toNatClampNeg (col).toInt64))))] := by
  refine CtW.of (cc := cL_setColours) (maxL := 4) (ret := (some .int)) (hh := [(0, 9, 12, 15)]) (own := RL) (L := [(0, .ref x), (1, .int n), (2, .ref oa)]) (by decide) rfl rfl rfl (Nat.le_of_ble_eq_true rfl) rfl ?_
  intro X F Z hQ
  have i4 : ∀ w ∈ u_ws RX4 TX4 10, w ∈ wsL_setColours := gsub [16, 17, 18, 19, 20, 21, 22, 23, 24, 25] rfl
  refine h_aload_n F dL_setColours_0 rfl 2 rfl ?_
  refine h_iconst (v := 0) F dL_setColours_1 (by decide) ?_
  refine h_aload_n F dL_setColours_2 rfl 0 rfl ?_
  refine h_iload_n F dL_setColours_3 rfl 1 rfl ?_
  refine h_callV (ws' := [(x, .inr (4, [.ref g, .ref p, .ref s, .ref kc, .ref qc, .int n, .int car, .int tur, .int pre, .int cl])), (oa, .inl (cL, 1, .inr (.inl ol)))]) F dL_setColours_4 (c_X4_setColours E x g p s kc qc col car tur pre cl n (h0) (h1)) rfl gL_setColours_X4_setColours 0 rfl rfl kV_X4_setColours ⟨by decide, by decide⟩ [0] rfl (by decide +kernel) rfl rfl (Nat.le_of_ble_eq_true rfl) ⟨by decide, by decide⟩ ?_
  refine h_i2l (v := col.toInt64) F dL_setColours_7 rfl ?_
  refine h_last (ws' := [(x, .inr (4, [.ref g, .ref p, .ref s, .ref kc, .ref qc, .int n, .int car, .int tur, .int pre, .int cl])), (oa, .inl (cL, 1, .inr (.inl (vp_updL ol (0 : Int32).toNatClampNeg col.toInt64))))]) F Z dL_setColours_8 1 rfl (by unfold vp_in; decide) rfl ?_
  refine h_goto (tgt := 15) F dL_setColours_9 (by decide) ?_
  refine h_iconst (v := 0) F dL_setColours_15 (by decide) ?_
  exact h_iret F hQ dL_setColours_16 (rfl) (rfl)

set_option maxHeartbeats 4000000 in
set_option maxRecDepth 100000 in
theorem v_L_setColours (E : gE) (cL : ClassId) (x : Nat) (g : Nat) (p : Nat) (s : Nat) (kc : Nat) (qc : Nat) (col : Int32) (car : Int32) (tur : Int32) (pre : Int32) (cl : Int32) (n : Int32) (oa : Nat) (ol : Nat → Int64) (h0 : ¬ (¬ n < 2 ∧ n ≤ 6)) : CtW E cL yL_setColours wsL_setColours ({ frames := 9, cells := 1, slots := 6, locals := 154 }) [.ref x, .int n, .ref oa] [(x, .inr (4, [.ref g, .ref p, .ref s, .ref kc, .ref qc, .int col, .int car, .int tur, .int pre, .int cl])), (oa, .inl (cL, 1, .inr (.inl ol)))] (some (.int 1)) [(x, .inr (4, [.ref g, .ref p, .ref s, .ref kc, .ref qc, .int col, .int car, .int tur, .int pre, .int cl])), (oa, .inl (cL, 1, .inr (.inl ol)))] := by
  refine CtW.of (cc := cL_setColours) (maxL := 4) (ret := (some .int)) (hh := [(0, 9, 12, 15)]) (own := RL) (L := [(0, .ref x), (1, .int n), (2, .ref oa)]) (by decide) rfl rfl rfl (Nat.le_of_ble_eq_true rfl) rfl ?_
  intro X F Z hQ
  have i4 : ∀ w ∈ u_ws RX4 TX4 10, w ∈ wsL_setColours := gsub [16, 17, 18, 19, 20, 21, 22, 23, 24, 25] rfl
  refine h_aload_n F dL_setColours_0 rfl 2 rfl ?_
  refine h_iconst (v := 0) F dL_setColours_1 (by decide) ?_
  refine h_aload_n F dL_setColours_2 rfl 0 rfl ?_
  refine h_iload_n F dL_setColours_3 rfl 1 rfl ?_
  refine h_xcatch (ws' := [(x, .inr (4, [.ref g, .ref p, .ref s, .ref kc, .ref qc, .int col, .int car, .int tur, .int pre, .int cl])), (oa, .inl (cL, 1, .inr (.inl ol)))]) F Z dL_setColours_4 (x_X4_setColours E x g p s kc qc col car tur pre cl n (h0)) rfl gL_setColours_X4_setColours 0 rfl rfl kV_X4_setColours rfl ⟨by decide, by decide⟩ [0] rfl (by decide +kernel) rfl (Nat.le_of_ble_eq_true rfl) ⟨by decide, by decide⟩ [] [] (0, 9, 12, 15) rfl (fun z hz => nomatch hz) (by decide) (by decide) (List.mem_of_getElem? (i := 1) rfl) (List.mem_of_getElem? (i := 1) rfl) (fun q4 => ?_)
  refine h_astore_n (L' := [(0, .ref x), (1, .int n), (2, .ref oa), (3, .ref q4)]) F dL_setColours_12 rfl (by decide) [1, 2, 3, 0] rfl ?_
  refine h_iconst (v := 1) F dL_setColours_13 (by decide) ?_
  refine g_cs (cells' := 1) (slots' := 6) (by show 0 + 1 ≤ 1; omega) (by show 0 + 6 ≤ 6; omega) ?_
  exact h_iret F hQ dL_setColours_14 (rfl) (rfl)

set_option maxHeartbeats 4000000 in
set_option maxRecDepth 100000 in
theorem w_L_setCarry (E : gE) (cL : ClassId) (x : Nat) (g : Nat) (p : Nat) (s : Nat) (kc : Nat) (qc : Nat) (col : Int32) (car : Int32) (tur : Int32) (pre : Int32) (cl : Int32) (n : Int32) (oa : Nat) (ol : Nat → Int64) (h0 : ¬ n < 0) (h1 : n ≤ 2) : CtW E cL yL_setCarry wsL_setCarry ({ frames := 8, cells := 0, slots := 0, locals := 133 }) [.ref x, .int n, .ref oa] [(x, .inr (4, [.ref g, .ref p, .ref s, .ref kc, .ref qc, .int col, .int car, .int tur, .int pre, .int cl])), (oa, .inl (cL, 1, .inr (.inl ol)))] (some (.int 0)) [(x, .inr (4, [.ref g, .ref p, .ref s, .ref kc, .ref qc, .int col, .int n, .int tur, .int pre, .int cl])), (oa, .inl (cL, 1, .inr (.inl (vp_updL ol (0 : Int32).toNatClampNeg (car).toInt64))))] := by
  refine CtW.of (cc := cL_setCarry) (maxL := 4) (ret := (some .int)) (hh := [(0, 9, 12, 13)]) (own := RL) (L := [(0, .ref x), (1, .int n), (2, .ref oa)]) (by decide) rfl rfl rfl (Nat.le_of_ble_eq_true rfl) rfl ?_
  intro X F Z hQ
  have i4 : ∀ w ∈ u_ws RX4 TX4 10, w ∈ wsL_setCarry := gsub [13, 14, 15, 16, 17, 18, 19, 20, 21, 22] rfl
  refine h_aload_n F dL_setCarry_0 rfl 2 rfl ?_
  refine h_iconst (v := 0) F dL_setCarry_1 (by decide) ?_
  refine h_aload_n F dL_setCarry_2 rfl 0 rfl ?_
  refine h_iload_n F dL_setCarry_3 rfl 1 rfl ?_
  refine h_callV (ws' := [(x, .inr (4, [.ref g, .ref p, .ref s, .ref kc, .ref qc, .int col, .int n, .int tur, .int pre, .int cl])), (oa, .inl (cL, 1, .inr (.inl ol)))]) F dL_setCarry_4 (c_X4_setCarry E x g p s kc qc col car tur pre cl n (h0) (h1)) rfl gL_setCarry_X4_setCarry 0 rfl rfl kV_X4_setCarry ⟨by decide, by decide⟩ [0] rfl (by decide +kernel) rfl rfl (Nat.le_of_ble_eq_true rfl) ⟨by decide, by decide⟩ ?_
  refine h_i2l (v := car.toInt64) F dL_setCarry_7 rfl ?_
  refine h_last (ws' := [(x, .inr (4, [.ref g, .ref p, .ref s, .ref kc, .ref qc, .int col, .int n, .int tur, .int pre, .int cl])), (oa, .inl (cL, 1, .inr (.inl (vp_updL ol (0 : Int32).toNatClampNeg car.toInt64))))]) F Z dL_setCarry_8 1 rfl (by unfold vp_in; decide) rfl ?_
  refine h_goto (tgt := 15) F dL_setCarry_9 (by decide) ?_
  refine h_iconst (v := 0) F dL_setCarry_15 (by decide) ?_
  exact h_iret F hQ dL_setCarry_16 (rfl) (rfl)

set_option maxHeartbeats 4000000 in
set_option maxRecDepth 100000 in
theorem v_L_setCarry (E : gE) (cL : ClassId) (x : Nat) (g : Nat) (p : Nat) (s : Nat) (kc : Nat) (qc : Nat) (col : Int32) (car : Int32) (tur : Int32) (pre : Int32) (cl : Int32) (n : Int32) (oa : Nat) (ol : Nat → Int64) (h0 : ¬ (¬ n < 0 ∧ n ≤ 2)) : CtW E cL yL_setCarry wsL_setCarry ({ frames := 8, cells := 1, slots := 6, locals := 133 }) [.ref x, .int n, .ref oa] [(x, .inr (4, [.ref g, .ref p, .ref s, .ref kc, .ref qc, .int col, .int car, .int tur, .int pre, .int cl])), (oa, .inl (cL, 1, .inr (.inl ol)))] (some (.int 1)) [(x, .inr (4, [.ref g, .ref p, .ref s, .ref kc, .ref qc, .int col, .int car, .int tur, .int pre, .int cl])), (oa, .inl (cL, 1, .inr (.inl ol)))] := by
  refine CtW.of (cc := cL_setCarry) (maxL := 4) (ret := (some .int)) (hh := [(0, 9, 12, 13)]) (own := RL) (L := [(0, .ref x), (1, .int n), (2, .ref oa)]) (by decide) rfl rfl rfl (Nat.le_of_ble_eq_true rfl) rfl ?_
  intro X F Z hQ
  have i4 : ∀ w ∈ u_ws RX4 TX4 10, w ∈ wsL_setCarry := gsub [13, 14, 15, 16, 17, 18, 19, 20, 21, 22] rfl
  refine h_aload_n F dL_setCarry_0 rfl 2 rfl ?_
  refine h_iconst (v := 0) F dL_setCarry_1 (by decide) ?_
  refine h_aload_n F dL_setCarry_2 rfl 0 rfl ?_
  refine h_iload_n F dL_setCarry_3 rfl 1 rfl ?_
  refine h_xcatch (ws' := [(x, .inr (4, [.ref g, .ref p, .ref s, .ref kc, .ref qc, .int col, .int car, .int tur, .int pre, .int cl])), (oa, .inl (cL, 1, .inr (.inl ol)))]) F Z dL_setCarry_4 (x_X4_setCarry E x g p s kc qc col car tur pre cl n (h0)) rfl gL_setCarry_X4_setCarry 0 rfl rfl kV_X4_setCarry rfl ⟨by decide, by decide⟩ [0] rfl (by decide +kernel) rfl (Nat.le_of_ble_eq_true rfl) ⟨by decide, by decide⟩ [] [] (0, 9, 12, 13) rfl (fun z hz => nomatch hz) (by decide) (by decide) (List.mem_of_getElem? (i := 1) rfl) (List.mem_of_getElem? (i := 0) rfl) (fun q4 => ?_)
  refine h_astore_n (L' := [(0, .ref x), (1, .int n), (2, .ref oa), (3, .ref q4)]) F dL_setCarry_12 rfl (by decide) [1, 2, 3, 0] rfl ?_
  refine h_iconst (v := 1) F dL_setCarry_13 (by decide) ?_
  refine g_cs (cells' := 1) (slots' := 6) (by show 0 + 1 ≤ 1; omega) (by show 0 + 6 ≤ 6; omega) ?_
  exact h_iret F hQ dL_setCarry_14 (rfl) (rfl)

set_option maxHeartbeats 4000000 in
set_option maxRecDepth 100000 in
theorem w_L_wind (E : gE) (cL : ClassId) (x : Nat) (g : Nat) (p : Nat) (s : Nat) (sa : Nat) (kc : Nat) (qc : Nat) (th : AF) (col : Int32) (car : Int32) (tur : Int32) (pre : Int32) (cl : Int32) (c : Int32) (n : Int32) (oa : Nat) (ol : Nat → Int64) (h0 : ¬ c < 0) (h1 : c ≤ 5) (h2 : ¬ n < 1) (h3 : n ≤ 99) : CtW E cL yL_wind wsL_wind ({ frames := 9, cells := 0, slots := 0, locals := 154 }) [.ref x, .int c, .int n, .ref oa] [(x, .inr (4, [.ref g, .ref p, .ref s, .ref kc, .ref qc, .int col, .int car, .int tur, .int pre, .int cl])), (s, .inr (3, [.ref sa])), (sa, .inl (E.2.2, 6, .inl th)), (oa, .inl (cL, 1, .inr (.inl ol)))] (some (.int 0)) [(x, .inr (4, [.ref g, .ref p, .ref s, .ref kc, .ref qc, .int col, .int car, .int tur, .int pre, .int cl])), (s, .inr (3, [.ref sa])), (sa, .inl (E.2.2, 6, .inl (sWind th c n))), (oa, .inl (cL, 1, .inr (.inl (vp_updL ol (0 : Int32).toNatClampNeg (sAt 6 (sWind th c n) c).toInt64))))] := by
  refine CtW.of (cc := cL_wind) (maxL := 5) (ret := (some .int)) (hh := [(0, 10, 13, 13), (0, 10, 17, 15)]) (own := RL) (L := [(0, .ref x), (1, .int c), (2, .int n), (3, .ref oa)]) (by decide) rfl rfl rfl (Nat.le_of_ble_eq_true rfl) rfl ?_
  intro X F Z hQ
  have i3 : ∀ w ∈ u_ws RX3 TX3 1, w ∈ wsL_wind := gsub [54] rfl
  have i4 : ∀ w ∈ u_ws RX4 TX4 10, w ∈ wsL_wind := gsub [44, 45, 46, 47, 48, 49, 50, 51, 52, 53] rfl
  refine h_aload_n F dL_wind_0 rfl 3 rfl ?_
  refine h_iconst (v := 0) F dL_wind_1 (by decide) ?_
  refine h_aload_n F dL_wind_2 rfl 0 rfl ?_
  refine h_iload_n F dL_wind_3 rfl 1 rfl ?_
  refine h_iload_n F dL_wind_4 rfl 2 rfl ?_
  refine h_callV (ws' := [(x, .inr (4, [.ref g, .ref p, .ref s, .ref kc, .ref qc, .int col, .int car, .int tur, .int pre, .int cl])), (s, .inr (3, [.ref sa])), (sa, .inl (E.2.2, 6, .inl (sWind th c n))), (oa, .inl (cL, 1, .inr (.inl ol)))]) F dL_wind_5 (c_X4_wind E x g p s sa kc qc th col car tur pre cl c n (h0) (h1) (h2) (h3)) rfl gL_wind_X4_wind 0 rfl rfl kV_X4_wind ⟨by decide, by decide⟩ [0, 1, 2] rfl (by decide +kernel) rfl rfl (Nat.le_of_ble_eq_true rfl) ⟨by decide, by decide⟩ ?_
  refine h_i2l (v := (sAt 6 (sWind th c n) c).toInt64) F dL_wind_8 rfl ?_
  refine h_last (ws' := [(x, .inr (4, [.ref g, .ref p, .ref s, .ref kc, .ref qc, .int col, .int car, .int tur, .int pre, .int cl])), (s, .inr (3, [.ref sa])), (sa, .inl (E.2.2, 6, .inl (sWind th c n))), (oa, .inl (cL, 1, .inr (.inl (vp_updL ol (0 : Int32).toNatClampNeg ((sAt 6 (sWind th c n) c).toInt64)))))]) F Z dL_wind_9 3 rfl (by unfold vp_in; decide) rfl ?_
  refine h_goto (tgt := 21) F dL_wind_10 (by decide) ?_
  refine h_iconst (v := 0) F dL_wind_21 (by decide) ?_
  exact h_iret F hQ dL_wind_22 (rfl) (rfl)

set_option maxHeartbeats 4000000 in
set_option maxRecDepth 100000 in
theorem v_L_wind_1 (E : gE) (cL : ClassId) (x : Nat) (g : Nat) (p : Nat) (s : Nat) (kc : Nat) (qc : Nat) (col : Int32) (car : Int32) (tur : Int32) (pre : Int32) (cl : Int32) (c : Int32) (n : Int32) (oa : Nat) (ol : Nat → Int64) (h0 : ¬ (¬ c < 0 ∧ c ≤ 5)) : CtW E cL yL_wind wsL_wind ({ frames := 9, cells := 1, slots := 6, locals := 154 }) [.ref x, .int c, .int n, .ref oa] [(x, .inr (4, [.ref g, .ref p, .ref s, .ref kc, .ref qc, .int col, .int car, .int tur, .int pre, .int cl])), (oa, .inl (cL, 1, .inr (.inl ol)))] (some (.int 1)) [(x, .inr (4, [.ref g, .ref p, .ref s, .ref kc, .ref qc, .int col, .int car, .int tur, .int pre, .int cl])), (oa, .inl (cL, 1, .inr (.inl ol)))] := by
  refine CtW.of (cc := cL_wind) (maxL := 5) (ret := (some .int)) (hh := [(0, 10, 13, 13), (0, 10, 17, 15)]) (own := RL) (L := [(0, .ref x), (1, .int c), (2, .int n), (3, .ref oa)]) (by decide) rfl rfl rfl (Nat.le_of_ble_eq_true rfl) rfl ?_
  intro X F Z hQ
  have i3 : ∀ w ∈ u_ws RX3 TX3 1, w ∈ wsL_wind := gsub [54] rfl
  have i4 : ∀ w ∈ u_ws RX4 TX4 10, w ∈ wsL_wind := gsub [44, 45, 46, 47, 48, 49, 50, 51, 52, 53] rfl
  refine h_aload_n F dL_wind_0 rfl 3 rfl ?_
  refine h_iconst (v := 0) F dL_wind_1 (by decide) ?_
  refine h_aload_n F dL_wind_2 rfl 0 rfl ?_
  refine h_iload_n F dL_wind_3 rfl 1 rfl ?_
  refine h_iload_n F dL_wind_4 rfl 2 rfl ?_
  refine h_xcatch (ws' := [(x, .inr (4, [.ref g, .ref p, .ref s, .ref kc, .ref qc, .int col, .int car, .int tur, .int pre, .int cl])), (oa, .inl (cL, 1, .inr (.inl ol)))]) F Z dL_wind_5 (x_X4_wind_1 E x g p s kc qc col car tur pre cl c n (h0)) rfl gL_wind_X4_wind 0 rfl rfl kV_X4_wind rfl ⟨by decide, by decide⟩ [0] rfl (by decide +kernel) rfl (Nat.le_of_ble_eq_true rfl) ⟨by decide, by decide⟩ [] [(0, 10, 17, 15)] (0, 10, 13, 13) rfl (fun z hz => nomatch hz) (by decide) (by decide) (List.mem_of_getElem? (i := 1) rfl) (List.mem_of_getElem? (i := 0) rfl) (fun q5 => ?_)
  refine h_astore (L' := [(0, .ref x), (1, .int c), (2, .int n), (3, .ref oa), (4, .ref q5)]) F dL_wind_13 (by decide) [1, 2, 3, 4, 0] rfl ?_
  refine h_iconst (v := 1) F dL_wind_15 (by decide) ?_
  refine g_cs (cells' := 1) (slots' := 6) (by show 0 + 1 ≤ 1; omega) (by show 0 + 6 ≤ 6; omega) ?_
  exact h_iret F hQ dL_wind_16 (rfl) (rfl)

set_option maxHeartbeats 4000000 in
set_option maxRecDepth 100000 in
theorem v_L_wind_2 (E : gE) (cL : ClassId) (x : Nat) (g : Nat) (p : Nat) (s : Nat) (kc : Nat) (qc : Nat) (col : Int32) (car : Int32) (tur : Int32) (pre : Int32) (cl : Int32) (c : Int32) (n : Int32) (oa : Nat) (ol : Nat → Int64) (h0 : ¬ c < 0) (h1 : c ≤ 5) (h2 : ¬ (¬ n < 1 ∧ n ≤ 99)) : CtW E cL yL_wind wsL_wind ({ frames := 9, cells := 1, slots := 6, locals := 154 }) [.ref x, .int c, .int n, .ref oa] [(x, .inr (4, [.ref g, .ref p, .ref s, .ref kc, .ref qc, .int col, .int car, .int tur, .int pre, .int cl])), (oa, .inl (cL, 1, .inr (.inl ol)))] (some (.int 2)) [(x, .inr (4, [.ref g, .ref p, .ref s, .ref kc, .ref qc, .int col, .int car, .int tur, .int pre, .int cl])), (oa, .inl (cL, 1, .inr (.inl ol)))] := by
  refine CtW.of (cc := cL_wind) (maxL := 5) (ret := (some .int)) (hh := [(0, 10, 13, 13), (0, 10, 17, 15)]) (own := RL) (L := [(0, .ref x), (1, .int c), (2, .int n), (3, .ref oa)]) (by decide) rfl rfl rfl (Nat.le_of_ble_eq_true rfl) rfl ?_
  intro X F Z hQ
  have i3 : ∀ w ∈ u_ws RX3 TX3 1, w ∈ wsL_wind := gsub [54] rfl
  have i4 : ∀ w ∈ u_ws RX4 TX4 10, w ∈ wsL_wind := gsub [44, 45, 46, 47, 48, 49, 50, 51, 52, 53] rfl
  refine h_aload_n F dL_wind_0 rfl 3 rfl ?_
  refine h_iconst (v := 0) F dL_wind_1 (by decide) ?_
  refine h_aload_n F dL_wind_2 rfl 0 rfl ?_
  refine h_iload_n F dL_wind_3 rfl 1 rfl ?_
  refine h_iload_n F dL_wind_4 rfl 2 rfl ?_
  refine h_xcatch (ws' := [(x, .inr (4, [.ref g, .ref p, .ref s, .ref kc, .ref qc, .int col, .int car, .int tur, .int pre, .int cl])), (oa, .inl (cL, 1, .inr (.inl ol)))]) F Z dL_wind_5 (x_X4_wind_2 E x g p s kc qc col car tur pre cl c n (h0) (h1) (h2)) rfl gL_wind_X4_wind 0 rfl rfl kV_X4_wind rfl ⟨by decide, by decide⟩ [0] rfl (by decide +kernel) rfl (Nat.le_of_ble_eq_true rfl) ⟨by decide, by decide⟩ [(0, 10, 13, 13)] [] (0, 10, 17, 15) rfl (fun z hz => by obtain rfl := List.mem_singleton.mp hz; exact ⟨by decide, _, (List.mem_of_getElem? (i := 1) rfl), List.mem_of_getElem? (i := 0) rfl⟩) (by decide) (by decide) (List.mem_of_getElem? (i := 2) rfl) (List.mem_of_getElem? (i := 1) rfl) (fun q5 => ?_)
  refine h_astore (L' := [(0, .ref x), (1, .int c), (2, .int n), (3, .ref oa), (4, .ref q5)]) F dL_wind_17 (by decide) [1, 2, 3, 4, 0] rfl ?_
  refine h_iconst (v := 2) F dL_wind_19 (by decide) ?_
  refine g_cs (cells' := 1) (slots' := 6) (by show 0 + 1 ≤ 1; omega) (by show 0 + 6 ≤ 6; omega) ?_
  exact h_iret F hQ dL_wind_20 (rfl) (rfl)

set_option maxHeartbeats 4000000 in
set_option maxRecDepth 100000 in
theorem w_L_weave (E : gE) (cL : ClassId) (x : Nat) (g : Nat) (ga : Nat) (p : Nat) (s : Nat) (sa : Nat) (kc : Nat) (qc : Nat) (qd : Nat) (qd1 : Nat) (qd2 : Nat) (qd3 : Nat) (qd4 : Nat) (qw : Nat) (qwa : Nat) (qca : Nat) (qcb : Nat) (qr : Nat) (qra : Nat) (qu : Nat) (f : AF) (th : AF) (qt : AF) (qso : AF) (qst : AF) (qsh : AF) (qfw : AF) (qfc : AF) (qfr : AF) (qfu : AF) (qbx : Int32) (qoff : Int32) (car : Int32) (tur : Int32) (pre : Int32) (cl : Int32) (m : Nat) (oa : Nat) (ol : Nat → Int64) (h2 : 2 ≤ m) (h6 : m ≤ 6) (h0 : ¬ sSuf (sMake f m car tur qso qst qsh qfw qfc qfu qfr).1.2.2.1 th = 0) : CtW E cL yL_weave wsL_weave ({ frames := 8, cells := 0, slots := 0, locals := 172 }) [.ref x, .ref oa] [(x, .inr (4, [.ref g, .ref p, .ref s, .ref kc, .ref qc, .int (nI m), .int car, .int tur, .int pre, .int cl])), (g, .inr (1, [.ref ga])), (ga, .inl (E.2.2, 96, .inl f)), (s, .inr (3, [.ref sa])), (sa, .inl (E.2.2, 6, .inl th)), (qc, .inr (0, [.ref qd, .ref qw, .ref qca, .ref qr, .ref qu, .int qoff])), (qd, .inr (2, [.ref qd1, .ref qd2, .ref qd3, .ref qd4, .int qbx])), (qd1, .inl (E.2.2, 256, .inl qt)), (qd2, .inl (E.2.2, 96, .inl qso)), (qd3, .inl (E.2.2, 6, .inl qst)), (qd4, .inl (E.2.2, 6, .inl qsh)), (qw, .inr (1, [.ref qwa])), (qwa, .inl (E.2.2, 96, .inl qfw)), (qca, .inr (1, [.ref qcb])), (qcb, .inl (E.2.2, 96, .inl qfc)), (qr, .inr (1, [.ref qra])), (qra, .inl (E.2.2, 96, .inl qfr)), (qu, .inl (E.2.2, 6, .inl qfu)), (oa, .inl (cL, 1, .inr (.inl ol)))] (some (.int 0)) [(x, .inr (4, [.ref g, .ref p, .ref s, .ref qc, .ref kc, .int (nI m), .int car, .int tur, .int pre, .int (cl + 1)])), (g, .inr (1, [.ref ga])), (ga, .inl (E.2.2, 96, .inl f)), (s, .inr (3, [.ref sa])), (sa, .inl (E.2.2, 6, .inl (sTake (sMake f m car tur qso qst qsh qfw qfc qfu qfr).1.2.2.1 th 6))), (qc, .inr (0, [.ref qd, .ref qw, .ref qca, .ref qr, .ref qu, .int ((sMake f m car tur qso qst qsh qfw qfc qfu qfr).1.2.2.2)])), (qd, .inr (2, [.ref qd1, .ref qd2, .ref qd3, .ref qd4, .int (nI (sFitF f qso qst m).2)])), (qd1, .inl (E.2.2, 256, .inl (sTally f qt))), (qd2, .inl (E.2.2, 96, .inl (sSorted f qso))), (qd3, .inl (E.2.2, 6, .inl ((sFitF f qso qst m).1))), (qd4, .inl (E.2.2, 6, .inl (sMnsF f qso qst qsh m))), (qw, .inr (1, [.ref qwa])), (qwa, .inl (E.2.2, 96, .inl ((sMake f m car tur qso qst qsh qfw qfc qfu qfr).1.1))), (qca, .inr (1, [.ref qcb])), (qcb, .inl (E.2.2, 96, .inl ((sMake f m car tur qso qst qsh qfw qfc qfu qfr).1.2.1))), (qr, .inr (1, [.ref qra])), (qra, .inl (E.2.2, 96, .inl ((sMake f m car tur qso qst qsh qfw qfc qfu qfr).2))), (qu, .inl (E.2.2, 6, .inl ((sMake f m car tur qso qst qsh qfw qfc qfu qfr).1.2.2.1))), (oa, .inl (cL, 1, .inr (.inl (vp_updL ol (0 : Int32).toNatClampNeg (sAK (sMake f m car tur qso qst qsh qfw qfc qfu qfr).1.1 (sMake f m car tur qso qst qsh qfw qfc qfu qfr).2 pre 8).toInt64))))] := by
  refine CtW.of (cc := cL_weave) (maxL := 3) (ret := (some .int)) (hh := [(0, 8, 11, 38)]) (own := RL) (L := [(0, .ref x), (1, .ref oa)]) (by decide) rfl rfl rfl (Nat.le_of_ble_eq_true rfl) rfl ?_
  intro X F Z hQ
  have i0 : ∀ w ∈ u_ws RX0 TX0 6, w ∈ wsL_weave := gsub [182, 183, 184, 185, 186, 187] rfl
  have i1 : ∀ w ∈ u_ws RX1 TX1 1, w ∈ wsL_weave := gsub [193] rfl
  have i2 : ∀ w ∈ u_ws RX2 TX2 5, w ∈ wsL_weave := gsub [188, 189, 190, 191, 192] rfl
  have i3 : ∀ w ∈ u_ws RX3 TX3 1, w ∈ wsL_weave := gsub [194] rfl
  have i4 : ∀ w ∈ u_ws RX4 TX4 10, w ∈ wsL_weave := gsub [172, 173, 174, 175, 176, 177, 178, 179, 180, 181] rfl
  refine h_aload_n F dL_weave_0 rfl 1 rfl ?_
  refine h_iconst (v := 0) F dL_weave_1 (by decide) ?_
  refine h_aload_n F dL_weave_2 rfl 0 rfl ?_
  refine h_callV (ws' := [(x, .inr (4, [.ref g, .ref p, .ref s, .ref qc, .ref kc, .int (nI m), .int car, .int tur, .int pre, .int (cl + 1)])), (g, .inr (1, [.ref ga])), (ga, .inl (E.2.2, 96, .inl f)), (s, .inr (3, [.ref sa])), (sa, .inl (E.2.2, 6, .inl (sTake (sMake f m car tur qso qst qsh qfw qfc qfu qfr).1.2.2.1 th 6))), (qc, .inr (0, [.ref qd, .ref qw, .ref qca, .ref qr, .ref qu, .int ((sMake f m car tur qso qst qsh qfw qfc qfu qfr).1.2.2.2)])), (qd, .inr (2, [.ref qd1, .ref qd2, .ref qd3, .ref qd4, .int (nI (sFitF f qso qst m).2)])), (qd1, .inl (E.2.2, 256, .inl (sTally f qt))), (qd2, .inl (E.2.2, 96, .inl (sSorted f qso))), (qd3, .inl (E.2.2, 6, .inl ((sFitF f qso qst m).1))), (qd4, .inl (E.2.2, 6, .inl (sMnsF f qso qst qsh m))), (qw, .inr (1, [.ref qwa])), (qwa, .inl (E.2.2, 96, .inl ((sMake f m car tur qso qst qsh qfw qfc qfu qfr).1.1))), (qca, .inr (1, [.ref qcb])), (qcb, .inl (E.2.2, 96, .inl ((sMake f m car tur qso qst qsh qfw qfc qfu qfr).1.2.1))), (qr, .inr (1, [.ref qra])), (qra, .inl (E.2.2, 96, .inl ((sMake f m car tur qso qst qsh qfw qfc qfu qfr).2))), (qu, .inl (E.2.2, 6, .inl ((sMake f m car tur qso qst qsh qfw qfc qfu qfr).1.2.2.1))), (oa, .inl (cL, 1, .inr (.inl ol)))]) F dL_weave_3 (c_X4_weave E x g ga p s sa kc qc qd qd1 qd2 qd3 qd4 qw qwa qca qcb qr qra qu f th qt qso qst qsh qfw qfc qfr qfu qbx qoff car tur pre cl m (h2) (h6) (h0)) rfl gL_weave_X4_weave 0 rfl rfl kV_X4_weave ⟨by decide, by decide⟩ [0, 1, 2, 3, 4, 5, 6, 7, 8, 9, 10, 11, 12, 13, 14, 15, 16, 17] rfl (by decide +kernel) rfl rfl (Nat.le_of_ble_eq_true rfl) ⟨by decide, by decide⟩ ?_
  refine h_i2l (v := (sAK (sMake f m car tur qso qst qsh qfw qfc qfu qfr).1.1 (sMake f m car tur qso qst qsh qfw qfc qfu qfr).2 pre 8).toInt64) F dL_weave_6 rfl ?_
  refine h_last (ws' := [(x, .inr (4, [.ref g, .ref p, .ref s, .ref qc, .ref kc, .int (nI m), .int car, .int tur, .int pre, .int (cl + 1)])), (g, .inr (1, [.ref ga])), (ga, .inl (E.2.2, 96, .inl f)), (s, .inr (3, [.ref sa])), (sa, .inl (E.2.2, 6, .inl (sTake (sMake f m car tur qso qst qsh qfw qfc qfu qfr).1.2.2.1 th 6))), (qc, .inr (0, [.ref qd, .ref qw, .ref qca, .ref qr, .ref qu, .int ((sMake f m car tur qso qst qsh qfw qfc qfu qfr).1.2.2.2)])), (qd, .inr (2, [.ref qd1, .ref qd2, .ref qd3, .ref qd4, .int (nI (sFitF f qso qst m).2)])), (qd1, .inl (E.2.2, 256, .inl (sTally f qt))), (qd2, .inl (E.2.2, 96, .inl (sSorted f qso))), (qd3, .inl (E.2.2, 6, .inl ((sFitF f qso qst m).1))), (qd4, .inl (E.2.2, 6, .inl (sMnsF f qso qst qsh m))), (qw, .inr (1, [.ref qwa])), (qwa, .inl (E.2.2, 96, .inl ((sMake f m car tur qso qst qsh qfw qfc qfu qfr).1.1))), (qca, .inr (1, [.ref qcb])), (qcb, .inl (E.2.2, 96, .inl ((sMake f m car tur qso qst qsh qfw qfc qfu qfr).1.2.1))), (qr, .inr (1, [.ref qra])), (qra, .inl (E.2.2, 96, .inl ((sMake f m car tur qso qst qsh qfw qfc qfu qfr).2))), (qu, .inl (E.2.2, 6, .inl ((sMake f m car tur qso qst qsh qfw qfc qfu qfr).1.2.2.1))), (oa, .inl (cL, 1, .inr (.inl (vp_updL ol (0 : Int32).toNatClampNeg ((sAK (sMake f m car tur qso qst qsh qfw qfc qfu qfr).1.1 (sMake f m car tur qso qst qsh qfw qfc qfu qfr).2 pre 8).toInt64)))))]) F Z dL_weave_7 18 rfl (by unfold vp_in; decide) rfl ?_
  refine h_goto (tgt := 14) F dL_weave_8 (by decide) ?_
  refine h_iconst (v := 0) F dL_weave_14 (by decide) ?_
  exact h_iret F hQ dL_weave_15 (rfl) (rfl)

set_option maxHeartbeats 4000000 in
set_option maxRecDepth 100000 in
theorem v_L_weave (E : gE) (cL : ClassId) (x : Nat) (g : Nat) (ga : Nat) (p : Nat) (s : Nat) (sa : Nat) (kc : Nat) (qc : Nat) (qd : Nat) (qd1 : Nat) (qd2 : Nat) (qd3 : Nat) (qd4 : Nat) (qw : Nat) (qwa : Nat) (qca : Nat) (qcb : Nat) (qr : Nat) (qra : Nat) (qu : Nat) (f : AF) (th : AF) (qt : AF) (qso : AF) (qst : AF) (qsh : AF) (qfw : AF) (qfc : AF) (qfr : AF) (qfu : AF) (qbx : Int32) (qoff : Int32) (car : Int32) (tur : Int32) (pre : Int32) (cl : Int32) (m : Nat) (oa : Nat) (ol : Nat → Int64) (h2 : 2 ≤ m) (h6 : m ≤ 6) (h0 : sSuf (sMake f m car tur qso qst qsh qfw qfc qfu qfr).1.2.2.1 th = 0) : CtW E cL yL_weave wsL_weave ({ frames := 8, cells := 1, slots := 6, locals := 172 }) [.ref x, .ref oa] [(x, .inr (4, [.ref g, .ref p, .ref s, .ref kc, .ref qc, .int (nI m), .int car, .int tur, .int pre, .int cl])), (g, .inr (1, [.ref ga])), (ga, .inl (E.2.2, 96, .inl f)), (s, .inr (3, [.ref sa])), (sa, .inl (E.2.2, 6, .inl th)), (qc, .inr (0, [.ref qd, .ref qw, .ref qca, .ref qr, .ref qu, .int qoff])), (qd, .inr (2, [.ref qd1, .ref qd2, .ref qd3, .ref qd4, .int qbx])), (qd1, .inl (E.2.2, 256, .inl qt)), (qd2, .inl (E.2.2, 96, .inl qso)), (qd3, .inl (E.2.2, 6, .inl qst)), (qd4, .inl (E.2.2, 6, .inl qsh)), (qw, .inr (1, [.ref qwa])), (qwa, .inl (E.2.2, 96, .inl qfw)), (qca, .inr (1, [.ref qcb])), (qcb, .inl (E.2.2, 96, .inl qfc)), (qr, .inr (1, [.ref qra])), (qra, .inl (E.2.2, 96, .inl qfr)), (qu, .inl (E.2.2, 6, .inl qfu)), (oa, .inl (cL, 1, .inr (.inl ol)))] (some (.int 1)) [(x, .inr (4, [.ref g, .ref p, .ref s, .ref kc, .ref qc, .int (nI m), .int car, .int tur, .int pre, .int cl])), (g, .inr (1, [.ref ga])), (ga, .inl (E.2.2, 96, .inl f)), (s, .inr (3, [.ref sa])), (sa, .inl (E.2.2, 6, .inl th)), (qc, .inr (0, [.ref qd, .ref qw, .ref qca, .ref qr, .ref qu, .int ((sMake f m car tur qso qst qsh qfw qfc qfu qfr).1.2.2.2)])), (qd, .inr (2, [.ref qd1, .ref qd2, .ref qd3, .ref qd4, .int (nI (sFitF f qso qst m).2)])), (qd1, .inl (E.2.2, 256, .inl (sTally f qt))), (qd2, .inl (E.2.2, 96, .inl (sSorted f qso))), (qd3, .inl (E.2.2, 6, .inl ((sFitF f qso qst m).1))), (qd4, .inl (E.2.2, 6, .inl (sMnsF f qso qst qsh m))), (qw, .inr (1, [.ref qwa])), (qwa, .inl (E.2.2, 96, .inl ((sMake f m car tur qso qst qsh qfw qfc qfu qfr).1.1))), (qca, .inr (1, [.ref qcb])), (qcb, .inl (E.2.2, 96, .inl ((sMake f m car tur qso qst qsh qfw qfc qfu qfr).1.2.1))), (qr, .inr (1, [.ref qra])), (qra, .inl (E.2.2, 96, .inl ((sMake f m car tur qso qst qsh qfw qfc qfu qfr).2))), (qu, .inl (E.2.2, 6, .inl ((sMake f m car tur qso qst qsh qfw qfc qfu qfr).1.2.2.1))), (oa, .inl (cL, 1, .inr (.inl ol)))] := by
  refine CtW.of (cc := cL_weave) (maxL := 3) (ret := (some .int)) (hh := [(0, 8, 11, 38)]) (own := RL) (L := [(0, .ref x), (1, .ref oa)]) (by decide) rfl rfl rfl (Nat.le_of_ble_eq_true rfl) rfl ?_
  intro X F Z hQ
  have i0 : ∀ w ∈ u_ws RX0 TX0 6, w ∈ wsL_weave := gsub [182, 183, 184, 185, 186, 187] rfl
  have i1 : ∀ w ∈ u_ws RX1 TX1 1, w ∈ wsL_weave := gsub [193] rfl
  have i2 : ∀ w ∈ u_ws RX2 TX2 5, w ∈ wsL_weave := gsub [188, 189, 190, 191, 192] rfl
  have i3 : ∀ w ∈ u_ws RX3 TX3 1, w ∈ wsL_weave := gsub [194] rfl
  have i4 : ∀ w ∈ u_ws RX4 TX4 10, w ∈ wsL_weave := gsub [172, 173, 174, 175, 176, 177, 178, 179, 180, 181] rfl
  refine h_aload_n F dL_weave_0 rfl 1 rfl ?_
  refine h_iconst (v := 0) F dL_weave_1 (by decide) ?_
  refine h_aload_n F dL_weave_2 rfl 0 rfl ?_
  refine h_xcatch (ws' := [(x, .inr (4, [.ref g, .ref p, .ref s, .ref kc, .ref qc, .int (nI m), .int car, .int tur, .int pre, .int cl])), (g, .inr (1, [.ref ga])), (ga, .inl (E.2.2, 96, .inl f)), (s, .inr (3, [.ref sa])), (sa, .inl (E.2.2, 6, .inl th)), (qc, .inr (0, [.ref qd, .ref qw, .ref qca, .ref qr, .ref qu, .int ((sMake f m car tur qso qst qsh qfw qfc qfu qfr).1.2.2.2)])), (qd, .inr (2, [.ref qd1, .ref qd2, .ref qd3, .ref qd4, .int (nI (sFitF f qso qst m).2)])), (qd1, .inl (E.2.2, 256, .inl (sTally f qt))), (qd2, .inl (E.2.2, 96, .inl (sSorted f qso))), (qd3, .inl (E.2.2, 6, .inl ((sFitF f qso qst m).1))), (qd4, .inl (E.2.2, 6, .inl (sMnsF f qso qst qsh m))), (qw, .inr (1, [.ref qwa])), (qwa, .inl (E.2.2, 96, .inl ((sMake f m car tur qso qst qsh qfw qfc qfu qfr).1.1))), (qca, .inr (1, [.ref qcb])), (qcb, .inl (E.2.2, 96, .inl ((sMake f m car tur qso qst qsh qfw qfc qfu qfr).1.2.1))), (qr, .inr (1, [.ref qra])), (qra, .inl (E.2.2, 96, .inl ((sMake f m car tur qso qst qsh qfw qfc qfu qfr).2))), (qu, .inl (E.2.2, 6, .inl ((sMake f m car tur qso qst qsh qfw qfc qfu qfr).1.2.2.1))), (oa, .inl (cL, 1, .inr (.inl ol)))]) F Z dL_weave_3 (x_X4_weave E x g ga p s sa kc qc qd qd1 qd2 qd3 qd4 qw qwa qca qcb qr qra qu f th qt qso qst qsh qfw qfc qfr qfu qbx qoff car tur pre cl m (h2) (h6) (h0)) rfl gL_weave_X4_weave 0 rfl rfl kV_X4_weave rfl ⟨by decide, by decide⟩ [0, 1, 2, 3, 4, 5, 6, 7, 8, 9, 10, 11, 12, 13, 14, 15, 16, 17] rfl (by decide +kernel) rfl (Nat.le_of_ble_eq_true rfl) ⟨by decide, by decide⟩ [] [] (0, 8, 11, 38) rfl (fun z hz => nomatch hz) (by decide) (by decide) (List.mem_of_getElem? (i := 1) rfl) (List.mem_of_getElem? (i := 2) rfl) (fun q3 => ?_)
  refine h_astore_n (L' := [(0, .ref x), (1, .ref oa), (2, .ref q3)]) F dL_weave_11 rfl (by decide) [1, 2, 0] rfl ?_
  refine h_iconst (v := 1) F dL_weave_12 (by decide) ?_
  refine g_cs (cells' := 1) (slots' := 6) (by show 0 + 1 ≤ 1; omega) (by show 0 + 6 ≤ 6; omega) ?_
  exact h_iret F hQ dL_weave_13 (rfl) (rfl)

set_option maxHeartbeats 4000000 in
set_option maxRecDepth 100000 in
theorem w_L_shade (E : gE) (cL : ClassId) (x : Nat) (g : Nat) (ga : Nat) (p : Nat) (s : Nat) (kc : Nat) (qc : Nat) (f : AF) (col : Int32) (car : Int32) (tur : Int32) (pre : Int32) (cl : Int32) (a : Int32) (b : Int32) (oa : Nat) (ol : Nat → Int64) (h0 : ¬ sCell a b = 0) : CtW E cL yL_shade wsL_shade ({ frames := 8, cells := 0, slots := 0, locals := 133 }) [.ref x, .int a, .int b, .ref oa] [(x, .inr (4, [.ref g, .ref p, .ref s, .ref kc, .ref qc, .int col, .int car, .int tur, .int pre, .int cl])), (g, .inr (1, [.ref ga])), (ga, .inl (E.2.2, 96, .inl f)), (oa, .inl (cL, 1, .inr (.inl ol)))] (some (.int 0)) [(x, .inr (4, [.ref g, .ref p, .ref s, .ref kc, .ref qc, .int col, .int car, .int tur, .int pre, .int cl])), (g, .inr (1, [.ref ga])), (ga, .inl (E.2.2, 96, .inl f)), (oa, .inl (cL, 1, .inr (.inl (vp_updL ol (0 : Int32).toNatClampNeg (sGAt f a b).toInt64))))] := by
  refine CtW.of (cc := cL_shade) (maxL := 5) (ret := (some .int)) (hh := [(0, 10, 13, 13)]) (own := RL) (L := [(0, .ref x), (1, .int a), (2, .int b), (3, .ref oa)]) (by decide) rfl rfl rfl (Nat.le_of_ble_eq_true rfl) rfl ?_
  intro X F Z hQ
  have i1 : ∀ w ∈ u_ws RX1 TX1 1, w ∈ wsL_shade := gsub [34] rfl
  have i4 : ∀ w ∈ u_ws RX4 TX4 10, w ∈ wsL_shade := gsub [24, 25, 26, 27, 28, 29, 30, 31, 32, 33] rfl
  refine h_aload_n F dL_shade_0 rfl 3 rfl ?_
  refine h_iconst (v := 0) F dL_shade_1 (by decide) ?_
  refine h_aload_n F dL_shade_2 rfl 0 rfl ?_
  refine h_iload_n F dL_shade_3 rfl 1 rfl ?_
  refine h_iload_n F dL_shade_4 rfl 2 rfl ?_
  refine h_callV (ws' := [(x, .inr (4, [.ref g, .ref p, .ref s, .ref kc, .ref qc, .int col, .int car, .int tur, .int pre, .int cl])), (g, .inr (1, [.ref ga])), (ga, .inl (E.2.2, 96, .inl f)), (oa, .inl (cL, 1, .inr (.inl ol)))]) F dL_shade_5 (c_X4_shade E x g ga p s kc qc f col car tur pre cl a b (h0)) rfl gL_shade_X4_shade 0 rfl rfl kV_X4_shade ⟨by decide, by decide⟩ [0, 1, 2] rfl (by decide +kernel) rfl rfl (Nat.le_of_ble_eq_true rfl) ⟨by decide, by decide⟩ ?_
  refine h_i2l (v := (sGAt f a b).toInt64) F dL_shade_8 rfl ?_
  refine h_last (ws' := [(x, .inr (4, [.ref g, .ref p, .ref s, .ref kc, .ref qc, .int col, .int car, .int tur, .int pre, .int cl])), (g, .inr (1, [.ref ga])), (ga, .inl (E.2.2, 96, .inl f)), (oa, .inl (cL, 1, .inr (.inl (vp_updL ol (0 : Int32).toNatClampNeg ((sGAt f a b).toInt64)))))]) F Z dL_shade_9 3 rfl (by unfold vp_in; decide) rfl ?_
  refine h_goto (tgt := 17) F dL_shade_10 (by decide) ?_
  refine h_iconst (v := 0) F dL_shade_17 (by decide) ?_
  exact h_iret F hQ dL_shade_18 (rfl) (rfl)

set_option maxHeartbeats 4000000 in
set_option maxRecDepth 100000 in
theorem v_L_shade (E : gE) (cL : ClassId) (x : Nat) (g : Nat) (p : Nat) (s : Nat) (kc : Nat) (qc : Nat) (col : Int32) (car : Int32) (tur : Int32) (pre : Int32) (cl : Int32) (a : Int32) (b : Int32) (oa : Nat) (ol : Nat → Int64) (h0 : sCell a b = 0) : CtW E cL yL_shade wsL_shade ({ frames := 8, cells := 1, slots := 6, locals := 133 }) [.ref x, .int a, .int b, .ref oa] [(x, .inr (4, [.ref g, .ref p, .ref s, .ref kc, .ref qc, .int col, .int car, .int tur, .int pre, .int cl])), (oa, .inl (cL, 1, .inr (.inl ol)))] (some (.int 1)) [(x, .inr (4, [.ref g, .ref p, .ref s, .ref kc, .ref qc, .int col, .int car, .int tur, .int pre, .int cl])), (oa, .inl (cL, 1, .inr (.inl ol)))] := by
  refine CtW.of (cc := cL_shade) (maxL := 5) (ret := (some .int)) (hh := [(0, 10, 13, 13)]) (own := RL) (L := [(0, .ref x), (1, .int a), (2, .int b), (3, .ref oa)]) (by decide) rfl rfl rfl (Nat.le_of_ble_eq_true rfl) rfl ?_
  intro X F Z hQ
  have i1 : ∀ w ∈ u_ws RX1 TX1 1, w ∈ wsL_shade := gsub [34] rfl
  have i4 : ∀ w ∈ u_ws RX4 TX4 10, w ∈ wsL_shade := gsub [24, 25, 26, 27, 28, 29, 30, 31, 32, 33] rfl
  refine h_aload_n F dL_shade_0 rfl 3 rfl ?_
  refine h_iconst (v := 0) F dL_shade_1 (by decide) ?_
  refine h_aload_n F dL_shade_2 rfl 0 rfl ?_
  refine h_iload_n F dL_shade_3 rfl 1 rfl ?_
  refine h_iload_n F dL_shade_4 rfl 2 rfl ?_
  refine h_xcatch (ws' := [(x, .inr (4, [.ref g, .ref p, .ref s, .ref kc, .ref qc, .int col, .int car, .int tur, .int pre, .int cl])), (oa, .inl (cL, 1, .inr (.inl ol)))]) F Z dL_shade_5 (x_X4_shade E x g p s kc qc col car tur pre cl a b (h0)) rfl gL_shade_X4_shade 0 rfl rfl kV_X4_shade rfl ⟨by decide, by decide⟩ [0] rfl (by decide +kernel) rfl (Nat.le_of_ble_eq_true rfl) ⟨by decide, by decide⟩ [] [] (0, 10, 13, 13) rfl (fun z hz => nomatch hz) (by decide) (by decide) (List.mem_of_getElem? (i := 1) rfl) (List.mem_of_getElem? (i := 0) rfl) (fun q5 => ?_)
  refine h_astore (L' := [(0, .ref x), (1, .int a), (2, .int b), (3, .ref oa), (4, .ref q5)]) F dL_shade_13 (by decide) [1, 2, 3, 4, 0] rfl ?_
  refine h_iconst (v := 1) F dL_shade_15 (by decide) ?_
  refine g_cs (cells' := 1) (slots' := 6) (by show 0 + 1 ≤ 1; omega) (by show 0 + 6 ≤ 6; omega) ?_
  exact h_iret F hQ dL_shade_16 (rfl) (rfl)

set_option maxHeartbeats 4000000 in
set_option maxRecDepth 100000 in
theorem w_L_palette (E : gE) (cL : ClassId) (x : Nat) (g : Nat) (ga : Nat) (p : Nat) (p1 : Nat) (p2 : Nat) (p3 : Nat) (p4 : Nat) (s : Nat) (kc : Nat) (qc : Nat) (f : AF) (pt : AF) (pso : AF) (pst : AF) (psh : AF) (pbx : Int32) (car : Int32) (tur : Int32) (pre : Int32) (cl : Int32) (c : Int32) (m : Nat) (oa : Nat) (ol : Nat → Int64) (h0 : ¬ c < 0) (h1 : c ≤ 5) (h2 : 2 ≤ m) (h6 : m ≤ 6) : CtW E cL yL_palette wsL_palette ({ frames := 9, cells := 0, slots := 0, locals := 152 }) [.ref x, .int c, .ref oa] [(x, .inr (4, [.ref g, .ref p, .ref s, .ref kc, .ref qc, .int (nI m), .int car, .int tur, .int pre, .int cl])), (g, .inr (1, [.ref ga])), (ga, .inl (E.2.2, 96, .inl f)), (p, .inr (2, [.ref p1, .ref p2, .ref p3, .ref p4, .int pbx])), (p1, .inl (E.2.2, 256, .inl pt)), (p2, .inl (E.2.2, 96, .inl pso)), (p3, .inl (E.2.2, 6, .inl pst)), (p4, .inl (E.2.2, 6, .inl psh)), (oa, .inl (cL, 1, .inr (.inl ol)))] (some (.int 0)) [(x, .inr (4, [.ref g, .ref p, .ref s, .ref kc, .ref qc, .int (nI m), .int car, .int tur, .int pre, .int cl])), (g, .inr (1, [.ref ga])), (ga, .inl (E.2.2, 96, .inl f)), (p, .inr (2, [.ref p1, .ref p2, .ref p3, .ref p4, .int (nI (sFitF f pso pst m).2)])), (p1, .inl (E.2.2, 256, .inl (sTally f pt))), (p2, .inl (E.2.2, 96, .inl (sSorted f pso))), (p3, .inl (E.2.2, 6, .inl ((sFitF f pso pst m).1))), (p4, .inl (E.2.2, 6, .inl (sMnsF f pso pst psh m))), (oa, .inl (cL, 1, .inr (.inl (vp_updL ol (0 : Int32).toNatClampNeg (sShade (sMnsF f pso pst psh m) (nI (sFitF f pso pst m).2) c).toInt64))))] := by
  refine CtW.of (cc := cL_palette) (maxL := 4) (ret := (some .int)) (hh := [(0, 9, 12, 13)]) (own := RL) (L := [(0, .ref x), (1, .int c), (2, .ref oa)]) (by decide) rfl rfl rfl (Nat.le_of_ble_eq_true rfl) rfl ?_
  intro X F Z hQ
  have i1 : ∀ w ∈ u_ws RX1 TX1 1, w ∈ wsL_palette := gsub [93] rfl
  have i2 : ∀ w ∈ u_ws RX2 TX2 5, w ∈ wsL_palette := gsub [88, 89, 90, 91, 92] rfl
  have i4 : ∀ w ∈ u_ws RX4 TX4 10, w ∈ wsL_palette := gsub [78, 79, 80, 81, 82, 83, 84, 85, 86, 87] rfl
  refine h_aload_n F dL_palette_0 rfl 2 rfl ?_
  refine h_iconst (v := 0) F dL_palette_1 (by decide) ?_
  refine h_aload_n F dL_palette_2 rfl 0 rfl ?_
  refine h_iload_n F dL_palette_3 rfl 1 rfl ?_
  refine h_callV (ws' := [(x, .inr (4, [.ref g, .ref p, .ref s, .ref kc, .ref qc, .int (nI m), .int car, .int tur, .int pre, .int cl])), (g, .inr (1, [.ref ga])), (ga, .inl (E.2.2, 96, .inl f)), (p, .inr (2, [.ref p1, .ref p2, .ref p3, .ref p4, .int (nI (sFitF f pso pst m).2)])), (p1, .inl (E.2.2, 256, .inl (sTally f pt))), (p2, .inl (E.2.2, 96, .inl (sSorted f pso))), (p3, .inl (E.2.2, 6, .inl ((sFitF f pso pst m).1))), (p4, .inl (E.2.2, 6, .inl (sMnsF f pso pst psh m))), (oa, .inl (cL, 1, .inr (.inl ol)))]) F dL_palette_4 (c_X4_palette E x g ga p p1 p2 p3 p4 s kc qc f pt pso pst psh pbx car tur pre cl c m (h0) (h1) (h2) (h6)) rfl gL_palette_X4_palette 0 rfl rfl kV_X4_palette ⟨by decide, by decide⟩ [0, 1, 2, 3, 4, 5, 6, 7] rfl (by decide +kernel) rfl rfl (Nat.le_of_ble_eq_true rfl) ⟨by decide, by decide⟩ ?_
  refine h_i2l (v := (sShade (sMnsF f pso pst psh m) (nI (sFitF f pso pst m).2) c).toInt64) F dL_palette_7 rfl ?_
  refine h_last (ws' := [(x, .inr (4, [.ref g, .ref p, .ref s, .ref kc, .ref qc, .int (nI m), .int car, .int tur, .int pre, .int cl])), (g, .inr (1, [.ref ga])), (ga, .inl (E.2.2, 96, .inl f)), (p, .inr (2, [.ref p1, .ref p2, .ref p3, .ref p4, .int (nI (sFitF f pso pst m).2)])), (p1, .inl (E.2.2, 256, .inl (sTally f pt))), (p2, .inl (E.2.2, 96, .inl (sSorted f pso))), (p3, .inl (E.2.2, 6, .inl ((sFitF f pso pst m).1))), (p4, .inl (E.2.2, 6, .inl (sMnsF f pso pst psh m))), (oa, .inl (cL, 1, .inr (.inl (vp_updL ol (0 : Int32).toNatClampNeg ((sShade (sMnsF f pso pst psh m) (nI (sFitF f pso pst m).2) c).toInt64)))))]) F Z dL_palette_8 8 rfl (by unfold vp_in; decide) rfl ?_
  refine h_goto (tgt := 15) F dL_palette_9 (by decide) ?_
  refine h_iconst (v := 0) F dL_palette_15 (by decide) ?_
  exact h_iret F hQ dL_palette_16 (rfl) (rfl)

set_option maxHeartbeats 4000000 in
set_option maxRecDepth 100000 in
theorem v_L_palette (E : gE) (cL : ClassId) (x : Nat) (g : Nat) (p : Nat) (s : Nat) (kc : Nat) (qc : Nat) (col : Int32) (car : Int32) (tur : Int32) (pre : Int32) (cl : Int32) (c : Int32) (oa : Nat) (ol : Nat → Int64) (h0 : ¬ (¬ c < 0 ∧ c ≤ 5)) : CtW E cL yL_palette wsL_palette ({ frames := 9, cells := 1, slots := 6, locals := 152 }) [.ref x, .int c, .ref oa] [(x, .inr (4, [.ref g, .ref p, .ref s, .ref kc, .ref qc, .int col, .int car, .int tur, .int pre, .int cl])), (oa, .inl (cL, 1, .inr (.inl ol)))] (some (.int 1)) [(x, .inr (4, [.ref g, .ref p, .ref s, .ref kc, .ref qc, .int col, .int car, .int tur, .int pre, .int cl])), (oa, .inl (cL, 1, .inr (.inl ol)))] := by
  refine CtW.of (cc := cL_palette) (maxL := 4) (ret := (some .int)) (hh := [(0, 9, 12, 13)]) (own := RL) (L := [(0, .ref x), (1, .int c), (2, .ref oa)]) (by decide) rfl rfl rfl (Nat.le_of_ble_eq_true rfl) rfl ?_
  intro X F Z hQ
  have i1 : ∀ w ∈ u_ws RX1 TX1 1, w ∈ wsL_palette := gsub [93] rfl
  have i2 : ∀ w ∈ u_ws RX2 TX2 5, w ∈ wsL_palette := gsub [88, 89, 90, 91, 92] rfl
  have i4 : ∀ w ∈ u_ws RX4 TX4 10, w ∈ wsL_palette := gsub [78, 79, 80, 81, 82, 83, 84, 85, 86, 87] rfl
  refine h_aload_n F dL_palette_0 rfl 2 rfl ?_
  refine h_iconst (v := 0) F dL_palette_1 (by decide) ?_
  refine h_aload_n F dL_palette_2 rfl 0 rfl ?_
  refine h_iload_n F dL_palette_3 rfl 1 rfl ?_
  refine h_xcatch (ws' := [(x, .inr (4, [.ref g, .ref p, .ref s, .ref kc, .ref qc, .int col, .int car, .int tur, .int pre, .int cl])), (oa, .inl (cL, 1, .inr (.inl ol)))]) F Z dL_palette_4 (x_X4_palette E x g p s kc qc col car tur pre cl c (h0)) rfl gL_palette_X4_palette 0 rfl rfl kV_X4_palette rfl ⟨by decide, by decide⟩ [0] rfl (by decide +kernel) rfl (Nat.le_of_ble_eq_true rfl) ⟨by decide, by decide⟩ [] [] (0, 9, 12, 13) rfl (fun z hz => nomatch hz) (by decide) (by decide) (List.mem_of_getElem? (i := 1) rfl) (List.mem_of_getElem? (i := 0) rfl) (fun q4 => ?_)
  refine h_astore_n (L' := [(0, .ref x), (1, .int c), (2, .ref oa), (3, .ref q4)]) F dL_palette_12 rfl (by decide) [1, 2, 3, 0] rfl ?_
  refine h_iconst (v := 1) F dL_palette_13 (by decide) ?_
  refine g_cs (cells' := 1) (slots' := 6) (by show 0 + 1 ≤ 1; omega) (by show 0 + 6 ≤ 6; omega) ?_
  exact h_iret F hQ dL_palette_14 (rfl) (rfl)

set_option maxHeartbeats 4000000 in
set_option maxRecDepth 100000 in
theorem w_L_cell (E : gE) (cL : ClassId) (x : Nat) (g : Nat) (p : Nat) (s : Nat) (kc : Nat) (kd : Nat) (kd1 : Nat) (kd2 : Nat) (kd3 : Nat) (kd4 : Nat) (kw : Nat) (kwa : Nat) (kca : Nat) (kcb : Nat) (kr : Nat) (kra : Nat) (ku : Nat) (qc : Nat) (kt : AF) (kso : AF) (kst : AF) (ksh : AF) (kfw : AF) (kfc : AF) (kfr : AF) (kfu : AF) (koff : Int32) (col : Int32) (car : Int32) (tur : Int32) (pre : Int32) (cl : Int32) (kb : Nat) (a : Int32) (b : Int32) (oa : Nat) (ol : Nat → Int64) (h0 : ¬ sCell a b = 0) (h1 : ¬ sHas cl = 0) : CtW E cL yL_cell wsL_cell ({ frames := 8, cells := 0, slots := 0, locals := 133 }) [.ref x, .int a, .int b, .ref oa] [(x, .inr (4, [.ref g, .ref p, .ref s, .ref kc, .ref qc, .int col, .int car, .int tur, .int pre, .int cl])), (kc, .inr (0, [.ref kd, .ref kw, .ref kca, .ref kr, .ref ku, .int koff])), (kd, .inr (2, [.ref kd1, .ref kd2, .ref kd3, .ref kd4, .int (nI kb)])), (kd1, .inl (E.2.2, 256, .inl kt)), (kd2, .inl (E.2.2, 96, .inl kso)), (kd3, .inl (E.2.2, 6, .inl kst)), (kd4, .inl (E.2.2, 6, .inl ksh)), (kw, .inr (1, [.ref kwa])), (kwa, .inl (E.2.2, 96, .inl kfw)), (kca, .inr (1, [.ref kcb])), (kcb, .inl (E.2.2, 96, .inl kfc)), (kr, .inr (1, [.ref kra])), (kra, .inl (E.2.2, 96, .inl kfr)), (ku, .inl (E.2.2, 6, .inl kfu)), (oa, .inl (cL, 1, .inr (.inl ol)))] (some (.int 0)) [(x, .inr (4, [.ref g, .ref p, .ref s, .ref kc, .ref qc, .int col, .int car, .int tur, .int pre, .int cl])), (kc, .inr (0, [.ref kd, .ref kw, .ref kca, .ref kr, .ref ku, .int koff])), (kd, .inr (2, [.ref kd1, .ref kd2, .ref kd3, .ref kd4, .int (nI kb)])), (kd1, .inl (E.2.2, 256, .inl kt)), (kd2, .inl (E.2.2, 96, .inl kso)), (kd3, .inl (E.2.2, 6, .inl kst)), (kd4, .inl (E.2.2, 6, .inl ksh)), (kw, .inr (1, [.ref kwa])), (kwa, .inl (E.2.2, 96, .inl kfw)), (kca, .inr (1, [.ref kcb])), (kcb, .inl (E.2.2, 96, .inl kfc)), (kr, .inr (1, [.ref kra])), (kra, .inl (E.2.2, 96, .inl kfr)), (ku, .inl (E.2.2, 6, .inl kfu)), (oa, .inl (cL, 1, .inr (.inl (vp_updL ol (0 : Int32).toNatClampNeg (sGAt kfw a b).toInt64))))] := by
  refine CtW.of (cc := cL_cell) (maxL := 5) (ret := (some .int)) (hh := [(0, 10, 13, 13), (0, 10, 17, 38)]) (own := RL) (L := [(0, .ref x), (1, .int a), (2, .int b), (3, .ref oa)]) (by decide) rfl rfl rfl (Nat.le_of_ble_eq_true rfl) rfl ?_
  intro X F Z hQ
  have i0 : ∀ w ∈ u_ws RX0 TX0 6, w ∈ wsL_cell := gsub [52, 53, 54, 55, 56, 57] rfl
  have i1 : ∀ w ∈ u_ws RX1 TX1 1, w ∈ wsL_cell := gsub [58] rfl
  have i4 : ∀ w ∈ u_ws RX4 TX4 10, w ∈ wsL_cell := gsub [42, 43, 44, 45, 46, 47, 48, 49, 50, 51] rfl
  refine h_aload_n F dL_cell_0 rfl 3 rfl ?_
  refine h_iconst (v := 0) F dL_cell_1 (by decide) ?_
  refine h_aload_n F dL_cell_2 rfl 0 rfl ?_
  refine h_iload_n F dL_cell_3 rfl 1 rfl ?_
  refine h_iload_n F dL_cell_4 rfl 2 rfl ?_
  refine h_callV (ws' := [(x, .inr (4, [.ref g, .ref p, .ref s, .ref kc, .ref qc, .int col, .int car, .int tur, .int pre, .int cl])), (kc, .inr (0, [.ref kd, .ref kw, .ref kca, .ref kr, .ref ku, .int koff])), (kd, .inr (2, [.ref kd1, .ref kd2, .ref kd3, .ref kd4, .int (nI kb)])), (kd1, .inl (E.2.2, 256, .inl kt)), (kd2, .inl (E.2.2, 96, .inl kso)), (kd3, .inl (E.2.2, 6, .inl kst)), (kd4, .inl (E.2.2, 6, .inl ksh)), (kw, .inr (1, [.ref kwa])), (kwa, .inl (E.2.2, 96, .inl kfw)), (kca, .inr (1, [.ref kcb])), (kcb, .inl (E.2.2, 96, .inl kfc)), (kr, .inr (1, [.ref kra])), (kra, .inl (E.2.2, 96, .inl kfr)), (ku, .inl (E.2.2, 6, .inl kfu)), (oa, .inl (cL, 1, .inr (.inl ol)))]) F dL_cell_5 (c_X4_cell E x g p s kc kd kd1 kd2 kd3 kd4 kw kwa kca kcb kr kra ku qc kt kso kst ksh kfw kfc kfr kfu koff col car tur pre cl kb a b (h0) (h1)) rfl gL_cell_X4_cell 0 rfl rfl kV_X4_cell ⟨by decide, by decide⟩ [0, 1, 2, 3, 4, 5, 6, 7, 8, 9, 10, 11, 12, 13] rfl (by decide +kernel) rfl rfl (Nat.le_of_ble_eq_true rfl) ⟨by decide, by decide⟩ ?_
  refine h_i2l (v := (sGAt kfw a b).toInt64) F dL_cell_8 rfl ?_
  refine h_last (ws' := [(x, .inr (4, [.ref g, .ref p, .ref s, .ref kc, .ref qc, .int col, .int car, .int tur, .int pre, .int cl])), (kc, .inr (0, [.ref kd, .ref kw, .ref kca, .ref kr, .ref ku, .int koff])), (kd, .inr (2, [.ref kd1, .ref kd2, .ref kd3, .ref kd4, .int (nI kb)])), (kd1, .inl (E.2.2, 256, .inl kt)), (kd2, .inl (E.2.2, 96, .inl kso)), (kd3, .inl (E.2.2, 6, .inl kst)), (kd4, .inl (E.2.2, 6, .inl ksh)), (kw, .inr (1, [.ref kwa])), (kwa, .inl (E.2.2, 96, .inl kfw)), (kca, .inr (1, [.ref kcb])), (kcb, .inl (E.2.2, 96, .inl kfc)), (kr, .inr (1, [.ref kra])), (kra, .inl (E.2.2, 96, .inl kfr)), (ku, .inl (E.2.2, 6, .inl kfu)), (oa, .inl (cL, 1, .inr (.inl (vp_updL ol (0 : Int32).toNatClampNeg ((sGAt kfw a b).toInt64)))))]) F Z dL_cell_9 14 rfl (by unfold vp_in; decide) rfl ?_
  refine h_goto (tgt := 21) F dL_cell_10 (by decide) ?_
  refine h_iconst (v := 0) F dL_cell_21 (by decide) ?_
  exact h_iret F hQ dL_cell_22 (rfl) (rfl)

set_option maxHeartbeats 4000000 in
set_option maxRecDepth 100000 in
theorem v_L_cell_1 (E : gE) (cL : ClassId) (x : Nat) (g : Nat) (p : Nat) (s : Nat) (kc : Nat) (qc : Nat) (col : Int32) (car : Int32) (tur : Int32) (pre : Int32) (cl : Int32) (a : Int32) (b : Int32) (oa : Nat) (ol : Nat → Int64) (h0 : sCell a b = 0) : CtW E cL yL_cell wsL_cell ({ frames := 8, cells := 1, slots := 6, locals := 133 }) [.ref x, .int a, .int b, .ref oa] [(x, .inr (4, [.ref g, .ref p, .ref s, .ref kc, .ref qc, .int col, .int car, .int tur, .int pre, .int cl])), (oa, .inl (cL, 1, .inr (.inl ol)))] (some (.int 1)) [(x, .inr (4, [.ref g, .ref p, .ref s, .ref kc, .ref qc, .int col, .int car, .int tur, .int pre, .int cl])), (oa, .inl (cL, 1, .inr (.inl ol)))] := by
  refine CtW.of (cc := cL_cell) (maxL := 5) (ret := (some .int)) (hh := [(0, 10, 13, 13), (0, 10, 17, 38)]) (own := RL) (L := [(0, .ref x), (1, .int a), (2, .int b), (3, .ref oa)]) (by decide) rfl rfl rfl (Nat.le_of_ble_eq_true rfl) rfl ?_
  intro X F Z hQ
  have i0 : ∀ w ∈ u_ws RX0 TX0 6, w ∈ wsL_cell := gsub [52, 53, 54, 55, 56, 57] rfl
  have i1 : ∀ w ∈ u_ws RX1 TX1 1, w ∈ wsL_cell := gsub [58] rfl
  have i4 : ∀ w ∈ u_ws RX4 TX4 10, w ∈ wsL_cell := gsub [42, 43, 44, 45, 46, 47, 48, 49, 50, 51] rfl
  refine h_aload_n F dL_cell_0 rfl 3 rfl ?_
  refine h_iconst (v := 0) F dL_cell_1 (by decide) ?_
  refine h_aload_n F dL_cell_2 rfl 0 rfl ?_
  refine h_iload_n F dL_cell_3 rfl 1 rfl ?_
  refine h_iload_n F dL_cell_4 rfl 2 rfl ?_
  refine h_xcatch (ws' := [(x, .inr (4, [.ref g, .ref p, .ref s, .ref kc, .ref qc, .int col, .int car, .int tur, .int pre, .int cl])), (oa, .inl (cL, 1, .inr (.inl ol)))]) F Z dL_cell_5 (x_X4_cell_1 E x g p s kc qc col car tur pre cl a b (h0)) rfl gL_cell_X4_cell 0 rfl rfl kV_X4_cell rfl ⟨by decide, by decide⟩ [0] rfl (by decide +kernel) rfl (Nat.le_of_ble_eq_true rfl) ⟨by decide, by decide⟩ [] [(0, 10, 17, 38)] (0, 10, 13, 13) rfl (fun z hz => nomatch hz) (by decide) (by decide) (List.mem_of_getElem? (i := 1) rfl) (List.mem_of_getElem? (i := 0) rfl) (fun q5 => ?_)
  refine h_astore (L' := [(0, .ref x), (1, .int a), (2, .int b), (3, .ref oa), (4, .ref q5)]) F dL_cell_13 (by decide) [1, 2, 3, 4, 0] rfl ?_
  refine h_iconst (v := 1) F dL_cell_15 (by decide) ?_
  refine g_cs (cells' := 1) (slots' := 6) (by show 0 + 1 ≤ 1; omega) (by show 0 + 6 ≤ 6; omega) ?_
  exact h_iret F hQ dL_cell_16 (rfl) (rfl)

set_option maxHeartbeats 4000000 in
set_option maxRecDepth 100000 in
theorem v_L_cell_2 (E : gE) (cL : ClassId) (x : Nat) (g : Nat) (p : Nat) (s : Nat) (kc : Nat) (qc : Nat) (col : Int32) (car : Int32) (tur : Int32) (pre : Int32) (cl : Int32) (a : Int32) (b : Int32) (oa : Nat) (ol : Nat → Int64) (h0 : ¬ sCell a b = 0) (h1 : sHas cl = 0) : CtW E cL yL_cell wsL_cell ({ frames := 8, cells := 1, slots := 6, locals := 133 }) [.ref x, .int a, .int b, .ref oa] [(x, .inr (4, [.ref g, .ref p, .ref s, .ref kc, .ref qc, .int col, .int car, .int tur, .int pre, .int cl])), (oa, .inl (cL, 1, .inr (.inl ol)))] (some (.int 2)) [(x, .inr (4, [.ref g, .ref p, .ref s, .ref kc, .ref qc, .int col, .int car, .int tur, .int pre, .int cl])), (oa, .inl (cL, 1, .inr (.inl ol)))] := by
  refine CtW.of (cc := cL_cell) (maxL := 5) (ret := (some .int)) (hh := [(0, 10, 13, 13), (0, 10, 17, 38)]) (own := RL) (L := [(0, .ref x), (1, .int a), (2, .int b), (3, .ref oa)]) (by decide) rfl rfl rfl (Nat.le_of_ble_eq_true rfl) rfl ?_
  intro X F Z hQ
  have i0 : ∀ w ∈ u_ws RX0 TX0 6, w ∈ wsL_cell := gsub [52, 53, 54, 55, 56, 57] rfl
  have i1 : ∀ w ∈ u_ws RX1 TX1 1, w ∈ wsL_cell := gsub [58] rfl
  have i4 : ∀ w ∈ u_ws RX4 TX4 10, w ∈ wsL_cell := gsub [42, 43, 44, 45, 46, 47, 48, 49, 50, 51] rfl
  refine h_aload_n F dL_cell_0 rfl 3 rfl ?_
  refine h_iconst (v := 0) F dL_cell_1 (by decide) ?_
  refine h_aload_n F dL_cell_2 rfl 0 rfl ?_
  refine h_iload_n F dL_cell_3 rfl 1 rfl ?_
  refine h_iload_n F dL_cell_4 rfl 2 rfl ?_
  refine h_xcatch (ws' := [(x, .inr (4, [.ref g, .ref p, .ref s, .ref kc, .ref qc, .int col, .int car, .int tur, .int pre, .int cl])), (oa, .inl (cL, 1, .inr (.inl ol)))]) F Z dL_cell_5 (x_X4_cell_2 E x g p s kc qc col car tur pre cl a b (h0) (h1)) rfl gL_cell_X4_cell 0 rfl rfl kV_X4_cell rfl ⟨by decide, by decide⟩ [0] rfl (by decide +kernel) rfl (Nat.le_of_ble_eq_true rfl) ⟨by decide, by decide⟩ [(0, 10, 13, 13)] [] (0, 10, 17, 38) rfl (fun z hz => by obtain rfl := List.mem_singleton.mp hz; exact ⟨by decide, _, (List.mem_of_getElem? (i := 1) rfl), List.mem_of_getElem? (i := 1) rfl⟩) (by decide) (by decide) (List.mem_of_getElem? (i := 2) rfl) (List.mem_of_getElem? (i := 2) rfl) (fun q5 => ?_)
  refine h_astore (L' := [(0, .ref x), (1, .int a), (2, .int b), (3, .ref oa), (4, .ref q5)]) F dL_cell_17 (by decide) [1, 2, 3, 4, 0] rfl ?_
  refine h_iconst (v := 2) F dL_cell_19 (by decide) ?_
  refine g_cs (cells' := 1) (slots' := 6) (by show 0 + 1 ≤ 1; omega) (by show 0 + 6 ≤ 6; omega) ?_
  exact h_iret F hQ dL_cell_20 (rfl) (rfl)

set_option maxHeartbeats 4000000 in
set_option maxRecDepth 100000 in
theorem w_L_run (E : gE) (cL : ClassId) (x : Nat) (g : Nat) (p : Nat) (s : Nat) (kc : Nat) (kd : Nat) (kd1 : Nat) (kd2 : Nat) (kd3 : Nat) (kd4 : Nat) (kw : Nat) (kwa : Nat) (kca : Nat) (kcb : Nat) (kr : Nat) (kra : Nat) (ku : Nat) (qc : Nat) (kt : AF) (kso : AF) (kst : AF) (ksh : AF) (kfw : AF) (kfc : AF) (kfr : AF) (kfu : AF) (koff : Int32) (col : Int32) (car : Int32) (tur : Int32) (pre : Int32) (cl : Int32) (kb : Nat) (y : Int32) (pl : Int32) (w : Int32) (oa : Nat) (ol : Nat → Int64) (h0 : ¬ y < 0) (h1 : y ≤ 7) (h2 : ¬ w < 0) (h3 : w ≤ 1) (h4 : ¬ sHas cl = 0) (h5 : ¬ pl < 0) (h6 : pl ≤ sRn kfr y - 1) : CtW E cL yL_run wsL_run ({ frames := 9, cells := 0, slots := 0, locals := 154 }) [.ref x, .int y, .int pl, .int w, .ref oa] [(x, .inr (4, [.ref g, .ref p, .ref s, .ref kc, .ref qc, .int col, .int car, .int tur, .int pre, .int cl])), (kc, .inr (0, [.ref kd, .ref kw, .ref kca, .ref kr, .ref ku, .int koff])), (kd, .inr (2, [.ref kd1, .ref kd2, .ref kd3, .ref kd4, .int (nI kb)])), (kd1, .inl (E.2.2, 256, .inl kt)), (kd2, .inl (E.2.2, 96, .inl kso)), (kd3, .inl (E.2.2, 6, .inl kst)), (kd4, .inl (E.2.2, 6, .inl ksh)), (kw, .inr (1, [.ref kwa])), (kwa, .inl (E.2.2, 96, .inl kfw)), (kca, .inr (1, [.ref kcb])), (kcb, .inl (E.2.2, 96, .inl kfc)), (kr, .inr (1, [.ref kra])), (kra, .inl (E.2.2, 96, .inl kfr)), (ku, .inl (E.2.2, 6, .inl kfu)), (oa, .inl (cL, 1, .inr (.inl ol)))] (some (.int 0)) [(x, .inr (4, [.ref g, .ref p, .ref s, .ref kc, .ref qc, .int col, .int car, .int tur, .int pre, .int cl])), (kc, .inr (0, [.ref kd, .ref kw, .ref kca, .ref kr, .ref ku, .int koff])), (kd, .inr (2, [.ref kd1, .ref kd2, .ref kd3, .ref kd4, .int (nI kb)])), (kd1, .inl (E.2.2, 256, .inl kt)), (kd2, .inl (E.2.2, 96, .inl kso)), (kd3, .inl (E.2.2, 6, .inl kst)), (kd4, .inl (E.2.2, 6, .inl ksh)), (kw, .inr (1, [.ref kwa])), (kwa, .inl (E.2.2, 96, .inl kfw)), (kca, .inr (1, [.ref kcb])), (kcb, .inl (E.2.2, 96, .inl kfc)), (kr, .inr (1, [.ref kra])), (kra, .inl (E.2.2, 96, .inl kfr)), (ku, .inl (E.2.2, 6, .inl kfu)), (oa, .inl (cL, 1, .inr (.inl (vp_updL ol (0 : Int32).toNatClampNeg (sRun kfr kfw y pl w).toInt64))))] := by
  refine CtW.of (cc := cL_run) (maxL := 6) (ret := (some .int)) (hh := [(0, 12, 15, 13), (0, 12, 19, 38)]) (own := RL) (L := [(0, .ref x), (1, .int y), (2, .int pl), (3, .int w), (4, .ref oa)]) (by decide) rfl rfl rfl (Nat.le_of_ble_eq_true rfl) rfl ?_
  intro X F Z hQ
  have i0 : ∀ w ∈ u_ws RX0 TX0 6, w ∈ wsL_run := gsub [63, 64, 65, 66, 67, 68] rfl
  have i1 : ∀ w ∈ u_ws RX1 TX1 1, w ∈ wsL_run := gsub [69] rfl
  have i4 : ∀ w ∈ u_ws RX4 TX4 10, w ∈ wsL_run := gsub [53, 54, 55, 56, 57, 58, 59, 60, 61, 62] rfl
  refine h_aload F dL_run_0 4 rfl ?_
  refine h_iconst (v := 0) F dL_run_2 (by decide) ?_
  refine h_aload_n F dL_run_3 rfl 0 rfl ?_
  refine h_iload_n F dL_run_4 rfl 1 rfl ?_
  refine h_iload_n F dL_run_5 rfl 2 rfl ?_
  refine h_iload_n F dL_run_6 rfl 3 rfl ?_
  refine h_callV (ws' := [(x, .inr (4, [.ref g, .ref p, .ref s, .ref kc, .ref qc, .int col, .int car, .int tur, .int pre, .int cl])), (kc, .inr (0, [.ref kd, .ref kw, .ref kca, .ref kr, .ref ku, .int koff])), (kd, .inr (2, [.ref kd1, .ref kd2, .ref kd3, .ref kd4, .int (nI kb)])), (kd1, .inl (E.2.2, 256, .inl kt)), (kd2, .inl (E.2.2, 96, .inl kso)), (kd3, .inl (E.2.2, 6, .inl kst)), (kd4, .inl (E.2.2, 6, .inl ksh)), (kw, .inr (1, [.ref kwa])), (kwa, .inl (E.2.2, 96, .inl kfw)), (kca, .inr (1, [.ref kcb])), (kcb, .inl (E.2.2, 96, .inl kfc)), (kr, .inr (1, [.ref kra])), (kra, .inl (E.2.2, 96, .inl kfr)), (ku, .inl (E.2.2, 6, .inl kfu)), (oa, .inl (cL, 1, .inr (.inl ol)))]) F dL_run_7 (c_X4_run E x g p s kc kd kd1 kd2 kd3 kd4 kw kwa kca kcb kr kra ku qc kt kso kst ksh kfw kfc kfr kfu koff col car tur pre cl kb y pl w (h0) (h1) (h2) (h3) (h4) (h5) (h6)) rfl gL_run_X4_run 0 rfl rfl kV_X4_run ⟨by decide, by decide⟩ [0, 1, 2, 3, 4, 5, 6, 7, 8, 9, 10, 11, 12, 13] rfl (by decide +kernel) rfl rfl (Nat.le_of_ble_eq_true rfl) ⟨by decide, by decide⟩ ?_
  refine h_i2l (v := (sRun kfr kfw y pl w).toInt64) F dL_run_10 rfl ?_
  refine h_last (ws' := [(x, .inr (4, [.ref g, .ref p, .ref s, .ref kc, .ref qc, .int col, .int car, .int tur, .int pre, .int cl])), (kc, .inr (0, [.ref kd, .ref kw, .ref kca, .ref kr, .ref ku, .int koff])), (kd, .inr (2, [.ref kd1, .ref kd2, .ref kd3, .ref kd4, .int (nI kb)])), (kd1, .inl (E.2.2, 256, .inl kt)), (kd2, .inl (E.2.2, 96, .inl kso)), (kd3, .inl (E.2.2, 6, .inl kst)), (kd4, .inl (E.2.2, 6, .inl ksh)), (kw, .inr (1, [.ref kwa])), (kwa, .inl (E.2.2, 96, .inl kfw)), (kca, .inr (1, [.ref kcb])), (kcb, .inl (E.2.2, 96, .inl kfc)), (kr, .inr (1, [.ref kra])), (kra, .inl (E.2.2, 96, .inl kfr)), (ku, .inl (E.2.2, 6, .inl kfu)), (oa, .inl (cL, 1, .inr (.inl (vp_updL ol (0 : Int32).toNatClampNeg ((sRun kfr kfw y pl w).toInt64)))))]) F Z dL_run_11 14 rfl (by unfold vp_in; decide) rfl ?_
  refine h_goto (tgt := 23) F dL_run_12 (by decide) ?_
  refine h_iconst (v := 0) F dL_run_23 (by decide) ?_
  exact h_iret F hQ dL_run_24 (rfl) (rfl)

set_option maxHeartbeats 4000000 in
set_option maxRecDepth 100000 in
theorem v_L_run_1 (E : gE) (cL : ClassId) (x : Nat) (g : Nat) (p : Nat) (s : Nat) (kc : Nat) (qc : Nat) (col : Int32) (car : Int32) (tur : Int32) (pre : Int32) (cl : Int32) (y : Int32) (pl : Int32) (w : Int32) (oa : Nat) (ol : Nat → Int64) (h0 : ¬ (¬ y < 0 ∧ y ≤ 7)) : CtW E cL yL_run wsL_run ({ frames := 9, cells := 1, slots := 6, locals := 154 }) [.ref x, .int y, .int pl, .int w, .ref oa] [(x, .inr (4, [.ref g, .ref p, .ref s, .ref kc, .ref qc, .int col, .int car, .int tur, .int pre, .int cl])), (oa, .inl (cL, 1, .inr (.inl ol)))] (some (.int 1)) [(x, .inr (4, [.ref g, .ref p, .ref s, .ref kc, .ref qc, .int col, .int car, .int tur, .int pre, .int cl])), (oa, .inl (cL, 1, .inr (.inl ol)))] := by
  refine CtW.of (cc := cL_run) (maxL := 6) (ret := (some .int)) (hh := [(0, 12, 15, 13), (0, 12, 19, 38)]) (own := RL) (L := [(0, .ref x), (1, .int y), (2, .int pl), (3, .int w), (4, .ref oa)]) (by decide) rfl rfl rfl (Nat.le_of_ble_eq_true rfl) rfl ?_
  intro X F Z hQ
  have i0 : ∀ w ∈ u_ws RX0 TX0 6, w ∈ wsL_run := gsub [63, 64, 65, 66, 67, 68] rfl
  have i1 : ∀ w ∈ u_ws RX1 TX1 1, w ∈ wsL_run := gsub [69] rfl
  have i4 : ∀ w ∈ u_ws RX4 TX4 10, w ∈ wsL_run := gsub [53, 54, 55, 56, 57, 58, 59, 60, 61, 62] rfl
  refine h_aload F dL_run_0 4 rfl ?_
  refine h_iconst (v := 0) F dL_run_2 (by decide) ?_
  refine h_aload_n F dL_run_3 rfl 0 rfl ?_
  refine h_iload_n F dL_run_4 rfl 1 rfl ?_
  refine h_iload_n F dL_run_5 rfl 2 rfl ?_
  refine h_iload_n F dL_run_6 rfl 3 rfl ?_
  refine h_xcatch (ws' := [(x, .inr (4, [.ref g, .ref p, .ref s, .ref kc, .ref qc, .int col, .int car, .int tur, .int pre, .int cl])), (oa, .inl (cL, 1, .inr (.inl ol)))]) F Z dL_run_7 (x_X4_run_1 E x g p s kc qc col car tur pre cl y pl w (h0)) rfl gL_run_X4_run 0 rfl rfl kV_X4_run rfl ⟨by decide, by decide⟩ [0] rfl (by decide +kernel) rfl (Nat.le_of_ble_eq_true rfl) ⟨by decide, by decide⟩ [] [(0, 12, 19, 38)] (0, 12, 15, 13) rfl (fun z hz => nomatch hz) (by decide) (by decide) (List.mem_of_getElem? (i := 1) rfl) (List.mem_of_getElem? (i := 0) rfl) (fun q7 => ?_)
  refine h_astore (L' := [(0, .ref x), (1, .int y), (2, .int pl), (3, .int w), (4, .ref oa), (5, .ref q7)]) F dL_run_15 (by decide) [1, 2, 3, 4, 5, 0] rfl ?_
  refine h_iconst (v := 1) F dL_run_17 (by decide) ?_
  refine g_cs (cells' := 1) (slots' := 6) (by show 0 + 1 ≤ 1; omega) (by show 0 + 6 ≤ 6; omega) ?_
  exact h_iret F hQ dL_run_18 (rfl) (rfl)

set_option maxHeartbeats 4000000 in
set_option maxRecDepth 100000 in
theorem v_L_run_2 (E : gE) (cL : ClassId) (x : Nat) (g : Nat) (p : Nat) (s : Nat) (kc : Nat) (qc : Nat) (col : Int32) (car : Int32) (tur : Int32) (pre : Int32) (cl : Int32) (y : Int32) (pl : Int32) (w : Int32) (oa : Nat) (ol : Nat → Int64) (h0 : ¬ y < 0) (h1 : y ≤ 7) (h2 : ¬ (¬ w < 0 ∧ w ≤ 1)) : CtW E cL yL_run wsL_run ({ frames := 9, cells := 1, slots := 6, locals := 154 }) [.ref x, .int y, .int pl, .int w, .ref oa] [(x, .inr (4, [.ref g, .ref p, .ref s, .ref kc, .ref qc, .int col, .int car, .int tur, .int pre, .int cl])), (oa, .inl (cL, 1, .inr (.inl ol)))] (some (.int 1)) [(x, .inr (4, [.ref g, .ref p, .ref s, .ref kc, .ref qc, .int col, .int car, .int tur, .int pre, .int cl])), (oa, .inl (cL, 1, .inr (.inl ol)))] := by
  refine CtW.of (cc := cL_run) (maxL := 6) (ret := (some .int)) (hh := [(0, 12, 15, 13), (0, 12, 19, 38)]) (own := RL) (L := [(0, .ref x), (1, .int y), (2, .int pl), (3, .int w), (4, .ref oa)]) (by decide) rfl rfl rfl (Nat.le_of_ble_eq_true rfl) rfl ?_
  intro X F Z hQ
  have i0 : ∀ w ∈ u_ws RX0 TX0 6, w ∈ wsL_run := gsub [63, 64, 65, 66, 67, 68] rfl
  have i1 : ∀ w ∈ u_ws RX1 TX1 1, w ∈ wsL_run := gsub [69] rfl
  have i4 : ∀ w ∈ u_ws RX4 TX4 10, w ∈ wsL_run := gsub [53, 54, 55, 56, 57, 58, 59, 60, 61, 62] rfl
  refine h_aload F dL_run_0 4 rfl ?_
  refine h_iconst (v := 0) F dL_run_2 (by decide) ?_
  refine h_aload_n F dL_run_3 rfl 0 rfl ?_
  refine h_iload_n F dL_run_4 rfl 1 rfl ?_
  refine h_iload_n F dL_run_5 rfl 2 rfl ?_
  refine h_iload_n F dL_run_6 rfl 3 rfl ?_
  refine h_xcatch (ws' := [(x, .inr (4, [.ref g, .ref p, .ref s, .ref kc, .ref qc, .int col, .int car, .int tur, .int pre, .int cl])), (oa, .inl (cL, 1, .inr (.inl ol)))]) F Z dL_run_7 (x_X4_run_2 E x g p s kc qc col car tur pre cl y pl w (h0) (h1) (h2)) rfl gL_run_X4_run 0 rfl rfl kV_X4_run rfl ⟨by decide, by decide⟩ [0] rfl (by decide +kernel) rfl (Nat.le_of_ble_eq_true rfl) ⟨by decide, by decide⟩ [] [(0, 12, 19, 38)] (0, 12, 15, 13) rfl (fun z hz => nomatch hz) (by decide) (by decide) (List.mem_of_getElem? (i := 1) rfl) (List.mem_of_getElem? (i := 0) rfl) (fun q7 => ?_)
  refine h_astore (L' := [(0, .ref x), (1, .int y), (2, .int pl), (3, .int w), (4, .ref oa), (5, .ref q7)]) F dL_run_15 (by decide) [1, 2, 3, 4, 5, 0] rfl ?_
  refine h_iconst (v := 1) F dL_run_17 (by decide) ?_
  refine g_cs (cells' := 1) (slots' := 6) (by show 0 + 1 ≤ 1; omega) (by show 0 + 6 ≤ 6; omega) ?_
  exact h_iret F hQ dL_run_18 (rfl) (rfl)

set_option maxHeartbeats 4000000 in
set_option maxRecDepth 100000 in
theorem v_L_run_3 (E : gE) (cL : ClassId) (x : Nat) (g : Nat) (p : Nat) (s : Nat) (kc : Nat) (qc : Nat) (col : Int32) (car : Int32) (tur : Int32) (pre : Int32) (cl : Int32) (y : Int32) (pl : Int32) (w : Int32) (oa : Nat) (ol : Nat → Int64) (h0 : ¬ y < 0) (h1 : y ≤ 7) (h2 : ¬ w < 0) (h3 : w ≤ 1) (h4 : sHas cl = 0) : CtW E cL yL_run wsL_run ({ frames := 9, cells := 1, slots := 6, locals := 154 }) [.ref x, .int y, .int pl, .int w, .ref oa] [(x, .inr (4, [.ref g, .ref p, .ref s, .ref kc, .ref qc, .int col, .int car, .int tur, .int pre, .int cl])), (oa, .inl (cL, 1, .inr (.inl ol)))] (some (.int 2)) [(x, .inr (4, [.ref g, .ref p, .ref s, .ref kc, .ref qc, .int col, .int car, .int tur, .int pre, .int cl])), (oa, .inl (cL, 1, .inr (.inl ol)))] := by
  refine CtW.of (cc := cL_run) (maxL := 6) (ret := (some .int)) (hh := [(0, 12, 15, 13), (0, 12, 19, 38)]) (own := RL) (L := [(0, .ref x), (1, .int y), (2, .int pl), (3, .int w), (4, .ref oa)]) (by decide) rfl rfl rfl (Nat.le_of_ble_eq_true rfl) rfl ?_
  intro X F Z hQ
  have i0 : ∀ w ∈ u_ws RX0 TX0 6, w ∈ wsL_run := gsub [63, 64, 65, 66, 67, 68] rfl
  have i1 : ∀ w ∈ u_ws RX1 TX1 1, w ∈ wsL_run := gsub [69] rfl
  have i4 : ∀ w ∈ u_ws RX4 TX4 10, w ∈ wsL_run := gsub [53, 54, 55, 56, 57, 58, 59, 60, 61, 62] rfl
  refine h_aload F dL_run_0 4 rfl ?_
  refine h_iconst (v := 0) F dL_run_2 (by decide) ?_
  refine h_aload_n F dL_run_3 rfl 0 rfl ?_
  refine h_iload_n F dL_run_4 rfl 1 rfl ?_
  refine h_iload_n F dL_run_5 rfl 2 rfl ?_
  refine h_iload_n F dL_run_6 rfl 3 rfl ?_
  refine h_xcatch (ws' := [(x, .inr (4, [.ref g, .ref p, .ref s, .ref kc, .ref qc, .int col, .int car, .int tur, .int pre, .int cl])), (oa, .inl (cL, 1, .inr (.inl ol)))]) F Z dL_run_7 (x_X4_run_3 E x g p s kc qc col car tur pre cl y pl w (h0) (h1) (h2) (h3) (h4)) rfl gL_run_X4_run 0 rfl rfl kV_X4_run rfl ⟨by decide, by decide⟩ [0] rfl (by decide +kernel) rfl (Nat.le_of_ble_eq_true rfl) ⟨by decide, by decide⟩ [(0, 12, 15, 13)] [] (0, 12, 19, 38) rfl (fun z hz => by obtain rfl := List.mem_singleton.mp hz; exact ⟨by decide, _, (List.mem_of_getElem? (i := 1) rfl), List.mem_of_getElem? (i := 1) rfl⟩) (by decide) (by decide) (List.mem_of_getElem? (i := 2) rfl) (List.mem_of_getElem? (i := 2) rfl) (fun q7 => ?_)
  refine h_astore (L' := [(0, .ref x), (1, .int y), (2, .int pl), (3, .int w), (4, .ref oa), (5, .ref q7)]) F dL_run_19 (by decide) [1, 2, 3, 4, 5, 0] rfl ?_
  refine h_iconst (v := 2) F dL_run_21 (by decide) ?_
  refine g_cs (cells' := 1) (slots' := 6) (by show 0 + 1 ≤ 1; omega) (by show 0 + 6 ≤ 6; omega) ?_
  exact h_iret F hQ dL_run_22 (rfl) (rfl)

set_option maxHeartbeats 4000000 in
set_option maxRecDepth 100000 in
theorem v_L_run_4 (E : gE) (cL : ClassId) (x : Nat) (g : Nat) (p : Nat) (s : Nat) (kc : Nat) (kd : Nat) (kd1 : Nat) (kd2 : Nat) (kd3 : Nat) (kd4 : Nat) (kw : Nat) (kwa : Nat) (kca : Nat) (kcb : Nat) (kr : Nat) (kra : Nat) (ku : Nat) (qc : Nat) (kt : AF) (kso : AF) (kst : AF) (ksh : AF) (kfw : AF) (kfc : AF) (kfr : AF) (kfu : AF) (koff : Int32) (col : Int32) (car : Int32) (tur : Int32) (pre : Int32) (cl : Int32) (kb : Nat) (y : Int32) (pl : Int32) (w : Int32) (oa : Nat) (ol : Nat → Int64) (h0 : ¬ y < 0) (h1 : y ≤ 7) (h2 : ¬ w < 0) (h3 : w ≤ 1) (h4 : ¬ sHas cl = 0) (h5 : ¬ (¬ pl < 0 ∧ pl ≤ sRn kfr y - 1)) : CtW E cL yL_run wsL_run ({ frames := 9, cells := 1, slots := 6, locals := 154 }) [.ref x, .int y, .int pl, .int w, .ref oa] [(x, .inr (4, [.ref g, .ref p, .ref s, .ref kc, .ref qc, .int col, .int car, .int tur, .int pre, .int cl])), (kc, .inr (0, [.ref kd, .ref kw, .ref kca, .ref kr, .ref ku, .int koff])), (kd, .inr (2, [.ref kd1, .ref kd2, .ref kd3, .ref kd4, .int (nI kb)])), (kd1, .inl (E.2.2, 256, .inl kt)), (kd2, .inl (E.2.2, 96, .inl kso)), (kd3, .inl (E.2.2, 6, .inl kst)), (kd4, .inl (E.2.2, 6, .inl ksh)), (kw, .inr (1, [.ref kwa])), (kwa, .inl (E.2.2, 96, .inl kfw)), (kca, .inr (1, [.ref kcb])), (kcb, .inl (E.2.2, 96, .inl kfc)), (kr, .inr (1, [.ref kra])), (kra, .inl (E.2.2, 96, .inl kfr)), (ku, .inl (E.2.2, 6, .inl kfu)), (oa, .inl (cL, 1, .inr (.inl ol)))] (some (.int 1)) [(x, .inr (4, [.ref g, .ref p, .ref s, .ref kc, .ref qc, .int col, .int car, .int tur, .int pre, .int cl])), (kc, .inr (0, [.ref kd, .ref kw, .ref kca, .ref kr, .ref ku, .int koff])), (kd, .inr (2, [.ref kd1, .ref kd2, .ref kd3, .ref kd4, .int (nI kb)])), (kd1, .inl (E.2.2, 256, .inl kt)), (kd2, .inl (E.2.2, 96, .inl kso)), (kd3, .inl (E.2.2, 6, .inl kst)), (kd4, .inl (E.2.2, 6, .inl ksh)), (kw, .inr (1, [.ref kwa])), (kwa, .inl (E.2.2, 96, .inl kfw)), (kca, .inr (1, [.ref kcb])), (kcb, .inl (E.2.2, 96, .inl kfc)), (kr, .inr (1, [.ref kra])), (kra, .inl (E.2.2, 96, .inl kfr)), (ku, .inl (E.2.2, 6, .inl kfu)), (oa, .inl (cL, 1, .inr (.inl ol)))] := by
  refine CtW.of (cc := cL_run) (maxL := 6) (ret := (some .int)) (hh := [(0, 12, 15, 13), (0, 12, 19, 38)]) (own := RL) (L := [(0, .ref x), (1, .int y), (2, .int pl), (3, .int w), (4, .ref oa)]) (by decide) rfl rfl rfl (Nat.le_of_ble_eq_true rfl) rfl ?_
  intro X F Z hQ
  have i0 : ∀ w ∈ u_ws RX0 TX0 6, w ∈ wsL_run := gsub [63, 64, 65, 66, 67, 68] rfl
  have i1 : ∀ w ∈ u_ws RX1 TX1 1, w ∈ wsL_run := gsub [69] rfl
  have i4 : ∀ w ∈ u_ws RX4 TX4 10, w ∈ wsL_run := gsub [53, 54, 55, 56, 57, 58, 59, 60, 61, 62] rfl
  refine h_aload F dL_run_0 4 rfl ?_
  refine h_iconst (v := 0) F dL_run_2 (by decide) ?_
  refine h_aload_n F dL_run_3 rfl 0 rfl ?_
  refine h_iload_n F dL_run_4 rfl 1 rfl ?_
  refine h_iload_n F dL_run_5 rfl 2 rfl ?_
  refine h_iload_n F dL_run_6 rfl 3 rfl ?_
  refine h_xcatch (ws' := [(x, .inr (4, [.ref g, .ref p, .ref s, .ref kc, .ref qc, .int col, .int car, .int tur, .int pre, .int cl])), (kc, .inr (0, [.ref kd, .ref kw, .ref kca, .ref kr, .ref ku, .int koff])), (kd, .inr (2, [.ref kd1, .ref kd2, .ref kd3, .ref kd4, .int (nI kb)])), (kd1, .inl (E.2.2, 256, .inl kt)), (kd2, .inl (E.2.2, 96, .inl kso)), (kd3, .inl (E.2.2, 6, .inl kst)), (kd4, .inl (E.2.2, 6, .inl ksh)), (kw, .inr (1, [.ref kwa])), (kwa, .inl (E.2.2, 96, .inl kfw)), (kca, .inr (1, [.ref kcb])), (kcb, .inl (E.2.2, 96, .inl kfc)), (kr, .inr (1, [.ref kra])), (kra, .inl (E.2.2, 96, .inl kfr)), (ku, .inl (E.2.2, 6, .inl kfu)), (oa, .inl (cL, 1, .inr (.inl ol)))]) F Z dL_run_7 (x_X4_run_4 E x g p s kc kd kd1 kd2 kd3 kd4 kw kwa kca kcb kr kra ku qc kt kso kst ksh kfw kfc kfr kfu koff col car tur pre cl kb y pl w (h0) (h1) (h2) (h3) (h4) (h5)) rfl gL_run_X4_run 0 rfl rfl kV_X4_run rfl ⟨by decide, by decide⟩ [0, 1, 2, 3, 4, 5, 6, 7, 8, 9, 10, 11, 12, 13] rfl (by decide +kernel) rfl (Nat.le_of_ble_eq_true rfl) ⟨by decide, by decide⟩ [] [(0, 12, 19, 38)] (0, 12, 15, 13) rfl (fun z hz => nomatch hz) (by decide) (by decide) (List.mem_of_getElem? (i := 1) rfl) (List.mem_of_getElem? (i := 0) rfl) (fun q7 => ?_)
  refine h_astore (L' := [(0, .ref x), (1, .int y), (2, .int pl), (3, .int w), (4, .ref oa), (5, .ref q7)]) F dL_run_15 (by decide) [1, 2, 3, 4, 5, 0] rfl ?_
  refine h_iconst (v := 1) F dL_run_17 (by decide) ?_
  refine g_cs (cells' := 1) (slots' := 6) (by show 0 + 1 ≤ 1; omega) (by show 0 + 6 ≤ 6; omega) ?_
  exact h_iret F hQ dL_run_18 (rfl) (rfl)

set_option maxHeartbeats 4000000 in
set_option maxRecDepth 100000 in
theorem w_L_knots (E : gE) (cL : ClassId) (x : Nat) (g : Nat) (p : Nat) (s : Nat) (kc : Nat) (kd : Nat) (kd1 : Nat) (kd2 : Nat) (kd3 : Nat) (kd4 : Nat) (kw : Nat) (kwa : Nat) (kca : Nat) (kcb : Nat) (kr : Nat) (kra : Nat) (ku : Nat) (qc : Nat) (kt : AF) (kso : AF) (kst : AF) (ksh : AF) (kfw : AF) (kfc : AF) (kfr : AF) (kfu : AF) (koff : Int32) (col : Int32) (car : Int32) (tur : Int32) (pre : Int32) (cl : Int32) (kb : Nat) (y : Int32) (oa : Nat) (ol : Nat → Int64) (h0 : ¬ y < 0) (h1 : y ≤ 7) (h2 : ¬ sHas cl = 0) : CtW E cL yL_knots wsL_knots ({ frames := 9, cells := 0, slots := 0, locals := 152 }) [.ref x, .int y, .ref oa] [(x, .inr (4, [.ref g, .ref p, .ref s, .ref kc, .ref qc, .int col, .int car, .int tur, .int pre, .int cl])), (kc, .inr (0, [.ref kd, .ref kw, .ref kca, .ref kr, .ref ku, .int koff])), (kd, .inr (2, [.ref kd1, .ref kd2, .ref kd3, .ref kd4, .int (nI kb)])), (kd1, .inl (E.2.2, 256, .inl kt)), (kd2, .inl (E.2.2, 96, .inl kso)), (kd3, .inl (E.2.2, 6, .inl kst)), (kd4, .inl (E.2.2, 6, .inl ksh)), (kw, .inr (1, [.ref kwa])), (kwa, .inl (E.2.2, 96, .inl kfw)), (kca, .inr (1, [.ref kcb])), (kcb, .inl (E.2.2, 96, .inl kfc)), (kr, .inr (1, [.ref kra])), (kra, .inl (E.2.2, 96, .inl kfr)), (ku, .inl (E.2.2, 6, .inl kfu)), (oa, .inl (cL, 1, .inr (.inl ol)))] (some (.int 0)) [(x, .inr (4, [.ref g, .ref p, .ref s, .ref kc, .ref qc, .int col, .int car, .int tur, .int pre, .int cl])), (kc, .inr (0, [.ref kd, .ref kw, .ref kca, .ref kr, .ref ku, .int koff])), (kd, .inr (2, [.ref kd1, .ref kd2, .ref kd3, .ref kd4, .int (nI kb)])), (kd1, .inl (E.2.2, 256, .inl kt)), (kd2, .inl (E.2.2, 96, .inl kso)), (kd3, .inl (E.2.2, 6, .inl kst)), (kd4, .inl (E.2.2, 6, .inl ksh)), (kw, .inr (1, [.ref kwa])), (kwa, .inl (E.2.2, 96, .inl kfw)), (kca, .inr (1, [.ref kcb])), (kcb, .inl (E.2.2, 96, .inl kfc)), (kr, .inr (1, [.ref kra])), (kra, .inl (E.2.2, 96, .inl kfr)), (ku, .inl (E.2.2, 6, .inl kfu)), (oa, .inl (cL, 1, .inr (.inl (vp_updL ol (0 : Int32).toNatClampNeg (sKn kfw kfr y pre).toInt64))))] := by
  refine CtW.of (cc := cL_knots) (maxL := 4) (ret := (some .int)) (hh := [(0, 9, 12, 13), (0, 9, 15, 38)]) (own := RL) (L := [(0, .ref x), (1, .int y), (2, .ref oa)]) (by decide) rfl rfl rfl (Nat.le_of_ble_eq_true rfl) rfl ?_
  intro X F Z hQ
  have i0 : ∀ w ∈ u_ws RX0 TX0 6, w ∈ wsL_knots := gsub [64, 65, 66, 67, 68, 69] rfl
  have i1 : ∀ w ∈ u_ws RX1 TX1 1, w ∈ wsL_knots := gsub [70] rfl
  have i4 : ∀ w ∈ u_ws RX4 TX4 10, w ∈ wsL_knots := gsub [54, 55, 56, 57, 58, 59, 60, 61, 62, 63] rfl
  refine h_aload_n F dL_knots_0 rfl 2 rfl ?_
  refine h_iconst (v := 0) F dL_knots_1 (by decide) ?_
  refine h_aload_n F dL_knots_2 rfl 0 rfl ?_
  refine h_iload_n F dL_knots_3 rfl 1 rfl ?_
  refine h_callV (ws' := [(x, .inr (4, [.ref g, .ref p, .ref s, .ref kc, .ref qc, .int col, .int car, .int tur, .int pre, .int cl])), (kc, .inr (0, [.ref kd, .ref kw, .ref kca, .ref kr, .ref ku, .int koff])), (kd, .inr (2, [.ref kd1, .ref kd2, .ref kd3, .ref kd4, .int (nI kb)])), (kd1, .inl (E.2.2, 256, .inl kt)), (kd2, .inl (E.2.2, 96, .inl kso)), (kd3, .inl (E.2.2, 6, .inl kst)), (kd4, .inl (E.2.2, 6, .inl ksh)), (kw, .inr (1, [.ref kwa])), (kwa, .inl (E.2.2, 96, .inl kfw)), (kca, .inr (1, [.ref kcb])), (kcb, .inl (E.2.2, 96, .inl kfc)), (kr, .inr (1, [.ref kra])), (kra, .inl (E.2.2, 96, .inl kfr)), (ku, .inl (E.2.2, 6, .inl kfu)), (oa, .inl (cL, 1, .inr (.inl ol)))]) F dL_knots_4 (c_X4_knots E x g p s kc kd kd1 kd2 kd3 kd4 kw kwa kca kcb kr kra ku qc kt kso kst ksh kfw kfc kfr kfu koff col car tur pre cl kb y (h0) (h1) (h2)) rfl gL_knots_X4_knots 0 rfl rfl kV_X4_knots ⟨by decide, by decide⟩ [0, 1, 2, 3, 4, 5, 6, 7, 8, 9, 10, 11, 12, 13] rfl (by decide +kernel) rfl rfl (Nat.le_of_ble_eq_true rfl) ⟨by decide, by decide⟩ ?_
  refine h_i2l (v := (sKn kfw kfr y pre).toInt64) F dL_knots_7 rfl ?_
  refine h_last (ws' := [(x, .inr (4, [.ref g, .ref p, .ref s, .ref kc, .ref qc, .int col, .int car, .int tur, .int pre, .int cl])), (kc, .inr (0, [.ref kd, .ref kw, .ref kca, .ref kr, .ref ku, .int koff])), (kd, .inr (2, [.ref kd1, .ref kd2, .ref kd3, .ref kd4, .int (nI kb)])), (kd1, .inl (E.2.2, 256, .inl kt)), (kd2, .inl (E.2.2, 96, .inl kso)), (kd3, .inl (E.2.2, 6, .inl kst)), (kd4, .inl (E.2.2, 6, .inl ksh)), (kw, .inr (1, [.ref kwa])), (kwa, .inl (E.2.2, 96, .inl kfw)), (kca, .inr (1, [.ref kcb])), (kcb, .inl (E.2.2, 96, .inl kfc)), (kr, .inr (1, [.ref kra])), (kra, .inl (E.2.2, 96, .inl kfr)), (ku, .inl (E.2.2, 6, .inl kfu)), (oa, .inl (cL, 1, .inr (.inl (vp_updL ol (0 : Int32).toNatClampNeg ((sKn kfw kfr y pre).toInt64)))))]) F Z dL_knots_8 14 rfl (by unfold vp_in; decide) rfl ?_
  refine h_goto (tgt := 18) F dL_knots_9 (by decide) ?_
  refine h_iconst (v := 0) F dL_knots_18 (by decide) ?_
  exact h_iret F hQ dL_knots_19 (rfl) (rfl)

set_option maxHeartbeats 4000000 in
set_option maxRecDepth 100000 in
theorem v_L_knots_1 (E : gE) (cL : ClassId) (x : Nat) (g : Nat) (p : Nat) (s : Nat) (kc : Nat) (qc : Nat) (col : Int32) (car : Int32) (tur : Int32) (pre : Int32) (cl : Int32) (y : Int32) (oa : Nat) (ol : Nat → Int64) (h0 : ¬ (¬ y < 0 ∧ y ≤ 7)) : CtW E cL yL_knots wsL_knots ({ frames := 9, cells := 1, slots := 6, locals := 152 }) [.ref x, .int y, .ref oa] [(x, .inr (4, [.ref g, .ref p, .ref s, .ref kc, .ref qc, .int col, .int car, .int tur, .int pre, .int cl])), (oa, .inl (cL, 1, .inr (.inl ol)))] (some (.int 1)) [(x, .inr (4, [.ref g, .ref p, .ref s, .ref kc, .ref qc, .int col, .int car, .int tur, .int pre, .int cl])), (oa, .inl (cL, 1, .inr (.inl ol)))] := by
  refine CtW.of (cc := cL_knots) (maxL := 4) (ret := (some .int)) (hh := [(0, 9, 12, 13), (0, 9, 15, 38)]) (own := RL) (L := [(0, .ref x), (1, .int y), (2, .ref oa)]) (by decide) rfl rfl rfl (Nat.le_of_ble_eq_true rfl) rfl ?_
  intro X F Z hQ
  have i0 : ∀ w ∈ u_ws RX0 TX0 6, w ∈ wsL_knots := gsub [64, 65, 66, 67, 68, 69] rfl
  have i1 : ∀ w ∈ u_ws RX1 TX1 1, w ∈ wsL_knots := gsub [70] rfl
  have i4 : ∀ w ∈ u_ws RX4 TX4 10, w ∈ wsL_knots := gsub [54, 55, 56, 57, 58, 59, 60, 61, 62, 63] rfl
  refine h_aload_n F dL_knots_0 rfl 2 rfl ?_
  refine h_iconst (v := 0) F dL_knots_1 (by decide) ?_
  refine h_aload_n F dL_knots_2 rfl 0 rfl ?_
  refine h_iload_n F dL_knots_3 rfl 1 rfl ?_
  refine h_xcatch (ws' := [(x, .inr (4, [.ref g, .ref p, .ref s, .ref kc, .ref qc, .int col, .int car, .int tur, .int pre, .int cl])), (oa, .inl (cL, 1, .inr (.inl ol)))]) F Z dL_knots_4 (x_X4_knots_1 E x g p s kc qc col car tur pre cl y (h0)) rfl gL_knots_X4_knots 0 rfl rfl kV_X4_knots rfl ⟨by decide, by decide⟩ [0] rfl (by decide +kernel) rfl (Nat.le_of_ble_eq_true rfl) ⟨by decide, by decide⟩ [] [(0, 9, 15, 38)] (0, 9, 12, 13) rfl (fun z hz => nomatch hz) (by decide) (by decide) (List.mem_of_getElem? (i := 1) rfl) (List.mem_of_getElem? (i := 0) rfl) (fun q4 => ?_)
  refine h_astore_n (L' := [(0, .ref x), (1, .int y), (2, .ref oa), (3, .ref q4)]) F dL_knots_12 rfl (by decide) [1, 2, 3, 0] rfl ?_
  refine h_iconst (v := 1) F dL_knots_13 (by decide) ?_
  refine g_cs (cells' := 1) (slots' := 6) (by show 0 + 1 ≤ 1; omega) (by show 0 + 6 ≤ 6; omega) ?_
  exact h_iret F hQ dL_knots_14 (rfl) (rfl)

set_option maxHeartbeats 4000000 in
set_option maxRecDepth 100000 in
theorem v_L_knots_2 (E : gE) (cL : ClassId) (x : Nat) (g : Nat) (p : Nat) (s : Nat) (kc : Nat) (qc : Nat) (col : Int32) (car : Int32) (tur : Int32) (pre : Int32) (cl : Int32) (y : Int32) (oa : Nat) (ol : Nat → Int64) (h0 : ¬ y < 0) (h1 : y ≤ 7) (h2 : sHas cl = 0) : CtW E cL yL_knots wsL_knots ({ frames := 9, cells := 1, slots := 6, locals := 152 }) [.ref x, .int y, .ref oa] [(x, .inr (4, [.ref g, .ref p, .ref s, .ref kc, .ref qc, .int col, .int car, .int tur, .int pre, .int cl])), (oa, .inl (cL, 1, .inr (.inl ol)))] (some (.int 2)) [(x, .inr (4, [.ref g, .ref p, .ref s, .ref kc, .ref qc, .int col, .int car, .int tur, .int pre, .int cl])), (oa, .inl (cL, 1, .inr (.inl ol)))] := by
  refine CtW.of (cc := cL_knots) (maxL := 4) (ret := (some .int)) (hh := [(0, 9, 12, 13), (0, 9, 15, 38)]) (own := RL) (L := [(0, .ref x), (1, .int y), (2, .ref oa)]) (by decide) rfl rfl rfl (Nat.le_of_ble_eq_true rfl) rfl ?_
  intro X F Z hQ
  have i0 : ∀ w ∈ u_ws RX0 TX0 6, w ∈ wsL_knots := gsub [64, 65, 66, 67, 68, 69] rfl
  have i1 : ∀ w ∈ u_ws RX1 TX1 1, w ∈ wsL_knots := gsub [70] rfl
  have i4 : ∀ w ∈ u_ws RX4 TX4 10, w ∈ wsL_knots := gsub [54, 55, 56, 57, 58, 59, 60, 61, 62, 63] rfl
  refine h_aload_n F dL_knots_0 rfl 2 rfl ?_
  refine h_iconst (v := 0) F dL_knots_1 (by decide) ?_
  refine h_aload_n F dL_knots_2 rfl 0 rfl ?_
  refine h_iload_n F dL_knots_3 rfl 1 rfl ?_
  refine h_xcatch (ws' := [(x, .inr (4, [.ref g, .ref p, .ref s, .ref kc, .ref qc, .int col, .int car, .int tur, .int pre, .int cl])), (oa, .inl (cL, 1, .inr (.inl ol)))]) F Z dL_knots_4 (x_X4_knots_2 E x g p s kc qc col car tur pre cl y (h0) (h1) (h2)) rfl gL_knots_X4_knots 0 rfl rfl kV_X4_knots rfl ⟨by decide, by decide⟩ [0] rfl (by decide +kernel) rfl (Nat.le_of_ble_eq_true rfl) ⟨by decide, by decide⟩ [(0, 9, 12, 13)] [] (0, 9, 15, 38) rfl (fun z hz => by obtain rfl := List.mem_singleton.mp hz; exact ⟨by decide, _, (List.mem_of_getElem? (i := 1) rfl), List.mem_of_getElem? (i := 1) rfl⟩) (by decide) (by decide) (List.mem_of_getElem? (i := 2) rfl) (List.mem_of_getElem? (i := 2) rfl) (fun q4 => ?_)
  refine h_astore_n (L' := [(0, .ref x), (1, .int y), (2, .ref oa), (3, .ref q4)]) F dL_knots_15 rfl (by decide) [1, 2, 3, 0] rfl ?_
  refine h_iconst (v := 2) F dL_knots_16 (by decide) ?_
  refine g_cs (cells' := 1) (slots' := 6) (by show 0 + 1 ≤ 1; omega) (by show 0 + 6 ≤ 6; omega) ?_
  exact h_iret F hQ dL_knots_17 (rfl) (rfl)

set_option maxHeartbeats 4000000 in
set_option maxRecDepth 100000 in
theorem w_L_thread (E : gE) (cL : ClassId) (x : Nat) (g : Nat) (p : Nat) (s : Nat) (sa : Nat) (kc : Nat) (kd : Nat) (kd1 : Nat) (kd2 : Nat) (kd3 : Nat) (kd4 : Nat) (kw : Nat) (kwa : Nat) (kca : Nat) (kcb : Nat) (kr : Nat) (kra : Nat) (ku : Nat) (qc : Nat) (th : AF) (kt : AF) (kso : AF) (kst : AF) (ksh : AF) (kfw : AF) (kfc : AF) (kfr : AF) (kfu : AF) (koff : Int32) (col : Int32) (car : Int32) (tur : Int32) (pre : Int32) (cl : Int32) (kb : Nat) (c : Int32) (w : Int32) (oa : Nat) (ol : Nat → Int64) (h0 : ¬ c < 0) (h1 : c ≤ 5) (h2 : ¬ w < 0) (h3 : w ≤ 2) : CtW E cL yL_thread wsL_thread ({ frames := 9, cells := 0, slots := 0, locals := 153 }) [.ref x, .int c, .int w, .ref oa] [(x, .inr (4, [.ref g, .ref p, .ref s, .ref kc, .ref qc, .int col, .int car, .int tur, .int pre, .int cl])), (s, .inr (3, [.ref sa])), (sa, .inl (E.2.2, 6, .inl th)), (kc, .inr (0, [.ref kd, .ref kw, .ref kca, .ref kr, .ref ku, .int koff])), (kd, .inr (2, [.ref kd1, .ref kd2, .ref kd3, .ref kd4, .int (nI kb)])), (kd1, .inl (E.2.2, 256, .inl kt)), (kd2, .inl (E.2.2, 96, .inl kso)), (kd3, .inl (E.2.2, 6, .inl kst)), (kd4, .inl (E.2.2, 6, .inl ksh)), (kw, .inr (1, [.ref kwa])), (kwa, .inl (E.2.2, 96, .inl kfw)), (kca, .inr (1, [.ref kcb])), (kcb, .inl (E.2.2, 96, .inl kfc)), (kr, .inr (1, [.ref kra])), (kra, .inl (E.2.2, 96, .inl kfr)), (ku, .inl (E.2.2, 6, .inl kfu)), (oa, .inl (cL, 1, .inr (.inl ol)))] (some (.int 0)) [(x, .inr (4, [.ref g, .ref p, .ref s, .ref kc, .ref qc, .int col, .int car, .int tur, .int pre, .int cl])), (s, .inr (3, [.ref sa])), (sa, .inl (E.2.2, 6, .inl th)), (kc, .inr (0, [.ref kd, .ref kw, .ref kca, .ref kr, .ref ku, .int koff])), (kd, .inr (2, [.ref kd1, .ref kd2, .ref kd3, .ref kd4, .int (nI kb)])), (kd1, .inl (E.2.2, 256, .inl kt)), (kd2, .inl (E.2.2, 96, .inl kso)), (kd3, .inl (E.2.2, 6, .inl kst)), (kd4, .inl (E.2.2, 6, .inl ksh)), (kw, .inr (1, [.ref kwa])), (kwa, .inl (E.2.2, 96, .inl kfw)), (kca, .inr (1, [.ref kcb])), (kcb, .inl (E.2.2, 96, .inl kfc)), (kr, .inr (1, [.ref kra])), (kra, .inl (E.2.2, 96, .inl kfr)), (ku, .inl (E.2.2, 6, .inl kfu)), (oa, .inl (cL, 1, .inr (.inl (vp_updL ol (0 : Int32).toNatClampNeg (sThr th kfu ksh kb cl c w).toInt64))))] := by
  refine CtW.of (cc := cL_thread) (maxL := 5) (ret := (some .int)) (hh := [(0, 10, 13, 13)]) (own := RL) (L := [(0, .ref x), (1, .int c), (2, .int w), (3, .ref oa)]) (by decide) rfl rfl rfl (Nat.le_of_ble_eq_true rfl) rfl ?_
  intro X F Z hQ
  have i0 : ∀ w ∈ u_ws RX0 TX0 6, w ∈ wsL_thread := gsub [59, 60, 61, 62, 63, 64] rfl
  have i2 : ∀ w ∈ u_ws RX2 TX2 5, w ∈ wsL_thread := gsub [65, 66, 67, 68, 69] rfl
  have i3 : ∀ w ∈ u_ws RX3 TX3 1, w ∈ wsL_thread := gsub [58] rfl
  have i4 : ∀ w ∈ u_ws RX4 TX4 10, w ∈ wsL_thread := gsub [48, 49, 50, 51, 52, 53, 54, 55, 56, 57] rfl
  refine h_aload_n F dL_thread_0 rfl 3 rfl ?_
  refine h_iconst (v := 0) F dL_thread_1 (by decide) ?_
  refine h_aload_n F dL_thread_2 rfl 0 rfl ?_
  refine h_iload_n F dL_thread_3 rfl 1 rfl ?_
  refine h_iload_n F dL_thread_4 rfl 2 rfl ?_
  refine h_callV (ws' := [(x, .inr (4, [.ref g, .ref p, .ref s, .ref kc, .ref qc, .int col, .int car, .int tur, .int pre, .int cl])), (s, .inr (3, [.ref sa])), (sa, .inl (E.2.2, 6, .inl th)), (kc, .inr (0, [.ref kd, .ref kw, .ref kca, .ref kr, .ref ku, .int koff])), (kd, .inr (2, [.ref kd1, .ref kd2, .ref kd3, .ref kd4, .int (nI kb)])), (kd1, .inl (E.2.2, 256, .inl kt)), (kd2, .inl (E.2.2, 96, .inl kso)), (kd3, .inl (E.2.2, 6, .inl kst)), (kd4, .inl (E.2.2, 6, .inl ksh)), (kw, .inr (1, [.ref kwa])), (kwa, .inl (E.2.2, 96, .inl kfw)), (kca, .inr (1, [.ref kcb])), (kcb, .inl (E.2.2, 96, .inl kfc)), (kr, .inr (1, [.ref kra])), (kra, .inl (E.2.2, 96, .inl kfr)), (ku, .inl (E.2.2, 6, .inl kfu)), (oa, .inl (cL, 1, .inr (.inl ol)))]) F dL_thread_5 (c_X4_thread E x g p s sa kc kd kd1 kd2 kd3 kd4 kw kwa kca kcb kr kra ku qc th kt kso kst ksh kfw kfc kfr kfu koff col car tur pre cl kb c w (h0) (h1) (h2) (h3)) rfl gL_thread_X4_thread 0 rfl rfl kV_X4_thread ⟨by decide, by decide⟩ [0, 1, 2, 3, 4, 5, 6, 7, 8, 9, 10, 11, 12, 13, 14, 15] rfl (by decide +kernel) rfl rfl (Nat.le_of_ble_eq_true rfl) ⟨by decide, by decide⟩ ?_
  refine h_i2l (v := (sThr th kfu ksh kb cl c w).toInt64) F dL_thread_8 rfl ?_
  refine h_last (ws' := [(x, .inr (4, [.ref g, .ref p, .ref s, .ref kc, .ref qc, .int col, .int car, .int tur, .int pre, .int cl])), (s, .inr (3, [.ref sa])), (sa, .inl (E.2.2, 6, .inl th)), (kc, .inr (0, [.ref kd, .ref kw, .ref kca, .ref kr, .ref ku, .int koff])), (kd, .inr (2, [.ref kd1, .ref kd2, .ref kd3, .ref kd4, .int (nI kb)])), (kd1, .inl (E.2.2, 256, .inl kt)), (kd2, .inl (E.2.2, 96, .inl kso)), (kd3, .inl (E.2.2, 6, .inl kst)), (kd4, .inl (E.2.2, 6, .inl ksh)), (kw, .inr (1, [.ref kwa])), (kwa, .inl (E.2.2, 96, .inl kfw)), (kca, .inr (1, [.ref kcb])), (kcb, .inl (E.2.2, 96, .inl kfc)), (kr, .inr (1, [.ref kra])), (kra, .inl (E.2.2, 96, .inl kfr)), (ku, .inl (E.2.2, 6, .inl kfu)), (oa, .inl (cL, 1, .inr (.inl (vp_updL ol (0 : Int32).toNatClampNeg ((sThr th kfu ksh kb cl c w).toInt64)))))]) F Z dL_thread_9 16 rfl (by unfold vp_in; decide) rfl ?_
  refine h_goto (tgt := 17) F dL_thread_10 (by decide) ?_
  refine h_iconst (v := 0) F dL_thread_17 (by decide) ?_
  exact h_iret F hQ dL_thread_18 (rfl) (rfl)

set_option maxHeartbeats 4000000 in
set_option maxRecDepth 100000 in
theorem v_L_thread_1 (E : gE) (cL : ClassId) (x : Nat) (g : Nat) (p : Nat) (s : Nat) (kc : Nat) (qc : Nat) (col : Int32) (car : Int32) (tur : Int32) (pre : Int32) (cl : Int32) (c : Int32) (w : Int32) (oa : Nat) (ol : Nat → Int64) (h0 : ¬ (¬ c < 0 ∧ c ≤ 5)) : CtW E cL yL_thread wsL_thread ({ frames := 9, cells := 1, slots := 6, locals := 153 }) [.ref x, .int c, .int w, .ref oa] [(x, .inr (4, [.ref g, .ref p, .ref s, .ref kc, .ref qc, .int col, .int car, .int tur, .int pre, .int cl])), (oa, .inl (cL, 1, .inr (.inl ol)))] (some (.int 1)) [(x, .inr (4, [.ref g, .ref p, .ref s, .ref kc, .ref qc, .int col, .int car, .int tur, .int pre, .int cl])), (oa, .inl (cL, 1, .inr (.inl ol)))] := by
  refine CtW.of (cc := cL_thread) (maxL := 5) (ret := (some .int)) (hh := [(0, 10, 13, 13)]) (own := RL) (L := [(0, .ref x), (1, .int c), (2, .int w), (3, .ref oa)]) (by decide) rfl rfl rfl (Nat.le_of_ble_eq_true rfl) rfl ?_
  intro X F Z hQ
  have i0 : ∀ w ∈ u_ws RX0 TX0 6, w ∈ wsL_thread := gsub [59, 60, 61, 62, 63, 64] rfl
  have i2 : ∀ w ∈ u_ws RX2 TX2 5, w ∈ wsL_thread := gsub [65, 66, 67, 68, 69] rfl
  have i3 : ∀ w ∈ u_ws RX3 TX3 1, w ∈ wsL_thread := gsub [58] rfl
  have i4 : ∀ w ∈ u_ws RX4 TX4 10, w ∈ wsL_thread := gsub [48, 49, 50, 51, 52, 53, 54, 55, 56, 57] rfl
  refine h_aload_n F dL_thread_0 rfl 3 rfl ?_
  refine h_iconst (v := 0) F dL_thread_1 (by decide) ?_
  refine h_aload_n F dL_thread_2 rfl 0 rfl ?_
  refine h_iload_n F dL_thread_3 rfl 1 rfl ?_
  refine h_iload_n F dL_thread_4 rfl 2 rfl ?_
  refine h_xcatch (ws' := [(x, .inr (4, [.ref g, .ref p, .ref s, .ref kc, .ref qc, .int col, .int car, .int tur, .int pre, .int cl])), (oa, .inl (cL, 1, .inr (.inl ol)))]) F Z dL_thread_5 (x_X4_thread_1 E x g p s kc qc col car tur pre cl c w (h0)) rfl gL_thread_X4_thread 0 rfl rfl kV_X4_thread rfl ⟨by decide, by decide⟩ [0] rfl (by decide +kernel) rfl (Nat.le_of_ble_eq_true rfl) ⟨by decide, by decide⟩ [] [] (0, 10, 13, 13) rfl (fun z hz => nomatch hz) (by decide) (by decide) (List.mem_of_getElem? (i := 1) rfl) (List.mem_of_getElem? (i := 0) rfl) (fun q5 => ?_)
  refine h_astore (L' := [(0, .ref x), (1, .int c), (2, .int w), (3, .ref oa), (4, .ref q5)]) F dL_thread_13 (by decide) [1, 2, 3, 4, 0] rfl ?_
  refine h_iconst (v := 1) F dL_thread_15 (by decide) ?_
  refine g_cs (cells' := 1) (slots' := 6) (by show 0 + 1 ≤ 1; omega) (by show 0 + 6 ≤ 6; omega) ?_
  exact h_iret F hQ dL_thread_16 (rfl) (rfl)

set_option maxHeartbeats 4000000 in
set_option maxRecDepth 100000 in
theorem v_L_thread_2 (E : gE) (cL : ClassId) (x : Nat) (g : Nat) (p : Nat) (s : Nat) (kc : Nat) (qc : Nat) (col : Int32) (car : Int32) (tur : Int32) (pre : Int32) (cl : Int32) (c : Int32) (w : Int32) (oa : Nat) (ol : Nat → Int64) (h0 : ¬ c < 0) (h1 : c ≤ 5) (h2 : ¬ (¬ w < 0 ∧ w ≤ 2)) : CtW E cL yL_thread wsL_thread ({ frames := 9, cells := 1, slots := 6, locals := 153 }) [.ref x, .int c, .int w, .ref oa] [(x, .inr (4, [.ref g, .ref p, .ref s, .ref kc, .ref qc, .int col, .int car, .int tur, .int pre, .int cl])), (oa, .inl (cL, 1, .inr (.inl ol)))] (some (.int 1)) [(x, .inr (4, [.ref g, .ref p, .ref s, .ref kc, .ref qc, .int col, .int car, .int tur, .int pre, .int cl])), (oa, .inl (cL, 1, .inr (.inl ol)))] := by
  refine CtW.of (cc := cL_thread) (maxL := 5) (ret := (some .int)) (hh := [(0, 10, 13, 13)]) (own := RL) (L := [(0, .ref x), (1, .int c), (2, .int w), (3, .ref oa)]) (by decide) rfl rfl rfl (Nat.le_of_ble_eq_true rfl) rfl ?_
  intro X F Z hQ
  have i0 : ∀ w ∈ u_ws RX0 TX0 6, w ∈ wsL_thread := gsub [59, 60, 61, 62, 63, 64] rfl
  have i2 : ∀ w ∈ u_ws RX2 TX2 5, w ∈ wsL_thread := gsub [65, 66, 67, 68, 69] rfl
  have i3 : ∀ w ∈ u_ws RX3 TX3 1, w ∈ wsL_thread := gsub [58] rfl
  have i4 : ∀ w ∈ u_ws RX4 TX4 10, w ∈ wsL_thread := gsub [48, 49, 50, 51, 52, 53, 54, 55, 56, 57] rfl
  refine h_aload_n F dL_thread_0 rfl 3 rfl ?_
  refine h_iconst (v := 0) F dL_thread_1 (by decide) ?_
  refine h_aload_n F dL_thread_2 rfl 0 rfl ?_
  refine h_iload_n F dL_thread_3 rfl 1 rfl ?_
  refine h_iload_n F dL_thread_4 rfl 2 rfl ?_
  refine h_xcatch (ws' := [(x, .inr (4, [.ref g, .ref p, .ref s, .ref kc, .ref qc, .int col, .int car, .int tur, .int pre, .int cl])), (oa, .inl (cL, 1, .inr (.inl ol)))]) F Z dL_thread_5 (x_X4_thread_2 E x g p s kc qc col car tur pre cl c w (h0) (h1) (h2)) rfl gL_thread_X4_thread 0 rfl rfl kV_X4_thread rfl ⟨by decide, by decide⟩ [0] rfl (by decide +kernel) rfl (Nat.le_of_ble_eq_true rfl) ⟨by decide, by decide⟩ [] [] (0, 10, 13, 13) rfl (fun z hz => nomatch hz) (by decide) (by decide) (List.mem_of_getElem? (i := 1) rfl) (List.mem_of_getElem? (i := 0) rfl) (fun q5 => ?_)
  refine h_astore (L' := [(0, .ref x), (1, .int c), (2, .int w), (3, .ref oa), (4, .ref q5)]) F dL_thread_13 (by decide) [1, 2, 3, 4, 0] rfl ?_
  refine h_iconst (v := 1) F dL_thread_15 (by decide) ?_
  refine g_cs (cells' := 1) (slots' := 6) (by show 0 + 1 ≤ 1; omega) (by show 0 + 6 ≤ 6; omega) ?_
  exact h_iret F hQ dL_thread_16 (rfl) (rfl)

set_option maxHeartbeats 4000000 in
set_option maxRecDepth 100000 in
theorem w_L_count (E : gE) (cL : ClassId) (x : Nat) (g : Nat) (p : Nat) (s : Nat) (sa : Nat) (kc : Nat) (kd : Nat) (kd1 : Nat) (kd2 : Nat) (kd3 : Nat) (kd4 : Nat) (kw : Nat) (kwa : Nat) (kca : Nat) (kcb : Nat) (kr : Nat) (kra : Nat) (ku : Nat) (qc : Nat) (th : AF) (kt : AF) (kso : AF) (kst : AF) (ksh : AF) (kfw : AF) (kfc : AF) (kfr : AF) (kfu : AF) (koff : Int32) (col : Int32) (car : Int32) (tur : Int32) (pre : Int32) (cl : Int32) (kb : Nat) (k : Nat) (oa : Nat) (ol : Nat → Int64) (hk : k < 8) : CtW E cL yL_count wsL_count ({ frames := 8, cells := 0, slots := 0, locals := 152 }) [.ref x, .int (nI k), .ref oa] [(x, .inr (4, [.ref g, .ref p, .ref s, .ref kc, .ref qc, .int col, .int car, .int tur, .int pre, .int cl])), (s, .inr (3, [.ref sa])), (sa, .inl (E.2.2, 6, .inl th)), (kc, .inr (0, [.ref kd, .ref kw, .ref kca, .ref kr, .ref ku, .int koff])), (kd, .inr (2, [.ref kd1, .ref kd2, .ref kd3, .ref kd4, .int (nI kb)])), (kd1, .inl (E.2.2, 256, .inl kt)), (kd2, .inl (E.2.2, 96, .inl kso)), (kd3, .inl (E.2.2, 6, .inl kst)), (kd4, .inl (E.2.2, 6, .inl ksh)), (kw, .inr (1, [.ref kwa])), (kwa, .inl (E.2.2, 96, .inl kfw)), (kca, .inr (1, [.ref kcb])), (kcb, .inl (E.2.2, 96, .inl kfc)), (kr, .inr (1, [.ref kra])), (kra, .inl (E.2.2, 96, .inl kfr)), (ku, .inl (E.2.2, 6, .inl kfu)), (oa, .inl (cL, 1, .inr (.inl ol)))] (some (.int 0)) [(x, .inr (4, [.ref g, .ref p, .ref s, .ref kc, .ref qc, .int col, .int car, .int tur, .int pre, .int cl])), (s, .inr (3, [.ref sa])), (sa, .inl (E.2.2, 6, .inl th)), (kc, .inr (0, [.ref kd, .ref kw, .ref kca, .ref kr, .ref ku, .int koff])), (kd, .inr (2, [.ref kd1, .ref kd2, .ref kd3, .ref kd4, .int (nI kb)])), (kd1, .inl (E.2.2, 256, .inl kt)), (kd2, .inl (E.2.2, 96, .inl kso)), (kd3, .inl (E.2.2, 6, .inl kst)), (kd4, .inl (E.2.2, 6, .inl ksh)), (kw, .inr (1, [.ref kwa])), (kwa, .inl (E.2.2, 96, .inl kfw)), (kca, .inr (1, [.ref kcb])), (kcb, .inl (E.2.2, 96, .inl kfc)), (kr, .inr (1, [.ref kra])), (kra, .inl (E.2.2, 96, .inl kfr)), (ku, .inl (E.2.2, 6, .inl kfu)), (oa, .inl (cL, 1, .inr (.inl (vp_updL ol (0 : Int32).toNatClampNeg (sCnt col car tur pre cl th kfw kfr koff k).toInt64))))] := by
  refine CtW.of (cc := cL_count) (maxL := 4) (ret := (some .int)) (hh := [(0, 9, 12, 13)]) (own := RL) (L := [(0, .ref x), (1, .int (nI k)), (2, .ref oa)]) (by decide) rfl rfl rfl (Nat.le_of_ble_eq_true rfl) rfl ?_
  intro X F Z hQ
  have i0 : ∀ w ∈ u_ws RX0 TX0 6, w ∈ wsL_count := gsub [82, 83, 84, 85, 86, 87] rfl
  have i1 : ∀ w ∈ u_ws RX1 TX1 1, w ∈ wsL_count := gsub [88] rfl
  have i3 : ∀ w ∈ u_ws RX3 TX3 1, w ∈ wsL_count := gsub [81] rfl
  have i4 : ∀ w ∈ u_ws RX4 TX4 10, w ∈ wsL_count := gsub [71, 72, 73, 74, 75, 76, 77, 78, 79, 80] rfl
  refine h_aload_n F dL_count_0 rfl 2 rfl ?_
  refine h_iconst (v := 0) F dL_count_1 (by decide) ?_
  refine h_aload_n F dL_count_2 rfl 0 rfl ?_
  refine h_iload_n F dL_count_3 rfl 1 rfl ?_
  refine h_callV (ws' := [(x, .inr (4, [.ref g, .ref p, .ref s, .ref kc, .ref qc, .int col, .int car, .int tur, .int pre, .int cl])), (s, .inr (3, [.ref sa])), (sa, .inl (E.2.2, 6, .inl th)), (kc, .inr (0, [.ref kd, .ref kw, .ref kca, .ref kr, .ref ku, .int koff])), (kd, .inr (2, [.ref kd1, .ref kd2, .ref kd3, .ref kd4, .int (nI kb)])), (kd1, .inl (E.2.2, 256, .inl kt)), (kd2, .inl (E.2.2, 96, .inl kso)), (kd3, .inl (E.2.2, 6, .inl kst)), (kd4, .inl (E.2.2, 6, .inl ksh)), (kw, .inr (1, [.ref kwa])), (kwa, .inl (E.2.2, 96, .inl kfw)), (kca, .inr (1, [.ref kcb])), (kcb, .inl (E.2.2, 96, .inl kfc)), (kr, .inr (1, [.ref kra])), (kra, .inl (E.2.2, 96, .inl kfr)), (ku, .inl (E.2.2, 6, .inl kfu)), (oa, .inl (cL, 1, .inr (.inl ol)))]) F dL_count_4 (c_X4_count E x g p s sa kc kd kd1 kd2 kd3 kd4 kw kwa kca kcb kr kra ku qc th kt kso kst ksh kfw kfc kfr kfu koff col car tur pre cl kb k (hk)) rfl gL_count_X4_count 0 rfl rfl kV_X4_count ⟨by decide, by decide⟩ [0, 1, 2, 3, 4, 5, 6, 7, 8, 9, 10, 11, 12, 13, 14, 15] rfl (by decide +kernel) rfl rfl (Nat.le_of_ble_eq_true rfl) ⟨by decide, by decide⟩ ?_
  refine h_i2l (v := (sCnt col car tur pre cl th kfw kfr koff k).toInt64) F dL_count_7 rfl ?_
  refine h_last (ws' := [(x, .inr (4, [.ref g, .ref p, .ref s, .ref kc, .ref qc, .int col, .int car, .int tur, .int pre, .int cl])), (s, .inr (3, [.ref sa])), (sa, .inl (E.2.2, 6, .inl th)), (kc, .inr (0, [.ref kd, .ref kw, .ref kca, .ref kr, .ref ku, .int koff])), (kd, .inr (2, [.ref kd1, .ref kd2, .ref kd3, .ref kd4, .int (nI kb)])), (kd1, .inl (E.2.2, 256, .inl kt)), (kd2, .inl (E.2.2, 96, .inl kso)), (kd3, .inl (E.2.2, 6, .inl kst)), (kd4, .inl (E.2.2, 6, .inl ksh)), (kw, .inr (1, [.ref kwa])), (kwa, .inl (E.2.2, 96, .inl kfw)), (kca, .inr (1, [.ref kcb])), (kcb, .inl (E.2.2, 96, .inl kfc)), (kr, .inr (1, [.ref kra])), (kra, .inl (E.2.2, 96, .inl kfr)), (ku, .inl (E.2.2, 6, .inl kfu)), (oa, .inl (cL, 1, .inr (.inl (vp_updL ol (0 : Int32).toNatClampNeg ((sCnt col car tur pre cl th kfw kfr koff k).toInt64)))))]) F Z dL_count_8 16 rfl (by unfold vp_in; decide) rfl ?_
  refine h_goto (tgt := 15) F dL_count_9 (by decide) ?_
  refine h_iconst (v := 0) F dL_count_15 (by decide) ?_
  exact h_iret F hQ dL_count_16 (rfl) (rfl)

set_option maxHeartbeats 4000000 in
set_option maxRecDepth 100000 in
theorem v_L_count (E : gE) (cL : ClassId) (x : Nat) (g : Nat) (p : Nat) (s : Nat) (kc : Nat) (qc : Nat) (col : Int32) (car : Int32) (tur : Int32) (pre : Int32) (cl : Int32) (n : Int32) (oa : Nat) (ol : Nat → Int64) (h0 : ¬ (¬ n < 0 ∧ n ≤ 7)) : CtW E cL yL_count wsL_count ({ frames := 8, cells := 1, slots := 6, locals := 152 }) [.ref x, .int n, .ref oa] [(x, .inr (4, [.ref g, .ref p, .ref s, .ref kc, .ref qc, .int col, .int car, .int tur, .int pre, .int cl])), (oa, .inl (cL, 1, .inr (.inl ol)))] (some (.int 1)) [(x, .inr (4, [.ref g, .ref p, .ref s, .ref kc, .ref qc, .int col, .int car, .int tur, .int pre, .int cl])), (oa, .inl (cL, 1, .inr (.inl ol)))] := by
  refine CtW.of (cc := cL_count) (maxL := 4) (ret := (some .int)) (hh := [(0, 9, 12, 13)]) (own := RL) (L := [(0, .ref x), (1, .int n), (2, .ref oa)]) (by decide) rfl rfl rfl (Nat.le_of_ble_eq_true rfl) rfl ?_
  intro X F Z hQ
  have i0 : ∀ w ∈ u_ws RX0 TX0 6, w ∈ wsL_count := gsub [82, 83, 84, 85, 86, 87] rfl
  have i1 : ∀ w ∈ u_ws RX1 TX1 1, w ∈ wsL_count := gsub [88] rfl
  have i3 : ∀ w ∈ u_ws RX3 TX3 1, w ∈ wsL_count := gsub [81] rfl
  have i4 : ∀ w ∈ u_ws RX4 TX4 10, w ∈ wsL_count := gsub [71, 72, 73, 74, 75, 76, 77, 78, 79, 80] rfl
  refine h_aload_n F dL_count_0 rfl 2 rfl ?_
  refine h_iconst (v := 0) F dL_count_1 (by decide) ?_
  refine h_aload_n F dL_count_2 rfl 0 rfl ?_
  refine h_iload_n F dL_count_3 rfl 1 rfl ?_
  refine h_xcatch (ws' := [(x, .inr (4, [.ref g, .ref p, .ref s, .ref kc, .ref qc, .int col, .int car, .int tur, .int pre, .int cl])), (oa, .inl (cL, 1, .inr (.inl ol)))]) F Z dL_count_4 (x_X4_count E x g p s kc qc col car tur pre cl n (h0)) rfl gL_count_X4_count 0 rfl rfl kV_X4_count rfl ⟨by decide, by decide⟩ [0] rfl (by decide +kernel) rfl (Nat.le_of_ble_eq_true rfl) ⟨by decide, by decide⟩ [] [] (0, 9, 12, 13) rfl (fun z hz => nomatch hz) (by decide) (by decide) (List.mem_of_getElem? (i := 1) rfl) (List.mem_of_getElem? (i := 0) rfl) (fun q4 => ?_)
  refine h_astore_n (L' := [(0, .ref x), (1, .int n), (2, .ref oa), (3, .ref q4)]) F dL_count_12 rfl (by decide) [1, 2, 3, 0] rfl ?_
  refine h_iconst (v := 1) F dL_count_13 (by decide) ?_
  refine g_cs (cells' := 1) (slots' := 6) (by show 0 + 1 ≤ 1; omega) (by show 0 + 6 ≤ 6; omega) ?_
  exact h_iret F hQ dL_count_14 (rfl) (rfl)

set_option maxHeartbeats 4000000 in
set_option maxRecDepth 100000 in
theorem w_L_would (E : gE) (cL : ClassId) (x : Nat) (g : Nat) (ga : Nat) (p : Nat) (s : Nat) (kc : Nat) (qc : Nat) (qd : Nat) (qd1 : Nat) (qd2 : Nat) (qd3 : Nat) (qd4 : Nat) (qw : Nat) (qwa : Nat) (qca : Nat) (qcb : Nat) (qr : Nat) (qra : Nat) (qu : Nat) (f : AF) (qt : AF) (qso : AF) (qst : AF) (qsh : AF) (qfw : AF) (qfc : AF) (qfr : AF) (qfu : AF) (qbx : Int32) (qoff : Int32) (col : Int32) (car : Int32) (tur : Int32) (pre : Int32) (cl : Int32) (m : Nat) (w : Int32) (oa : Nat) (ol : Nat → Int64) (h2 : 2 ≤ m) (h6 : m ≤ 6) (h0 : ¬ w < 0) (h1 : w ≤ 2) : CtW E cL yL_would wsL_would ({ frames := 9, cells := 0, slots := 0, locals := 174 }) [.ref x, .int (nI m), .int w, .ref oa] [(x, .inr (4, [.ref g, .ref p, .ref s, .ref kc, .ref qc, .int col, .int car, .int tur, .int pre, .int cl])), (g, .inr (1, [.ref ga])), (ga, .inl (E.2.2, 96, .inl f)), (qc, .inr (0, [.ref qd, .ref qw, .ref qca, .ref qr, .ref qu, .int qoff])), (qd, .inr (2, [.ref qd1, .ref qd2, .ref qd3, .ref qd4, .int qbx])), (qd1, .inl (E.2.2, 256, .inl qt)), (qd2, .inl (E.2.2, 96, .inl qso)), (qd3, .inl (E.2.2, 6, .inl qst)), (qd4, .inl (E.2.2, 6, .inl qsh)), (qw, .inr (1, [.ref qwa])), (qwa, .inl (E.2.2, 96, .inl qfw)), (qca, .inr (1, [.ref qcb])), (qcb, .inl (E.2.2, 96, .inl qfc)), (qr, .inr (1, [.ref qra])), (qra, .inl (E.2.2, 96, .inl qfr)), (qu, .inl (E.2.2, 6, .inl qfu)), (oa, .inl (cL, 1, .inr (.inl ol)))] (some (.int 0)) [(x, .inr (4, [.ref g, .ref p, .ref s, .ref kc, .ref qc, .int col, .int car, .int tur, .int pre, .int cl])), (g, .inr (1, [.ref ga])), (ga, .inl (E.2.2, 96, .inl f)), (qc, .inr (0, [.ref qd, .ref qw, .ref qca, .ref qr, .ref qu, .int ((sMake f m car tur qso qst qsh qfw qfc qfu qfr).1.2.2.2)])), (qd, .inr (2, [.ref qd1, .ref qd2, .ref qd3, .ref qd4, .int (nI (sFitF f qso qst m).2)])), (qd1, .inl (E.2.2, 256, .inl (sTally f qt))), (qd2, .inl (E.2.2, 96, .inl (sSorted f qso))), (qd3, .inl (E.2.2, 6, .inl ((sFitF f qso qst m).1))), (qd4, .inl (E.2.2, 6, .inl (sMnsF f qso qst qsh m))), (qw, .inr (1, [.ref qwa])), (qwa, .inl (E.2.2, 96, .inl ((sMake f m car tur qso qst qsh qfw qfc qfu qfr).1.1))), (qca, .inr (1, [.ref qcb])), (qcb, .inl (E.2.2, 96, .inl ((sMake f m car tur qso qst qsh qfw qfc qfu qfr).1.2.1))), (qr, .inr (1, [.ref qra])), (qra, .inl (E.2.2, 96, .inl ((sMake f m car tur qso qst qsh qfw qfc qfu qfr).2))), (qu, .inl (E.2.2, 6, .inl ((sMake f m car tur qso qst qsh qfw qfc qfu qfr).1.2.2.1))), (oa, .inl (cL, 1, .inr (.inl (vp_updL ol (0 : Int32).toNatClampNeg (sWould (sMakeS f m car tur (qt, qso, qst, qsh, qbx, qfw, qfc, qfr, qfu, qoff)) pre w).toInt64))))] := by
  refine CtW.of (cc := cL_would) (maxL := 5) (ret := (some .int)) (hh := [(0, 10, 13, 15), (0, 10, 17, 13)]) (own := RL) (L := [(0, .ref x), (1, .int (nI m)), (2, .int w), (3, .ref oa)]) (by decide) rfl rfl rfl (Nat.le_of_ble_eq_true rfl) rfl ?_
  intro X F Z hQ
  have i0 : ∀ w ∈ u_ws RX0 TX0 6, w ∈ wsL_would := gsub [176, 177, 178, 179, 180, 181] rfl
  have i1 : ∀ w ∈ u_ws RX1 TX1 1, w ∈ wsL_would := gsub [187] rfl
  have i2 : ∀ w ∈ u_ws RX2 TX2 5, w ∈ wsL_would := gsub [182, 183, 184, 185, 186] rfl
  have i4 : ∀ w ∈ u_ws RX4 TX4 10, w ∈ wsL_would := gsub [166, 167, 168, 169, 170, 171, 172, 173, 174, 175] rfl
  refine h_aload_n F dL_would_0 rfl 3 rfl ?_
  refine h_iconst (v := 0) F dL_would_1 (by decide) ?_
  refine h_aload_n F dL_would_2 rfl 0 rfl ?_
  refine h_iload_n F dL_would_3 rfl 1 rfl ?_
  refine h_iload_n F dL_would_4 rfl 2 rfl ?_
  refine h_callV (ws' := [(x, .inr (4, [.ref g, .ref p, .ref s, .ref kc, .ref qc, .int col, .int car, .int tur, .int pre, .int cl])), (g, .inr (1, [.ref ga])), (ga, .inl (E.2.2, 96, .inl f)), (qc, .inr (0, [.ref qd, .ref qw, .ref qca, .ref qr, .ref qu, .int ((sMake f m car tur qso qst qsh qfw qfc qfu qfr).1.2.2.2)])), (qd, .inr (2, [.ref qd1, .ref qd2, .ref qd3, .ref qd4, .int (nI (sFitF f qso qst m).2)])), (qd1, .inl (E.2.2, 256, .inl (sTally f qt))), (qd2, .inl (E.2.2, 96, .inl (sSorted f qso))), (qd3, .inl (E.2.2, 6, .inl ((sFitF f qso qst m).1))), (qd4, .inl (E.2.2, 6, .inl (sMnsF f qso qst qsh m))), (qw, .inr (1, [.ref qwa])), (qwa, .inl (E.2.2, 96, .inl ((sMake f m car tur qso qst qsh qfw qfc qfu qfr).1.1))), (qca, .inr (1, [.ref qcb])), (qcb, .inl (E.2.2, 96, .inl ((sMake f m car tur qso qst qsh qfw qfc qfu qfr).1.2.1))), (qr, .inr (1, [.ref qra])), (qra, .inl (E.2.2, 96, .inl ((sMake f m car tur qso qst qsh qfw qfc qfu qfr).2))), (qu, .inl (E.2.2, 6, .inl ((sMake f m car tur qso qst qsh qfw qfc qfu qfr).1.2.2.1))), (oa, .inl (cL, 1, .inr (.inl ol)))]) F dL_would_5 (c_X4_would E x g ga p s kc qc qd qd1 qd2 qd3 qd4 qw qwa qca qcb qr qra qu f qt qso qst qsh qfw qfc qfr qfu qbx qoff col car tur pre cl m w (h2) (h6) (h0) (h1)) rfl gL_would_X4_would 0 rfl rfl kV_X4_would ⟨by decide, by decide⟩ [0, 1, 2, 3, 4, 5, 6, 7, 8, 9, 10, 11, 12, 13, 14, 15] rfl (by decide +kernel) rfl rfl (Nat.le_of_ble_eq_true rfl) ⟨by decide, by decide⟩ ?_
  refine h_i2l (v := (sWould (sMakeS f m car tur (qt, qso, qst, qsh, qbx, qfw, qfc, qfr, qfu, qoff)) pre w).toInt64) F dL_would_8 rfl ?_
  refine h_last (ws' := [(x, .inr (4, [.ref g, .ref p, .ref s, .ref kc, .ref qc, .int col, .int car, .int tur, .int pre, .int cl])), (g, .inr (1, [.ref ga])), (ga, .inl (E.2.2, 96, .inl f)), (qc, .inr (0, [.ref qd, .ref qw, .ref qca, .ref qr, .ref qu, .int ((sMake f m car tur qso qst qsh qfw qfc qfu qfr).1.2.2.2)])), (qd, .inr (2, [.ref qd1, .ref qd2, .ref qd3, .ref qd4, .int (nI (sFitF f qso qst m).2)])), (qd1, .inl (E.2.2, 256, .inl (sTally f qt))), (qd2, .inl (E.2.2, 96, .inl (sSorted f qso))), (qd3, .inl (E.2.2, 6, .inl ((sFitF f qso qst m).1))), (qd4, .inl (E.2.2, 6, .inl (sMnsF f qso qst qsh m))), (qw, .inr (1, [.ref qwa])), (qwa, .inl (E.2.2, 96, .inl ((sMake f m car tur qso qst qsh qfw qfc qfu qfr).1.1))), (qca, .inr (1, [.ref qcb])), (qcb, .inl (E.2.2, 96, .inl ((sMake f m car tur qso qst qsh qfw qfc qfu qfr).1.2.1))), (qr, .inr (1, [.ref qra])), (qra, .inl (E.2.2, 96, .inl ((sMake f m car tur qso qst qsh qfw qfc qfu qfr).2))), (qu, .inl (E.2.2, 6, .inl ((sMake f m car tur qso qst qsh qfw qfc qfu qfr).1.2.2.1))), (oa, .inl (cL, 1, .inr (.inl (vp_updL ol (0 : Int32).toNatClampNeg ((sWould (sMakeS f m car tur (qt, qso, qst, qsh, qbx, qfw, qfc, qfr, qfu, qoff)) pre w).toInt64)))))]) F Z dL_would_9 16 rfl (by unfold vp_in; decide) rfl ?_
  refine h_goto (tgt := 21) F dL_would_10 (by decide) ?_
  refine h_iconst (v := 0) F dL_would_21 (by decide) ?_
  exact h_iret F hQ dL_would_22 (rfl) (rfl)

set_option maxHeartbeats 4000000 in
set_option maxRecDepth 100000 in
theorem v_L_would_1 (E : gE) (cL : ClassId) (x : Nat) (g : Nat) (p : Nat) (s : Nat) (kc : Nat) (qc : Nat) (col : Int32) (car : Int32) (tur : Int32) (pre : Int32) (cl : Int32) (n : Int32) (w : Int32) (oa : Nat) (ol : Nat → Int64) (h0 : ¬ (¬ n < 2 ∧ n ≤ 6)) : CtW E cL yL_would wsL_would ({ frames := 9, cells := 1, slots := 6, locals := 174 }) [.ref x, .int n, .int w, .ref oa] [(x, .inr (4, [.ref g, .ref p, .ref s, .ref kc, .ref qc, .int col, .int car, .int tur, .int pre, .int cl])), (oa, .inl (cL, 1, .inr (.inl ol)))] (some (.int 1)) [(x, .inr (4, [.ref g, .ref p, .ref s, .ref kc, .ref qc, .int col, .int car, .int tur, .int pre, .int cl])), (oa, .inl (cL, 1, .inr (.inl ol)))] := by
  refine CtW.of (cc := cL_would) (maxL := 5) (ret := (some .int)) (hh := [(0, 10, 13, 15), (0, 10, 17, 13)]) (own := RL) (L := [(0, .ref x), (1, .int n), (2, .int w), (3, .ref oa)]) (by decide) rfl rfl rfl (Nat.le_of_ble_eq_true rfl) rfl ?_
  intro X F Z hQ
  have i0 : ∀ w ∈ u_ws RX0 TX0 6, w ∈ wsL_would := gsub [176, 177, 178, 179, 180, 181] rfl
  have i1 : ∀ w ∈ u_ws RX1 TX1 1, w ∈ wsL_would := gsub [187] rfl
  have i2 : ∀ w ∈ u_ws RX2 TX2 5, w ∈ wsL_would := gsub [182, 183, 184, 185, 186] rfl
  have i4 : ∀ w ∈ u_ws RX4 TX4 10, w ∈ wsL_would := gsub [166, 167, 168, 169, 170, 171, 172, 173, 174, 175] rfl
  refine h_aload_n F dL_would_0 rfl 3 rfl ?_
  refine h_iconst (v := 0) F dL_would_1 (by decide) ?_
  refine h_aload_n F dL_would_2 rfl 0 rfl ?_
  refine h_iload_n F dL_would_3 rfl 1 rfl ?_
  refine h_iload_n F dL_would_4 rfl 2 rfl ?_
  refine h_xcatch (ws' := [(x, .inr (4, [.ref g, .ref p, .ref s, .ref kc, .ref qc, .int col, .int car, .int tur, .int pre, .int cl])), (oa, .inl (cL, 1, .inr (.inl ol)))]) F Z dL_would_5 (x_X4_would_1 E x g p s kc qc col car tur pre cl n w (h0)) rfl gL_would_X4_would 0 rfl rfl kV_X4_would rfl ⟨by decide, by decide⟩ [0] rfl (by decide +kernel) rfl (Nat.le_of_ble_eq_true rfl) ⟨by decide, by decide⟩ [] [(0, 10, 17, 13)] (0, 10, 13, 15) rfl (fun z hz => nomatch hz) (by decide) (by decide) (List.mem_of_getElem? (i := 1) rfl) (List.mem_of_getElem? (i := 1) rfl) (fun q5 => ?_)
  refine h_astore (L' := [(0, .ref x), (1, .int n), (2, .int w), (3, .ref oa), (4, .ref q5)]) F dL_would_13 (by decide) [1, 2, 3, 4, 0] rfl ?_
  refine h_iconst (v := 1) F dL_would_15 (by decide) ?_
  refine g_cs (cells' := 1) (slots' := 6) (by show 0 + 1 ≤ 1; omega) (by show 0 + 6 ≤ 6; omega) ?_
  exact h_iret F hQ dL_would_16 (rfl) (rfl)

set_option maxHeartbeats 4000000 in
set_option maxRecDepth 100000 in
theorem v_L_would_2 (E : gE) (cL : ClassId) (x : Nat) (g : Nat) (p : Nat) (s : Nat) (kc : Nat) (qc : Nat) (col : Int32) (car : Int32) (tur : Int32) (pre : Int32) (cl : Int32) (n : Int32) (w : Int32) (oa : Nat) (ol : Nat → Int64) (h0 : ¬ n < 2) (h1 : n ≤ 6) (h2 : ¬ (¬ w < 0 ∧ w ≤ 2)) : CtW E cL yL_would wsL_would ({ frames := 9, cells := 1, slots := 6, locals := 174 }) [.ref x, .int n, .int w, .ref oa] [(x, .inr (4, [.ref g, .ref p, .ref s, .ref kc, .ref qc, .int col, .int car, .int tur, .int pre, .int cl])), (oa, .inl (cL, 1, .inr (.inl ol)))] (some (.int 2)) [(x, .inr (4, [.ref g, .ref p, .ref s, .ref kc, .ref qc, .int col, .int car, .int tur, .int pre, .int cl])), (oa, .inl (cL, 1, .inr (.inl ol)))] := by
  refine CtW.of (cc := cL_would) (maxL := 5) (ret := (some .int)) (hh := [(0, 10, 13, 15), (0, 10, 17, 13)]) (own := RL) (L := [(0, .ref x), (1, .int n), (2, .int w), (3, .ref oa)]) (by decide) rfl rfl rfl (Nat.le_of_ble_eq_true rfl) rfl ?_
  intro X F Z hQ
  have i0 : ∀ w ∈ u_ws RX0 TX0 6, w ∈ wsL_would := gsub [176, 177, 178, 179, 180, 181] rfl
  have i1 : ∀ w ∈ u_ws RX1 TX1 1, w ∈ wsL_would := gsub [187] rfl
  have i2 : ∀ w ∈ u_ws RX2 TX2 5, w ∈ wsL_would := gsub [182, 183, 184, 185, 186] rfl
  have i4 : ∀ w ∈ u_ws RX4 TX4 10, w ∈ wsL_would := gsub [166, 167, 168, 169, 170, 171, 172, 173, 174, 175] rfl
  refine h_aload_n F dL_would_0 rfl 3 rfl ?_
  refine h_iconst (v := 0) F dL_would_1 (by decide) ?_
  refine h_aload_n F dL_would_2 rfl 0 rfl ?_
  refine h_iload_n F dL_would_3 rfl 1 rfl ?_
  refine h_iload_n F dL_would_4 rfl 2 rfl ?_
  refine h_xcatch (ws' := [(x, .inr (4, [.ref g, .ref p, .ref s, .ref kc, .ref qc, .int col, .int car, .int tur, .int pre, .int cl])), (oa, .inl (cL, 1, .inr (.inl ol)))]) F Z dL_would_5 (x_X4_would_2 E x g p s kc qc col car tur pre cl n w (h0) (h1) (h2)) rfl gL_would_X4_would 0 rfl rfl kV_X4_would rfl ⟨by decide, by decide⟩ [0] rfl (by decide +kernel) rfl (Nat.le_of_ble_eq_true rfl) ⟨by decide, by decide⟩ [(0, 10, 13, 15)] [] (0, 10, 17, 13) rfl (fun z hz => by obtain rfl := List.mem_singleton.mp hz; exact ⟨by decide, _, (List.mem_of_getElem? (i := 1) rfl), List.mem_of_getElem? (i := 2) rfl⟩) (by decide) (by decide) (List.mem_of_getElem? (i := 2) rfl) (List.mem_of_getElem? (i := 0) rfl) (fun q5 => ?_)
  refine h_astore (L' := [(0, .ref x), (1, .int n), (2, .int w), (3, .ref oa), (4, .ref q5)]) F dL_would_17 (by decide) [1, 2, 3, 4, 0] rfl ?_
  refine h_iconst (v := 2) F dL_would_19 (by decide) ?_
  refine g_cs (cells' := 1) (slots' := 6) (by show 0 + 1 ≤ 1; omega) (by show 0 + 6 ≤ 6; omega) ?_
  exact h_iret F hQ dL_would_20 (rfl) (rfl)

set_option maxHeartbeats 4000000 in
set_option maxRecDepth 100000 in
theorem w_L_advise (E : gE) (cL : ClassId) (x : Nat) (g : Nat) (ga : Nat) (p : Nat) (s : Nat) (kc : Nat) (qc : Nat) (qd : Nat) (qd1 : Nat) (qd2 : Nat) (qd3 : Nat) (qd4 : Nat) (qw : Nat) (qwa : Nat) (qca : Nat) (qcb : Nat) (qr : Nat) (qra : Nat) (qu : Nat) (f : AF) (qt : AF) (qso : AF) (qst : AF) (qsh : AF) (qfw : AF) (qfc : AF) (qfr : AF) (qfu : AF) (qbx : Int32) (qoff : Int32) (col : Int32) (car : Int32) (tur : Int32) (pre : Int32) (cl : Int32) (kn : Int32) (oa : Nat) (ol : Nat → Int64) (h0 : ¬ kn < 0) (h1 : kn ≤ 96) : CtW E cL yL_advise wsL_advise ({ frames := 9, cells := 0, slots := 0, locals := 177 }) [.ref x, .int kn, .ref oa] [(x, .inr (4, [.ref g, .ref p, .ref s, .ref kc, .ref qc, .int col, .int car, .int tur, .int pre, .int cl])), (g, .inr (1, [.ref ga])), (ga, .inl (E.2.2, 96, .inl f)), (qc, .inr (0, [.ref qd, .ref qw, .ref qca, .ref qr, .ref qu, .int qoff])), (qd, .inr (2, [.ref qd1, .ref qd2, .ref qd3, .ref qd4, .int qbx])), (qd1, .inl (E.2.2, 256, .inl qt)), (qd2, .inl (E.2.2, 96, .inl qso)), (qd3, .inl (E.2.2, 6, .inl qst)), (qd4, .inl (E.2.2, 6, .inl qsh)), (qw, .inr (1, [.ref qwa])), (qwa, .inl (E.2.2, 96, .inl qfw)), (qca, .inr (1, [.ref qcb])), (qcb, .inl (E.2.2, 96, .inl qfc)), (qr, .inr (1, [.ref qra])), (qra, .inl (E.2.2, 96, .inl qfr)), (qu, .inl (E.2.2, 6, .inl qfu)), (oa, .inl (cL, 1, .inr (.inl ol)))] (some (.int 0)) [(x, .inr (4, [.ref g, .ref p, .ref s, .ref kc, .ref qc, .int col, .int car, .int tur, .int pre, .int cl])), (g, .inr (1, [.ref ga])), (ga, .inl (E.2.2, 96, .inl f)), (qc, .inr (0, [.ref qd, .ref qw, .ref qca, .ref qr, .ref qu, .int (((sAdv f car tur pre kn (qt, qso, qst, qsh, qbx, qfw, qfc, qfr, qfu, qoff) 5).2.2).2.2.2.2.2.2.2.2.2)])), (qd, .inr (2, [.ref qd1, .ref qd2, .ref qd3, .ref qd4, .int (((sAdv f car tur pre kn (qt, qso, qst, qsh, qbx, qfw, qfc, qfr, qfu, qoff) 5).2.2).2.2.2.2.1)])), (qd1, .inl (E.2.2, 256, .inl (((sAdv f car tur pre kn (qt, qso, qst, qsh, qbx, qfw, qfc, qfr, qfu, qoff) 5).2.2).1))), (qd2, .inl (E.2.2, 96, .inl (((sAdv f car tur pre kn (qt, qso, qst, qsh, qbx, qfw, qfc, qfr, qfu, qoff) 5).2.2).2.1))), (qd3, .inl (E.2.2, 6, .inl (((sAdv f car tur pre kn (qt, qso, qst, qsh, qbx, qfw, qfc, qfr, qfu, qoff) 5).2.2).2.2.1))), (qd4, .inl (E.2.2, 6, .inl (((sAdv f car tur pre kn (qt, qso, qst, qsh, qbx, qfw, qfc, qfr, qfu, qoff) 5).2.2).2.2.2.1))), (qw, .inr (1, [.ref qwa])), (qwa, .inl (E.2.2, 96, .inl (((sAdv f car tur pre kn (qt, qso, qst, qsh, qbx, qfw, qfc, qfr, qfu, qoff) 5).2.2).2.2.2.2.2.1))), (qca, .inr (1, [.ref qcb])), (qcb, .inl (E.2.2, 96, .inl (((sAdv f car tur pre kn (qt, qso, qst, qsh, qbx, qfw, qfc, qfr, qfu, qoff) 5).2.2).2.2.2.2.2.2.1))), (qr, .inr (1, [.ref qra])), (qra, .inl (E.2.2, 96, .inl (((sAdv f car tur pre kn (qt, qso, qst, qsh, qbx, qfw, qfc, qfr, qfu, qoff) 5).2.2).2.2.2.2.2.2.2.1))), (qu, .inl (E.2.2, 6, .inl (((sAdv f car tur pre kn (qt, qso, qst, qsh, qbx, qfw, qfc, qfr, qfu, qoff) 5).2.2).2.2.2.2.2.2.2.2.1))), (oa, .inl (cL, 1, .inr (.inl (vp_updL ol (0 : Int32).toNatClampNeg ((sAdv f car tur pre kn (qt, qso, qst, qsh, qbx, qfw, qfc, qfr, qfu, qoff) 5).1).toInt64))))] := by
  refine CtW.of (cc := cL_advise) (maxL := 4) (ret := (some .int)) (hh := [(0, 9, 12, 15)]) (own := RL) (L := [(0, .ref x), (1, .int kn), (2, .ref oa)]) (by decide) rfl rfl rfl (Nat.le_of_ble_eq_true rfl) rfl ?_
  intro X F Z hQ
  have i0 : ∀ w ∈ u_ws RX0 TX0 6, w ∈ wsL_advise := gsub [162, 163, 164, 165, 166, 167] rfl
  have i1 : ∀ w ∈ u_ws RX1 TX1 1, w ∈ wsL_advise := gsub [173] rfl
  have i2 : ∀ w ∈ u_ws RX2 TX2 5, w ∈ wsL_advise := gsub [168, 169, 170, 171, 172] rfl
  have i4 : ∀ w ∈ u_ws RX4 TX4 10, w ∈ wsL_advise := gsub [152, 153, 154, 155, 156, 157, 158, 159, 160, 161] rfl
  refine h_aload_n F dL_advise_0 rfl 2 rfl ?_
  refine h_iconst (v := 0) F dL_advise_1 (by decide) ?_
  refine h_aload_n F dL_advise_2 rfl 0 rfl ?_
  refine h_iload_n F dL_advise_3 rfl 1 rfl ?_
  refine h_callV (ws' := [(x, .inr (4, [.ref g, .ref p, .ref s, .ref kc, .ref qc, .int col, .int car, .int tur, .int pre, .int cl])), (g, .inr (1, [.ref ga])), (ga, .inl (E.2.2, 96, .inl f)), (qc, .inr (0, [.ref qd, .ref qw, .ref qca, .ref qr, .ref qu, .int (((sAdv f car tur pre kn (qt, qso, qst, qsh, qbx, qfw, qfc, qfr, qfu, qoff) 5).2.2).2.2.2.2.2.2.2.2.2)])), (qd, .inr (2, [.ref qd1, .ref qd2, .ref qd3, .ref qd4, .int (((sAdv f car tur pre kn (qt, qso, qst, qsh, qbx, qfw, qfc, qfr, qfu, qoff) 5).2.2).2.2.2.2.1)])), (qd1, .inl (E.2.2, 256, .inl (((sAdv f car tur pre kn (qt, qso, qst, qsh, qbx, qfw, qfc, qfr, qfu, qoff) 5).2.2).1))), (qd2, .inl (E.2.2, 96, .inl (((sAdv f car tur pre kn (qt, qso, qst, qsh, qbx, qfw, qfc, qfr, qfu, qoff) 5).2.2).2.1))), (qd3, .inl (E.2.2, 6, .inl (((sAdv f car tur pre kn (qt, qso, qst, qsh, qbx, qfw, qfc, qfr, qfu, qoff) 5).2.2).2.2.1))), (qd4, .inl (E.2.2, 6, .inl (((sAdv f car tur pre kn (qt, qso, qst, qsh, qbx, qfw, qfc, qfr, qfu, qoff) 5).2.2).2.2.2.1))), (qw, .inr (1, [.ref qwa])), (qwa, .inl (E.2.2, 96, .inl (((sAdv f car tur pre kn (qt, qso, qst, qsh, qbx, qfw, qfc, qfr, qfu, qoff) 5).2.2).2.2.2.2.2.1))), (qca, .inr (1, [.ref qcb])), (qcb, .inl (E.2.2, 96, .inl (((sAdv f car tur pre kn (qt, qso, qst, qsh, qbx, qfw, qfc, qfr, qfu, qoff) 5).2.2).2.2.2.2.2.2.1))), (qr, .inr (1, [.ref qra])), (qra, .inl (E.2.2, 96, .inl (((sAdv f car tur pre kn (qt, qso, qst, qsh, qbx, qfw, qfc, qfr, qfu, qoff) 5).2.2).2.2.2.2.2.2.2.1))), (qu, .inl (E.2.2, 6, .inl (((sAdv f car tur pre kn (qt, qso, qst, qsh, qbx, qfw, qfc, qfr, qfu, qoff) 5).2.2).2.2.2.2.2.2.2.2.1))), (oa, .inl (cL, 1, .inr (.inl ol)))]) F dL_advise_4 (c_X4_advise E x g ga p s kc qc qd qd1 qd2 qd3 qd4 qw qwa qca qcb qr qra qu f qt qso qst qsh qfw qfc qfr qfu qbx qoff col car tur pre cl kn (h0) (h1)) rfl gL_advise_X4_advise 0 rfl rfl kV_X4_advise ⟨by decide, by decide⟩ [0, 1, 2, 3, 4, 5, 6, 7, 8, 9, 10, 11, 12, 13, 14, 15] rfl (by decide +kernel) rfl rfl (Nat.le_of_ble_eq_true rfl) ⟨by decide, by decide⟩ ?_
  refine h_i2l (v := ((sAdv f car tur pre kn (qt, qso, qst, qsh, qbx, qfw, qfc, qfr, qfu, qoff) 5).1).toInt64) F dL_advise_7 rfl ?_
  refine h_last (ws' := [(x, .inr (4, [.ref g, .ref p, .ref s, .ref kc, .ref qc, .int col, .int car, .int tur, .int pre, .int cl])), (g, .inr (1, [.ref ga])), (ga, .inl (E.2.2, 96, .inl f)), (qc, .inr (0, [.ref qd, .ref qw, .ref qca, .ref qr, .ref qu, .int (((sAdv f car tur pre kn (qt, qso, qst, qsh, qbx, qfw, qfc, qfr, qfu, qoff) 5).2.2).2.2.2.2.2.2.2.2.2)])), (qd, .inr (2, [.ref qd1, .ref qd2, .ref qd3, .ref qd4, .int (((sAdv f car tur pre kn (qt, qso, qst, qsh, qbx, qfw, qfc, qfr, qfu, qoff) 5).2.2).2.2.2.2.1)])), (qd1, .inl (E.2.2, 256, .inl (((sAdv f car tur pre kn (qt, qso, qst, qsh, qbx, qfw, qfc, qfr, qfu, qoff) 5).2.2).1))), (qd2, .inl (E.2.2, 96, .inl (((sAdv f car tur pre kn (qt, qso, qst, qsh, qbx, qfw, qfc, qfr, qfu, qoff) 5).2.2).2.1))), (qd3, .inl (E.2.2, 6, .inl (((sAdv f car tur pre kn (qt, qso, qst, qsh, qbx, qfw, qfc, qfr, qfu, qoff) 5).2.2).2.2.1))), (qd4, .inl (E.2.2, 6, .inl (((sAdv f car tur pre kn (qt, qso, qst, qsh, qbx, qfw, qfc, qfr, qfu, qoff) 5).2.2).2.2.2.1))), (qw, .inr (1, [.ref qwa])), (qwa, .inl (E.2.2, 96, .inl (((sAdv f car tur pre kn (qt, qso, qst, qsh, qbx, qfw, qfc, qfr, qfu, qoff) 5).2.2).2.2.2.2.2.1))), (qca, .inr (1, [.ref qcb])), (qcb, .inl (E.2.2, 96, .inl (((sAdv f car tur pre kn (qt, qso, qst, qsh, qbx, qfw, qfc, qfr, qfu, qoff) 5).2.2).2.2.2.2.2.2.1))), (qr, .inr (1, [.ref qra])), (qra, .inl (E.2.2, 96, .inl (((sAdv f car tur pre kn (qt, qso, qst, qsh, qbx, qfw, qfc, qfr, qfu, qoff) 5).2.2).2.2.2.2.2.2.2.1))), (qu, .inl (E.2.2, 6, .inl (((sAdv f car tur pre kn (qt, qso, qst, qsh, qbx, qfw, qfc, qfr, qfu, qoff) 5).2.2).2.2.2.2.2.2.2.2.1))), (oa, .inl (cL, 1, .inr (.inl (vp_updL ol (0 : Int32).toNatClampNeg (((sAdv f car tur pre kn (qt, qso, qst, qsh, qbx, qfw, qfc, qfr, qfu, qoff) 5).1).toInt64)))))]) F Z dL_advise_8 16 rfl (by unfold vp_in; decide) rfl ?_
  refine h_goto (tgt := 15) F dL_advise_9 (by decide) ?_
  refine h_iconst (v := 0) F dL_advise_15 (by decide) ?_
  exact h_iret F hQ dL_advise_16 (rfl) (rfl)

set_option maxHeartbeats 4000000 in
set_option maxRecDepth 100000 in
theorem v_L_advise (E : gE) (cL : ClassId) (x : Nat) (g : Nat) (p : Nat) (s : Nat) (kc : Nat) (qc : Nat) (col : Int32) (car : Int32) (tur : Int32) (pre : Int32) (cl : Int32) (kn : Int32) (oa : Nat) (ol : Nat → Int64) (h0 : ¬ (¬ kn < 0 ∧ kn ≤ 96)) : CtW E cL yL_advise wsL_advise ({ frames := 9, cells := 1, slots := 6, locals := 177 }) [.ref x, .int kn, .ref oa] [(x, .inr (4, [.ref g, .ref p, .ref s, .ref kc, .ref qc, .int col, .int car, .int tur, .int pre, .int cl])), (oa, .inl (cL, 1, .inr (.inl ol)))] (some (.int 1)) [(x, .inr (4, [.ref g, .ref p, .ref s, .ref kc, .ref qc, .int col, .int car, .int tur, .int pre, .int cl])), (oa, .inl (cL, 1, .inr (.inl ol)))] := by
  refine CtW.of (cc := cL_advise) (maxL := 4) (ret := (some .int)) (hh := [(0, 9, 12, 15)]) (own := RL) (L := [(0, .ref x), (1, .int kn), (2, .ref oa)]) (by decide) rfl rfl rfl (Nat.le_of_ble_eq_true rfl) rfl ?_
  intro X F Z hQ
  have i0 : ∀ w ∈ u_ws RX0 TX0 6, w ∈ wsL_advise := gsub [162, 163, 164, 165, 166, 167] rfl
  have i1 : ∀ w ∈ u_ws RX1 TX1 1, w ∈ wsL_advise := gsub [173] rfl
  have i2 : ∀ w ∈ u_ws RX2 TX2 5, w ∈ wsL_advise := gsub [168, 169, 170, 171, 172] rfl
  have i4 : ∀ w ∈ u_ws RX4 TX4 10, w ∈ wsL_advise := gsub [152, 153, 154, 155, 156, 157, 158, 159, 160, 161] rfl
  refine h_aload_n F dL_advise_0 rfl 2 rfl ?_
  refine h_iconst (v := 0) F dL_advise_1 (by decide) ?_
  refine h_aload_n F dL_advise_2 rfl 0 rfl ?_
  refine h_iload_n F dL_advise_3 rfl 1 rfl ?_
  refine h_xcatch (ws' := [(x, .inr (4, [.ref g, .ref p, .ref s, .ref kc, .ref qc, .int col, .int car, .int tur, .int pre, .int cl])), (oa, .inl (cL, 1, .inr (.inl ol)))]) F Z dL_advise_4 (x_X4_advise E x g p s kc qc col car tur pre cl kn (h0)) rfl gL_advise_X4_advise 0 rfl rfl kV_X4_advise rfl ⟨by decide, by decide⟩ [0] rfl (by decide +kernel) rfl (Nat.le_of_ble_eq_true rfl) ⟨by decide, by decide⟩ [] [] (0, 9, 12, 15) rfl (fun z hz => nomatch hz) (by decide) (by decide) (List.mem_of_getElem? (i := 1) rfl) (List.mem_of_getElem? (i := 1) rfl) (fun q4 => ?_)
  refine h_astore_n (L' := [(0, .ref x), (1, .int kn), (2, .ref oa), (3, .ref q4)]) F dL_advise_12 rfl (by decide) [1, 2, 3, 0] rfl ?_
  refine h_iconst (v := 1) F dL_advise_13 (by decide) ?_
  refine g_cs (cells' := 1) (slots' := 6) (by show 0 + 1 ≤ 1; omega) (by show 0 + 6 ≤ 6; omega) ?_
  exact h_iret F hQ dL_advise_14 (rfl) (rfl)
end PWRAPS
