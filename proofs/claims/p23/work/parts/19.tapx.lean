/-! the class: calls that throw -/
section PTAPX
set_option maxHeartbeats 4000000 in
set_option maxRecDepth 100000 in
theorem x_X4_set_1 (E : gE) (x : Nat) (g : Nat) (p : Nat) (s : Nat) (kc : Nat) (qc : Nat) (col : Int32) (car : Int32) (tur : Int32) (pre : Int32) (cl : Int32) (a : Int32) (b : Int32) (v : Int32) (h0 : sCell a b = 0) : CtX E yX4_set wsX4_set ({ frames := 8, cells := 1, slots := 6, locals := 132 }) [.ref x, .int a, .int b, .int v] [(x, .inr (4, [.ref g, .ref p, .ref s, .ref kc, .ref qc, .int col, .int car, .int tur, .int pre, .int cl]))] "java/lang/IndexOutOfBoundsException" [(x, .inr (4, [.ref g, .ref p, .ref s, .ref kc, .ref qc, .int col, .int car, .int tur, .int pre, .int cl]))] := by
  refine CtX.of (cc := cX4_set) (maxL := 5) (ret := (some .int)) (own := RX4) (L := [(0, .ref x), (1, .int a), (2, .int b), (3, .int v)]) (by decide) rfl rfl rfl (Nat.le_of_ble_eq_true rfl) rfl ?_
  intro X F Z hQ
  have i1 : ∀ w ∈ u_ws RX1 TX1 1, w ∈ wsX4_set := gsub [43] rfl
  have i4 : ∀ w ∈ u_ws RX4 TX4 10, w ∈ wsX4_set := gsub [33, 34, 35, 36, 37, 38, 39, 40, 41, 42] rfl
  refine g_iload_n F dX4_set_0 rfl 1 rfl ?_
  refine g_iload_n F dX4_set_1 rfl 2 rfl ?_
  exact g_xcallS (ws' := [(x, .inr (4, [.ref g, .ref p, .ref s, .ref kc, .ref qc, .int col, .int car, .int tur, .int pre, .int cl]))]) F Z dX4_set_2 (x_X4_needCell E a b (by first | assumption | decide | omega)) rfl gX4_set_X4_needCell kS_X4_needCell rfl ⟨by decide, by decide⟩ [] rfl (by decide +kernel) rfl (Nat.le_of_ble_eq_true rfl) ⟨by decide, by decide⟩ hQ ⟨by decide, by decide⟩

set_option maxHeartbeats 4000000 in
set_option maxRecDepth 100000 in
theorem x_X4_set_2 (E : gE) (x : Nat) (g : Nat) (p : Nat) (s : Nat) (kc : Nat) (qc : Nat) (col : Int32) (car : Int32) (tur : Int32) (pre : Int32) (cl : Int32) (a : Int32) (b : Int32) (v : Int32) (h0 : ¬ sCell a b = 0) (h1 : ¬ (¬ v < 0 ∧ v ≤ 255)) : CtX E yX4_set wsX4_set ({ frames := 8, cells := 1, slots := 6, locals := 132 }) [.ref x, .int a, .int b, .int v] [(x, .inr (4, [.ref g, .ref p, .ref s, .ref kc, .ref qc, .int col, .int car, .int tur, .int pre, .int cl]))] "java/lang/IllegalArgumentException" [(x, .inr (4, [.ref g, .ref p, .ref s, .ref kc, .ref qc, .int col, .int car, .int tur, .int pre, .int cl]))] := by
  refine CtX.of (cc := cX4_set) (maxL := 5) (ret := (some .int)) (own := RX4) (L := [(0, .ref x), (1, .int a), (2, .int b), (3, .int v)]) (by decide) rfl rfl rfl (Nat.le_of_ble_eq_true rfl) rfl ?_
  intro X F Z hQ
  have i1 : ∀ w ∈ u_ws RX1 TX1 1, w ∈ wsX4_set := gsub [43] rfl
  have i4 : ∀ w ∈ u_ws RX4 TX4 10, w ∈ wsX4_set := gsub [33, 34, 35, 36, 37, 38, 39, 40, 41, 42] rfl
  refine g_iload_n F dX4_set_0 rfl 1 rfl ?_
  refine g_iload_n F dX4_set_1 rfl 2 rfl ?_
  refine g_callS (ws' := [(x, .inr (4, [.ref g, .ref p, .ref s, .ref kc, .ref qc, .int col, .int car, .int tur, .int pre, .int cl]))]) F dX4_set_2 (c_X4_needCell E a b (by first | assumption | decide | omega)) rfl gX4_set_X4_needCell kS_X4_needCell ⟨by decide, by decide⟩ [] rfl (by decide +kernel) rfl rfl (Nat.le_of_ble_eq_true rfl) ⟨by decide, by decide⟩ ?_
  refine g_iload_n F dX4_set_5 rfl 3 rfl ?_
  exact g_xcallS (ws' := [(x, .inr (4, [.ref g, .ref p, .ref s, .ref kc, .ref qc, .int col, .int car, .int tur, .int pre, .int cl]))]) F Z dX4_set_6 (x_X4_needShade E v (by first | assumption | decide | omega)) rfl gX4_set_X4_needShade kS_X4_needShade rfl ⟨by decide, by decide⟩ [] rfl (by decide +kernel) rfl (Nat.le_of_ble_eq_true rfl) ⟨by decide, by decide⟩ hQ ⟨by decide, by decide⟩

set_option maxHeartbeats 4000000 in
set_option maxRecDepth 100000 in
theorem x_X4_row_1 (E : gE) (x : Nat) (g : Nat) (p : Nat) (s : Nat) (kc : Nat) (qc : Nat) (col : Int32) (car : Int32) (tur : Int32) (pre : Int32) (cl : Int32) (y : Int32) (a : Int32) (b : Int32) (h0 : ¬ (¬ y < 0 ∧ y ≤ 7)) : CtX E yX4_row wsX4_row ({ frames := 8, cells := 1, slots := 6, locals := 132 }) [.ref x, .int y, .int a, .int b] [(x, .inr (4, [.ref g, .ref p, .ref s, .ref kc, .ref qc, .int col, .int car, .int tur, .int pre, .int cl]))] "java/lang/IndexOutOfBoundsException" [(x, .inr (4, [.ref g, .ref p, .ref s, .ref kc, .ref qc, .int col, .int car, .int tur, .int pre, .int cl]))] := by
  refine CtX.of (cc := cX4_row) (maxL := 5) (ret := (some .int)) (own := RX4) (L := [(0, .ref x), (1, .int y), (2, .int a), (3, .int b)]) (by decide) rfl rfl rfl (Nat.le_of_ble_eq_true rfl) rfl ?_
  intro X F Z hQ
  have i1 : ∀ w ∈ u_ws RX1 TX1 1, w ∈ wsX4_row := gsub [58] rfl
  have i4 : ∀ w ∈ u_ws RX4 TX4 10, w ∈ wsX4_row := gsub [48, 49, 50, 51, 52, 53, 54, 55, 56, 57] rfl
  refine g_iload_n F dX4_row_0 rfl 1 rfl ?_
  exact g_xcallS (ws' := [(x, .inr (4, [.ref g, .ref p, .ref s, .ref kc, .ref qc, .int col, .int car, .int tur, .int pre, .int cl]))]) F Z dX4_row_1 (x_X4_needRow E y (by first | assumption | decide | omega)) rfl gX4_row_X4_needRow kS_X4_needRow rfl ⟨by decide, by decide⟩ [] rfl (by decide +kernel) rfl (Nat.le_of_ble_eq_true rfl) ⟨by decide, by decide⟩ hQ ⟨by decide, by decide⟩

set_option maxHeartbeats 4000000 in
set_option maxRecDepth 100000 in
theorem x_X4_row_2 (E : gE) (x : Nat) (g : Nat) (p : Nat) (s : Nat) (kc : Nat) (qc : Nat) (col : Int32) (car : Int32) (tur : Int32) (pre : Int32) (cl : Int32) (y : Int32) (a : Int32) (b : Int32) (h0 : ¬ y < 0) (h1 : y ≤ 7) (h2 : ¬ (¬ a < 0 ∧ a ≤ 255)) : CtX E yX4_row wsX4_row ({ frames := 8, cells := 1, slots := 6, locals := 132 }) [.ref x, .int y, .int a, .int b] [(x, .inr (4, [.ref g, .ref p, .ref s, .ref kc, .ref qc, .int col, .int car, .int tur, .int pre, .int cl]))] "java/lang/IllegalArgumentException" [(x, .inr (4, [.ref g, .ref p, .ref s, .ref kc, .ref qc, .int col, .int car, .int tur, .int pre, .int cl]))] := by
  refine CtX.of (cc := cX4_row) (maxL := 5) (ret := (some .int)) (own := RX4) (L := [(0, .ref x), (1, .int y), (2, .int a), (3, .int b)]) (by decide) rfl rfl rfl (Nat.le_of_ble_eq_true rfl) rfl ?_
  intro X F Z hQ
  have i1 : ∀ w ∈ u_ws RX1 TX1 1, w ∈ wsX4_row := gsub [58] rfl
  have i4 : ∀ w ∈ u_ws RX4 TX4 10, w ∈ wsX4_row := gsub [48, 49, 50, 51, 52, 53, 54, 55, 56, 57] rfl
  refine g_iload_n F dX4_row_0 rfl 1 rfl ?_
  refine g_callS (ws' := [(x, .inr (4, [.ref g, .ref p, .ref s, .ref kc, .ref qc, .int col, .int car, .int tur, .int pre, .int cl]))]) F dX4_row_1 (c_X4_needRow E y (by first | assumption | decide | omega) (by first | assumption | decide | omega)) rfl gX4_row_X4_needRow kS_X4_needRow ⟨by decide, by decide⟩ [] rfl (by decide +kernel) rfl rfl (Nat.le_of_ble_eq_true rfl) ⟨by decide, by decide⟩ ?_
  refine g_iload_n F dX4_row_4 rfl 2 rfl ?_
  exact g_xcallS (ws' := [(x, .inr (4, [.ref g, .ref p, .ref s, .ref kc, .ref qc, .int col, .int car, .int tur, .int pre, .int cl]))]) F Z dX4_row_5 (x_X4_needShade E a (by first | assumption | decide | omega)) rfl gX4_row_X4_needShade kS_X4_needShade rfl ⟨by decide, by decide⟩ [] rfl (by decide +kernel) rfl (Nat.le_of_ble_eq_true rfl) ⟨by decide, by decide⟩ hQ ⟨by decide, by decide⟩

set_option maxHeartbeats 4000000 in
set_option maxRecDepth 100000 in
theorem x_X4_row_3 (E : gE) (x : Nat) (g : Nat) (p : Nat) (s : Nat) (kc : Nat) (qc : Nat) (col : Int32) (car : Int32) (tur : Int32) (pre : Int32) (cl : Int32) (y : Int32) (a : Int32) (b : Int32) (h0 : ¬ y < 0) (h1 : y ≤ 7) (h2 : ¬ a < 0) (h3 : a ≤ 255) (h4 : ¬ (¬ b < (-60) ∧ b ≤ 60)) : CtX E yX4_row wsX4_row ({ frames := 8, cells := 1, slots := 6, locals := 132 }) [.ref x, .int y, .int a, .int b] [(x, .inr (4, [.ref g, .ref p, .ref s, .ref kc, .ref qc, .int col, .int car, .int tur, .int pre, .int cl]))] "java/lang/IllegalArgumentException" [(x, .inr (4, [.ref g, .ref p, .ref s, .ref kc, .ref qc, .int col, .int car, .int tur, .int pre, .int cl]))] := by
  refine CtX.of (cc := cX4_row) (maxL := 5) (ret := (some .int)) (own := RX4) (L := [(0, .ref x), (1, .int y), (2, .int a), (3, .int b)]) (by decide) rfl rfl rfl (Nat.le_of_ble_eq_true rfl) rfl ?_
  intro X F Z hQ
  have i1 : ∀ w ∈ u_ws RX1 TX1 1, w ∈ wsX4_row := gsub [58] rfl
  have i4 : ∀ w ∈ u_ws RX4 TX4 10, w ∈ wsX4_row := gsub [48, 49, 50, 51, 52, 53, 54, 55, 56, 57] rfl
  refine g_iload_n F dX4_row_0 rfl 1 rfl ?_
  refine g_callS (ws' := [(x, .inr (4, [.ref g, .ref p, .ref s, .ref kc, .ref qc, .int col, .int car, .int tur, .int pre, .int cl]))]) F dX4_row_1 (c_X4_needRow E y (by first | assumption | decide | omega) (by first | assumption | decide | omega)) rfl gX4_row_X4_needRow kS_X4_needRow ⟨by decide, by decide⟩ [] rfl (by decide +kernel) rfl rfl (Nat.le_of_ble_eq_true rfl) ⟨by decide, by decide⟩ ?_
  refine g_iload_n F dX4_row_4 rfl 2 rfl ?_
  refine g_callS (ws' := [(x, .inr (4, [.ref g, .ref p, .ref s, .ref kc, .ref qc, .int col, .int car, .int tur, .int pre, .int cl]))]) F dX4_row_5 (c_X4_needShade E a (by first | assumption | decide | omega) (by first | assumption | decide | omega)) rfl gX4_row_X4_needShade kS_X4_needShade ⟨by decide, by decide⟩ [] rfl (by decide +kernel) rfl rfl (Nat.le_of_ble_eq_true rfl) ⟨by decide, by decide⟩ ?_
  refine g_iload_n F dX4_row_8 rfl 3 rfl ?_
  exact g_xcallS (ws' := [(x, .inr (4, [.ref g, .ref p, .ref s, .ref kc, .ref qc, .int col, .int car, .int tur, .int pre, .int cl]))]) F Z dX4_row_9 (x_X4_needStep E b (by first | assumption | decide | omega)) rfl gX4_row_X4_needStep kS_X4_needStep rfl ⟨by decide, by decide⟩ [] rfl (by decide +kernel) rfl (Nat.le_of_ble_eq_true rfl) ⟨by decide, by decide⟩ hQ ⟨by decide, by decide⟩

set_option maxHeartbeats 4000000 in
set_option maxRecDepth 100000 in
theorem x_X4_like_1 (E : gE) (x : Nat) (g : Nat) (p : Nat) (s : Nat) (kc : Nat) (qc : Nat) (col : Int32) (car : Int32) (tur : Int32) (pre : Int32) (cl : Int32) (y : Int32) (o : Int32) (h0 : ¬ (¬ y < 0 ∧ y ≤ 7)) : CtX E yX4_like wsX4_like ({ frames := 8, cells := 1, slots := 6, locals := 131 }) [.ref x, .int y, .int o] [(x, .inr (4, [.ref g, .ref p, .ref s, .ref kc, .ref qc, .int col, .int car, .int tur, .int pre, .int cl]))] "java/lang/IndexOutOfBoundsException" [(x, .inr (4, [.ref g, .ref p, .ref s, .ref kc, .ref qc, .int col, .int car, .int tur, .int pre, .int cl]))] := by
  refine CtX.of (cc := cX4_like) (maxL := 6) (ret := (some .int)) (own := RX4) (L := [(0, .ref x), (1, .int y), (2, .int o)]) (by decide) rfl rfl rfl (Nat.le_of_ble_eq_true rfl) rfl ?_
  intro X F Z hQ
  have i1 : ∀ w ∈ u_ws RX1 TX1 1, w ∈ wsX4_like := gsub [37] rfl
  have i4 : ∀ w ∈ u_ws RX4 TX4 10, w ∈ wsX4_like := gsub [27, 28, 29, 30, 31, 32, 33, 34, 35, 36] rfl
  refine g_iload_n F dX4_like_0 rfl 1 rfl ?_
  exact g_xcallS (ws' := [(x, .inr (4, [.ref g, .ref p, .ref s, .ref kc, .ref qc, .int col, .int car, .int tur, .int pre, .int cl]))]) F Z dX4_like_1 (x_X4_needRow E y (by first | assumption | decide | omega)) rfl gX4_like_X4_needRow kS_X4_needRow rfl ⟨by decide, by decide⟩ [] rfl (by decide +kernel) rfl (Nat.le_of_ble_eq_true rfl) ⟨by decide, by decide⟩ hQ ⟨by decide, by decide⟩

set_option maxHeartbeats 4000000 in
set_option maxRecDepth 100000 in
theorem x_X4_like_2 (E : gE) (x : Nat) (g : Nat) (p : Nat) (s : Nat) (kc : Nat) (qc : Nat) (col : Int32) (car : Int32) (tur : Int32) (pre : Int32) (cl : Int32) (y : Int32) (o : Int32) (h0 : ¬ y < 0) (h1 : y ≤ 7) (h2 : ¬ (¬ o < 0 ∧ o ≤ 7)) : CtX E yX4_like wsX4_like ({ frames := 8, cells := 1, slots := 6, locals := 131 }) [.ref x, .int y, .int o] [(x, .inr (4, [.ref g, .ref p, .ref s, .ref kc, .ref qc, .int col, .int car, .int tur, .int pre, .int cl]))] "java/lang/IndexOutOfBoundsException" [(x, .inr (4, [.ref g, .ref p, .ref s, .ref kc, .ref qc, .int col, .int car, .int tur, .int pre, .int cl]))] := by
  refine CtX.of (cc := cX4_like) (maxL := 6) (ret := (some .int)) (own := RX4) (L := [(0, .ref x), (1, .int y), (2, .int o)]) (by decide) rfl rfl rfl (Nat.le_of_ble_eq_true rfl) rfl ?_
  intro X F Z hQ
  have i1 : ∀ w ∈ u_ws RX1 TX1 1, w ∈ wsX4_like := gsub [37] rfl
  have i4 : ∀ w ∈ u_ws RX4 TX4 10, w ∈ wsX4_like := gsub [27, 28, 29, 30, 31, 32, 33, 34, 35, 36] rfl
  refine g_iload_n F dX4_like_0 rfl 1 rfl ?_
  refine g_callS (ws' := [(x, .inr (4, [.ref g, .ref p, .ref s, .ref kc, .ref qc, .int col, .int car, .int tur, .int pre, .int cl]))]) F dX4_like_1 (c_X4_needRow E y (by first | assumption | decide | omega) (by first | assumption | decide | omega)) rfl gX4_like_X4_needRow kS_X4_needRow ⟨by decide, by decide⟩ [] rfl (by decide +kernel) rfl rfl (Nat.le_of_ble_eq_true rfl) ⟨by decide, by decide⟩ ?_
  refine g_iload_n F dX4_like_4 rfl 2 rfl ?_
  exact g_xcallS (ws' := [(x, .inr (4, [.ref g, .ref p, .ref s, .ref kc, .ref qc, .int col, .int car, .int tur, .int pre, .int cl]))]) F Z dX4_like_5 (x_X4_needRow E o (by first | assumption | decide | omega)) rfl gX4_like_X4_needRow kS_X4_needRow rfl ⟨by decide, by decide⟩ [] rfl (by decide +kernel) rfl (Nat.le_of_ble_eq_true rfl) ⟨by decide, by decide⟩ hQ ⟨by decide, by decide⟩

set_option maxHeartbeats 4000000 in
set_option maxRecDepth 100000 in
theorem x_X4_setColours (E : gE) (x : Nat) (g : Nat) (p : Nat) (s : Nat) (kc : Nat) (qc : Nat) (col : Int32) (car : Int32) (tur : Int32) (pre : Int32) (cl : Int32) (n : Int32) (h0 : ¬ (¬ n < 2 ∧ n ≤ 6)) : CtX E yX4_setColours wsX4_setColours ({ frames := 8, cells := 1, slots := 6, locals := 132 }) [.ref x, .int n] [(x, .inr (4, [.ref g, .ref p, .ref s, .ref kc, .ref qc, .int col, .int car, .int tur, .int pre, .int cl]))] "java/lang/IllegalArgumentException" [(x, .inr (4, [.ref g, .ref p, .ref s, .ref kc, .ref qc, .int col, .int car, .int tur, .int pre, .int cl]))] := by
  refine CtX.of (cc := cX4_setColours) (maxL := 3) (ret := (some .int)) (own := RX4) (L := [(0, .ref x), (1, .int n)]) (by decide) rfl rfl rfl (Nat.le_of_ble_eq_true rfl) rfl ?_
  intro X F Z hQ
  have i4 : ∀ w ∈ u_ws RX4 TX4 10, w ∈ wsX4_setColours := gsub [11, 12, 13, 14, 15, 16, 17, 18, 19, 20] rfl
  refine g_iload_n F dX4_setColours_0 rfl 1 rfl ?_
  exact g_xcallS (ws' := [(x, .inr (4, [.ref g, .ref p, .ref s, .ref kc, .ref qc, .int col, .int car, .int tur, .int pre, .int cl]))]) F Z dX4_setColours_1 (x_X4_needColours E n (by first | assumption | decide | omega)) rfl gX4_setColours_X4_needColours kS_X4_needColours rfl ⟨by decide, by decide⟩ [] rfl (by decide +kernel) rfl (Nat.le_of_ble_eq_true rfl) ⟨by decide, by decide⟩ hQ ⟨by decide, by decide⟩

set_option maxHeartbeats 4000000 in
set_option maxRecDepth 100000 in
theorem x_X4_setCarry (E : gE) (x : Nat) (g : Nat) (p : Nat) (s : Nat) (kc : Nat) (qc : Nat) (col : Int32) (car : Int32) (tur : Int32) (pre : Int32) (cl : Int32) (n : Int32) (h0 : ¬ (¬ n < 0 ∧ n ≤ 2)) : CtX E yX4_setCarry wsX4_setCarry ({ frames := 7, cells := 1, slots := 6, locals := 111 }) [.ref x, .int n] [(x, .inr (4, [.ref g, .ref p, .ref s, .ref kc, .ref qc, .int col, .int car, .int tur, .int pre, .int cl]))] "java/lang/IndexOutOfBoundsException" [(x, .inr (4, [.ref g, .ref p, .ref s, .ref kc, .ref qc, .int col, .int car, .int tur, .int pre, .int cl]))] := by
  refine CtX.of (cc := cX4_setCarry) (maxL := 3) (ret := (some .int)) (own := RX4) (L := [(0, .ref x), (1, .int n)]) (by decide) rfl rfl rfl (Nat.le_of_ble_eq_true rfl) rfl ?_
  intro X F Z hQ
  have i4 : ∀ w ∈ u_ws RX4 TX4 10, w ∈ wsX4_setCarry := gsub [8, 9, 10, 11, 12, 13, 14, 15, 16, 17] rfl
  refine g_iload_n F dX4_setCarry_0 rfl 1 rfl ?_
  refine g_iconst (v := 2) F dX4_setCarry_1 (by decide) ?_
  exact g_xcallS (ws' := [(x, .inr (4, [.ref g, .ref p, .ref s, .ref kc, .ref qc, .int col, .int car, .int tur, .int pre, .int cl]))]) F Z dX4_setCarry_2 (x_X4_needUpTo E n 2 (by first | assumption | decide | omega)) rfl gX4_setCarry_X4_needUpTo kS_X4_needUpTo rfl ⟨by decide, by decide⟩ [] rfl (by decide +kernel) rfl (Nat.le_of_ble_eq_true rfl) ⟨by decide, by decide⟩ hQ ⟨by decide, by decide⟩

set_option maxHeartbeats 4000000 in
set_option maxRecDepth 100000 in
theorem x_X4_wind_1 (E : gE) (x : Nat) (g : Nat) (p : Nat) (s : Nat) (kc : Nat) (qc : Nat) (col : Int32) (car : Int32) (tur : Int32) (pre : Int32) (cl : Int32) (c : Int32) (n : Int32) (h0 : ¬ (¬ c < 0 ∧ c ≤ 5)) : CtX E yX4_wind wsX4_wind ({ frames := 8, cells := 1, slots := 6, locals := 132 }) [.ref x, .int c, .int n] [(x, .inr (4, [.ref g, .ref p, .ref s, .ref kc, .ref qc, .int col, .int car, .int tur, .int pre, .int cl]))] "java/lang/IndexOutOfBoundsException" [(x, .inr (4, [.ref g, .ref p, .ref s, .ref kc, .ref qc, .int col, .int car, .int tur, .int pre, .int cl]))] := by
  refine CtX.of (cc := cX4_wind) (maxL := 3) (ret := (some .int)) (own := RX4) (L := [(0, .ref x), (1, .int c), (2, .int n)]) (by decide) rfl rfl rfl (Nat.le_of_ble_eq_true rfl) rfl ?_
  intro X F Z hQ
  have i3 : ∀ w ∈ u_ws RX3 TX3 1, w ∈ wsX4_wind := gsub [48] rfl
  have i4 : ∀ w ∈ u_ws RX4 TX4 10, w ∈ wsX4_wind := gsub [38, 39, 40, 41, 42, 43, 44, 45, 46, 47] rfl
  refine g_iload_n F dX4_wind_0 rfl 1 rfl ?_
  exact g_xcallS (ws' := [(x, .inr (4, [.ref g, .ref p, .ref s, .ref kc, .ref qc, .int col, .int car, .int tur, .int pre, .int cl]))]) F Z dX4_wind_1 (x_X4_needColour E c (by first | assumption | decide | omega)) rfl gX4_wind_X4_needColour kS_X4_needColour rfl ⟨by decide, by decide⟩ [] rfl (by decide +kernel) rfl (Nat.le_of_ble_eq_true rfl) ⟨by decide, by decide⟩ hQ ⟨by decide, by decide⟩

set_option maxHeartbeats 4000000 in
set_option maxRecDepth 100000 in
theorem x_X4_wind_2 (E : gE) (x : Nat) (g : Nat) (p : Nat) (s : Nat) (kc : Nat) (qc : Nat) (col : Int32) (car : Int32) (tur : Int32) (pre : Int32) (cl : Int32) (c : Int32) (n : Int32) (h0 : ¬ c < 0) (h1 : c ≤ 5) (h2 : ¬ (¬ n < 1 ∧ n ≤ 99)) : CtX E yX4_wind wsX4_wind ({ frames := 8, cells := 1, slots := 6, locals := 132 }) [.ref x, .int c, .int n] [(x, .inr (4, [.ref g, .ref p, .ref s, .ref kc, .ref qc, .int col, .int car, .int tur, .int pre, .int cl]))] "java/lang/IllegalArgumentException" [(x, .inr (4, [.ref g, .ref p, .ref s, .ref kc, .ref qc, .int col, .int car, .int tur, .int pre, .int cl]))] := by
  refine CtX.of (cc := cX4_wind) (maxL := 3) (ret := (some .int)) (own := RX4) (L := [(0, .ref x), (1, .int c), (2, .int n)]) (by decide) rfl rfl rfl (Nat.le_of_ble_eq_true rfl) rfl ?_
  intro X F Z hQ
  have i3 : ∀ w ∈ u_ws RX3 TX3 1, w ∈ wsX4_wind := gsub [48] rfl
  have i4 : ∀ w ∈ u_ws RX4 TX4 10, w ∈ wsX4_wind := gsub [38, 39, 40, 41, 42, 43, 44, 45, 46, 47] rfl
  refine g_iload_n F dX4_wind_0 rfl 1 rfl ?_
  refine g_callS (ws' := [(x, .inr (4, [.ref g, .ref p, .ref s, .ref kc, .ref qc, .int col, .int car, .int tur, .int pre, .int cl]))]) F dX4_wind_1 (c_X4_needColour E c (by first | assumption | decide | omega) (by first | assumption | decide | omega)) rfl gX4_wind_X4_needColour kS_X4_needColour ⟨by decide, by decide⟩ [] rfl (by decide +kernel) rfl rfl (Nat.le_of_ble_eq_true rfl) ⟨by decide, by decide⟩ ?_
  refine g_iload_n F dX4_wind_4 rfl 2 rfl ?_
  exact g_xcallS (ws' := [(x, .inr (4, [.ref g, .ref p, .ref s, .ref kc, .ref qc, .int col, .int car, .int tur, .int pre, .int cl]))]) F Z dX4_wind_5 (x_X4_needWindable E n (by first | assumption | decide | omega)) rfl gX4_wind_X4_needWindable kS_X4_needWindable rfl ⟨by decide, by decide⟩ [] rfl (by decide +kernel) rfl (Nat.le_of_ble_eq_true rfl) ⟨by decide, by decide⟩ hQ ⟨by decide, by decide⟩

set_option maxHeartbeats 4000000 in
set_option maxRecDepth 100000 in
theorem x_X4_weave (E : gE) (x : Nat) (g : Nat) (ga : Nat) (p : Nat) (s : Nat) (sa : Nat) (kc : Nat) (qc : Nat) (qd : Nat) (qd1 : Nat) (qd2 : Nat) (qd3 : Nat) (qd4 : Nat) (qw : Nat) (qwa : Nat) (qca : Nat) (qcb : Nat) (qr : Nat) (qra : Nat) (qu : Nat) (f : AF) (th : AF) (qt : AF) (qso : AF) (qst : AF) (qsh : AF) (qfw : AF) (qfc : AF) (qfr : AF) (qfu : AF) (qbx : Int32) (qoff : Int32) (car : Int32) (tur : Int32) (pre : Int32) (cl : Int32) (m : Nat) (h2 : 2 ≤ m) (h6 : m ≤ 6) (h0 : sSuf (sMake f m car tur qso qst qsh qfw qfc qfu qfr).1.2.2.1 th = 0) : CtX E yX4_weave wsX4_weave ({ frames := 7, cells := 1, slots := 6, locals := 152 }) [.ref x] [(x, .inr (4, [.ref g, .ref p, .ref s, .ref kc, .ref qc, .int (nI m), .int car, .int tur, .int pre, .int cl])), (g, .inr (1, [.ref ga])), (ga, .inl (E.2.2, 96, .inl f)), (s, .inr (3, [.ref sa])), (sa, .inl (E.2.2, 6, .inl th)), (qc, .inr (0, [.ref qd, .ref qw, .ref qca, .ref qr, .ref qu, .int qoff])), (qd, .inr (2, [.ref qd1, .ref qd2, .ref qd3, .ref qd4, .int qbx])), (qd1, .inl (E.2.2, 256, .inl qt)), (qd2, .inl (E.2.2, 96, .inl qso)), (qd3, .inl (E.2.2, 6, .inl qst)), (qd4, .inl (E.2.2, 6, .inl qsh)), (qw, .inr (1, [.ref qwa])), (qwa, .inl (E.2.2, 96, .inl qfw)), (qca, .inr (1, [.ref qcb])), (qcb, .inl (E.2.2, 96, .inl qfc)), (qr, .inr (1, [.ref qra])), (qra, .inl (E.2.2, 96, .inl qfr)), (qu, .inl (E.2.2, 6, .inl qfu))] "java/lang/IllegalStateException" [(x, .inr (4, [.ref g, .ref p, .ref s, .ref kc, .ref qc, .int (nI m), .int car, .int tur, .int pre, .int cl])), (g, .inr (1, [.ref ga])), (ga, .inl (E.2.2, 96, .inl f)), (s, .inr (3, [.ref sa])), (sa, .inl (E.2.2, 6, .inl th)), (qc, .inr (0, [.ref qd, .ref qw, .ref qca, .ref qr, .ref qu, .int ((sMake f m car tur qso qst qsh qfw qfc qfu qfr).1.2.2.2)])), (qd, .inr (2, [.ref qd1, .ref qd2, .ref qd3, .ref qd4, .int (nI (sFitF f qso qst m).2)])), (qd1, .inl (E.2.2, 256, .inl (sTally f qt))), (qd2, .inl (E.2.2, 96, .inl (sSorted f qso))), (qd3, .inl (E.2.2, 6, .inl ((sFitF f qso qst m).1))), (qd4, .inl (E.2.2, 6, .inl (sMnsF f qso qst qsh m))), (qw, .inr (1, [.ref qwa])), (qwa, .inl (E.2.2, 96, .inl ((sMake f m car tur qso qst qsh qfw qfc qfu qfr).1.1))), (qca, .inr (1, [.ref qcb])), (qcb, .inl (E.2.2, 96, .inl ((sMake f m car tur qso qst qsh qfw qfc qfu qfr).1.2.1))), (qr, .inr (1, [.ref qra])), (qra, .inl (E.2.2, 96, .inl ((sMake f m car tur qso qst qsh qfw qfc qfu qfr).2))), (qu, .inl (E.2.2, 6, .inl ((sMake f m car tur qso qst qsh qfw qfc qfu qfr).1.2.2.1)))] := by
  refine CtX.of (cc := cX4_weave) (maxL := 1) (ret := (some .int)) (own := RX4) (L := [(0, .ref x)]) (by decide) rfl rfl rfl (Nat.le_of_ble_eq_true rfl) rfl ?_
  intro X F Z hQ
  have i0 : ∀ w ∈ u_ws RX0 TX0 6, w ∈ wsX4_weave := gsub [177, 178, 179, 180, 181, 182] rfl
  have i1 : ∀ w ∈ u_ws RX1 TX1 1, w ∈ wsX4_weave := gsub [188] rfl
  have i2 : ∀ w ∈ u_ws RX2 TX2 5, w ∈ wsX4_weave := gsub [183, 184, 185, 186, 187] rfl
  have i3 : ∀ w ∈ u_ws RX3 TX3 1, w ∈ wsX4_weave := gsub [189] rfl
  have i4 : ∀ w ∈ u_ws RX4 TX4 10, w ∈ wsX4_weave := gsub [167, 168, 169, 170, 171, 172, 173, 174, 175, 176] rfl
  refine g_aload_n F dX4_weave_0 rfl 0 rfl ?_
  refine g_get F dX4_weave_1 0 rfl rfl i4 4 (by decide) rfl (List.mem_of_getElem? (i := 1) rfl) ?_
  refine g_aload_n F dX4_weave_4 rfl 0 rfl ?_
  refine g_get F dX4_weave_5 0 rfl rfl i4 0 (by decide) rfl (List.mem_of_getElem? (i := 2) rfl) ?_
  refine g_aload_n F dX4_weave_8 rfl 0 rfl ?_
  refine g_get F dX4_weave_9 0 rfl rfl i4 5 (by decide) rfl (List.mem_of_getElem? (i := 3) rfl) ?_
  refine g_aload_n F dX4_weave_12 rfl 0 rfl ?_
  refine g_get F dX4_weave_13 0 rfl rfl i4 6 (by decide) rfl (List.mem_of_getElem? (i := 4) rfl) ?_
  refine g_aload_n F dX4_weave_16 rfl 0 rfl ?_
  refine g_get F dX4_weave_17 0 rfl rfl i4 7 (by decide) rfl (List.mem_of_getElem? (i := 5) rfl) ?_
  refine g_callV (ws' := [(x, .inr (4, [.ref g, .ref p, .ref s, .ref kc, .ref qc, .int (nI m), .int car, .int tur, .int pre, .int cl])), (g, .inr (1, [.ref ga])), (ga, .inl (E.2.2, 96, .inl f)), (s, .inr (3, [.ref sa])), (sa, .inl (E.2.2, 6, .inl th)), (qc, .inr (0, [.ref qd, .ref qw, .ref qca, .ref qr, .ref qu, .int ((sMake f m car tur qso qst qsh qfw qfc qfu qfr).1.2.2.2)])), (qd, .inr (2, [.ref qd1, .ref qd2, .ref qd3, .ref qd4, .int (nI (sFitF f qso qst m).2)])), (qd1, .inl (E.2.2, 256, .inl (sTally f qt))), (qd2, .inl (E.2.2, 96, .inl (sSorted f qso))), (qd3, .inl (E.2.2, 6, .inl ((sFitF f qso qst m).1))), (qd4, .inl (E.2.2, 6, .inl (sMnsF f qso qst qsh m))), (qw, .inr (1, [.ref qwa])), (qwa, .inl (E.2.2, 96, .inl ((sMake f m car tur qso qst qsh qfw qfc qfu qfr).1.1))), (qca, .inr (1, [.ref qcb])), (qcb, .inl (E.2.2, 96, .inl ((sMake f m car tur qso qst qsh qfw qfc qfu qfr).1.2.1))), (qr, .inr (1, [.ref qra])), (qra, .inl (E.2.2, 96, .inl ((sMake f m car tur qso qst qsh qfw qfc qfu qfr).2))), (qu, .inl (E.2.2, 6, .inl ((sMake f m car tur qso qst qsh qfw qfc qfu qfr).1.2.2.1)))]) F dX4_weave_20 (c_X0_make E qc qd qd1 qd2 qd3 qd4 qw qwa qca qcb qr qra qu qt qso qst qsh qfw qfc qfr qfu qoff qbx g ga f m car tur (by first | assumption | decide | omega) (by first | assumption | decide | omega)) rfl gX4_weave_X0_make 5 rfl rfl kV_X0_make ⟨by decide, by decide⟩ [5, 6, 7, 8, 9, 10, 11, 12, 13, 14, 15, 16, 17, 1, 2] rfl (by decide +kernel) rfl rfl (Nat.le_of_ble_eq_true rfl) ⟨by decide, by decide⟩ ?_
  refine g_aload_n F dX4_weave_23 rfl 0 rfl ?_
  refine g_aload_n F dX4_weave_24 rfl 0 rfl ?_
  refine g_get F dX4_weave_25 0 rfl rfl i4 4 (by decide) rfl (List.mem_of_getElem? (i := 1) rfl) ?_
  exact g_xcallV (ws' := [(x, .inr (4, [.ref g, .ref p, .ref s, .ref kc, .ref qc, .int (nI m), .int car, .int tur, .int pre, .int cl])), (g, .inr (1, [.ref ga])), (ga, .inl (E.2.2, 96, .inl f)), (s, .inr (3, [.ref sa])), (sa, .inl (E.2.2, 6, .inl th)), (qc, .inr (0, [.ref qd, .ref qw, .ref qca, .ref qr, .ref qu, .int ((sMake f m car tur qso qst qsh qfw qfc qfu qfr).1.2.2.2)])), (qd, .inr (2, [.ref qd1, .ref qd2, .ref qd3, .ref qd4, .int (nI (sFitF f qso qst m).2)])), (qd1, .inl (E.2.2, 256, .inl (sTally f qt))), (qd2, .inl (E.2.2, 96, .inl (sSorted f qso))), (qd3, .inl (E.2.2, 6, .inl ((sFitF f qso qst m).1))), (qd4, .inl (E.2.2, 6, .inl (sMnsF f qso qst qsh m))), (qw, .inr (1, [.ref qwa])), (qwa, .inl (E.2.2, 96, .inl ((sMake f m car tur qso qst qsh qfw qfc qfu qfr).1.1))), (qca, .inr (1, [.ref qcb])), (qcb, .inl (E.2.2, 96, .inl ((sMake f m car tur qso qst qsh qfw qfc qfu qfr).1.2.1))), (qr, .inr (1, [.ref qra])), (qra, .inl (E.2.2, 96, .inl ((sMake f m car tur qso qst qsh qfw qfc qfu qfr).2))), (qu, .inl (E.2.2, 6, .inl ((sMake f m car tur qso qst qsh qfw qfc qfu qfr).1.2.2.1)))]) F Z dX4_weave_28 (x_X4_needThreadFor E x g p s sa kc qc qd qd1 qd2 qd3 qd4 qw qwa qca qcb qr qra qu th (sTally f qt) (sSorted f qso) ((sFitF f qso qst m).1) (sMnsF f qso qst qsh m) ((sMake f m car tur qso qst qsh qfw qfc qfu qfr).1.1) ((sMake f m car tur qso qst qsh qfw qfc qfu qfr).1.2.1) ((sMake f m car tur qso qst qsh qfw qfc qfu qfr).2) ((sMake f m car tur qso qst qsh qfw qfc qfu qfr).1.2.2.1) (nI (sFitF f qso qst m).2) ((sMake f m car tur qso qst qsh qfw qfc qfu qfr).1.2.2.2) (nI m) car tur pre cl (by first | assumption | decide | omega)) rfl gX4_weave_X4_needThreadFor 0 rfl rfl kV_X4_needThreadFor rfl ⟨by decide, by decide⟩ [0, 3, 4, 5, 6, 7, 8, 9, 10, 11, 12, 13, 14, 15, 16, 17] rfl (by decide +kernel) rfl (Nat.le_of_ble_eq_true rfl) ⟨by decide, by decide⟩ hQ ⟨by decide, by decide⟩

set_option maxHeartbeats 4000000 in
set_option maxRecDepth 100000 in
theorem x_X4_shade (E : gE) (x : Nat) (g : Nat) (p : Nat) (s : Nat) (kc : Nat) (qc : Nat) (col : Int32) (car : Int32) (tur : Int32) (pre : Int32) (cl : Int32) (a : Int32) (b : Int32) (h0 : sCell a b = 0) : CtX E yX4_shade wsX4_shade ({ frames := 7, cells := 1, slots := 6, locals := 111 }) [.ref x, .int a, .int b] [(x, .inr (4, [.ref g, .ref p, .ref s, .ref kc, .ref qc, .int col, .int car, .int tur, .int pre, .int cl]))] "java/lang/IndexOutOfBoundsException" [(x, .inr (4, [.ref g, .ref p, .ref s, .ref kc, .ref qc, .int col, .int car, .int tur, .int pre, .int cl]))] := by
  refine CtX.of (cc := cX4_shade) (maxL := 3) (ret := (some .int)) (own := RX4) (L := [(0, .ref x), (1, .int a), (2, .int b)]) (by decide) rfl rfl rfl (Nat.le_of_ble_eq_true rfl) rfl ?_
  intro X F Z hQ
  have i1 : ∀ w ∈ u_ws RX1 TX1 1, w ∈ wsX4_shade := gsub [29] rfl
  have i4 : ∀ w ∈ u_ws RX4 TX4 10, w ∈ wsX4_shade := gsub [19, 20, 21, 22, 23, 24, 25, 26, 27, 28] rfl
  refine g_iload_n F dX4_shade_0 rfl 1 rfl ?_
  refine g_iload_n F dX4_shade_1 rfl 2 rfl ?_
  exact g_xcallS (ws' := [(x, .inr (4, [.ref g, .ref p, .ref s, .ref kc, .ref qc, .int col, .int car, .int tur, .int pre, .int cl]))]) F Z dX4_shade_2 (x_X4_needCell E a b (by first | assumption | decide | omega)) rfl gX4_shade_X4_needCell kS_X4_needCell rfl ⟨by decide, by decide⟩ [] rfl (by decide +kernel) rfl (Nat.le_of_ble_eq_true rfl) ⟨by decide, by decide⟩ hQ ⟨by decide, by decide⟩

set_option maxHeartbeats 4000000 in
set_option maxRecDepth 100000 in
theorem x_X4_palette (E : gE) (x : Nat) (g : Nat) (p : Nat) (s : Nat) (kc : Nat) (qc : Nat) (col : Int32) (car : Int32) (tur : Int32) (pre : Int32) (cl : Int32) (c : Int32) (h0 : ¬ (¬ c < 0 ∧ c ≤ 5)) : CtX E yX4_palette wsX4_palette ({ frames := 8, cells := 1, slots := 6, locals := 131 }) [.ref x, .int c] [(x, .inr (4, [.ref g, .ref p, .ref s, .ref kc, .ref qc, .int col, .int car, .int tur, .int pre, .int cl]))] "java/lang/IndexOutOfBoundsException" [(x, .inr (4, [.ref g, .ref p, .ref s, .ref kc, .ref qc, .int col, .int car, .int tur, .int pre, .int cl]))] := by
  refine CtX.of (cc := cX4_palette) (maxL := 2) (ret := (some .int)) (own := RX4) (L := [(0, .ref x), (1, .int c)]) (by decide) rfl rfl rfl (Nat.le_of_ble_eq_true rfl) rfl ?_
  intro X F Z hQ
  have i1 : ∀ w ∈ u_ws RX1 TX1 1, w ∈ wsX4_palette := gsub [88] rfl
  have i2 : ∀ w ∈ u_ws RX2 TX2 5, w ∈ wsX4_palette := gsub [83, 84, 85, 86, 87] rfl
  have i4 : ∀ w ∈ u_ws RX4 TX4 10, w ∈ wsX4_palette := gsub [73, 74, 75, 76, 77, 78, 79, 80, 81, 82] rfl
  refine g_iload_n F dX4_palette_0 rfl 1 rfl ?_
  exact g_xcallS (ws' := [(x, .inr (4, [.ref g, .ref p, .ref s, .ref kc, .ref qc, .int col, .int car, .int tur, .int pre, .int cl]))]) F Z dX4_palette_1 (x_X4_needColour E c (by first | assumption | decide | omega)) rfl gX4_palette_X4_needColour kS_X4_needColour rfl ⟨by decide, by decide⟩ [] rfl (by decide +kernel) rfl (Nat.le_of_ble_eq_true rfl) ⟨by decide, by decide⟩ hQ ⟨by decide, by decide⟩

set_option maxHeartbeats 4000000 in
set_option maxRecDepth 100000 in
theorem x_X4_cell_1 (E : gE) (x : Nat) (g : Nat) (p : Nat) (s : Nat) (kc : Nat) (qc : Nat) (col : Int32) (car : Int32) (tur : Int32) (pre : Int32) (cl : Int32) (a : Int32) (b : Int32) (h0 : sCell a b = 0) : CtX E yX4_cell wsX4_cell ({ frames := 7, cells := 1, slots := 6, locals := 111 }) [.ref x, .int a, .int b] [(x, .inr (4, [.ref g, .ref p, .ref s, .ref kc, .ref qc, .int col, .int car, .int tur, .int pre, .int cl]))] "java/lang/IndexOutOfBoundsException" [(x, .inr (4, [.ref g, .ref p, .ref s, .ref kc, .ref qc, .int col, .int car, .int tur, .int pre, .int cl]))] := by
  refine CtX.of (cc := cX4_cell) (maxL := 3) (ret := (some .int)) (own := RX4) (L := [(0, .ref x), (1, .int a), (2, .int b)]) (by decide) rfl rfl rfl (Nat.le_of_ble_eq_true rfl) rfl ?_
  intro X F Z hQ
  have i0 : ∀ w ∈ u_ws RX0 TX0 6, w ∈ wsX4_cell := gsub [46, 47, 48, 49, 50, 51] rfl
  have i1 : ∀ w ∈ u_ws RX1 TX1 1, w ∈ wsX4_cell := gsub [52] rfl
  have i4 : ∀ w ∈ u_ws RX4 TX4 10, w ∈ wsX4_cell := gsub [36, 37, 38, 39, 40, 41, 42, 43, 44, 45] rfl
  refine g_iload_n F dX4_cell_0 rfl 1 rfl ?_
  refine g_iload_n F dX4_cell_1 rfl 2 rfl ?_
  exact g_xcallS (ws' := [(x, .inr (4, [.ref g, .ref p, .ref s, .ref kc, .ref qc, .int col, .int car, .int tur, .int pre, .int cl]))]) F Z dX4_cell_2 (x_X4_needCell E a b (by first | assumption | decide | omega)) rfl gX4_cell_X4_needCell kS_X4_needCell rfl ⟨by decide, by decide⟩ [] rfl (by decide +kernel) rfl (Nat.le_of_ble_eq_true rfl) ⟨by decide, by decide⟩ hQ ⟨by decide, by decide⟩

set_option maxHeartbeats 4000000 in
set_option maxRecDepth 100000 in
theorem x_X4_cell_2 (E : gE) (x : Nat) (g : Nat) (p : Nat) (s : Nat) (kc : Nat) (qc : Nat) (col : Int32) (car : Int32) (tur : Int32) (pre : Int32) (cl : Int32) (a : Int32) (b : Int32) (h0 : ¬ sCell a b = 0) (h1 : sHas cl = 0) : CtX E yX4_cell wsX4_cell ({ frames := 7, cells := 1, slots := 6, locals := 111 }) [.ref x, .int a, .int b] [(x, .inr (4, [.ref g, .ref p, .ref s, .ref kc, .ref qc, .int col, .int car, .int tur, .int pre, .int cl]))] "java/lang/IllegalStateException" [(x, .inr (4, [.ref g, .ref p, .ref s, .ref kc, .ref qc, .int col, .int car, .int tur, .int pre, .int cl]))] := by
  refine CtX.of (cc := cX4_cell) (maxL := 3) (ret := (some .int)) (own := RX4) (L := [(0, .ref x), (1, .int a), (2, .int b)]) (by decide) rfl rfl rfl (Nat.le_of_ble_eq_true rfl) rfl ?_
  intro X F Z hQ
  have i0 : ∀ w ∈ u_ws RX0 TX0 6, w ∈ wsX4_cell := gsub [46, 47, 48, 49, 50, 51] rfl
  have i1 : ∀ w ∈ u_ws RX1 TX1 1, w ∈ wsX4_cell := gsub [52] rfl
  have i4 : ∀ w ∈ u_ws RX4 TX4 10, w ∈ wsX4_cell := gsub [36, 37, 38, 39, 40, 41, 42, 43, 44, 45] rfl
  refine g_iload_n F dX4_cell_0 rfl 1 rfl ?_
  refine g_iload_n F dX4_cell_1 rfl 2 rfl ?_
  refine g_callS (ws' := [(x, .inr (4, [.ref g, .ref p, .ref s, .ref kc, .ref qc, .int col, .int car, .int tur, .int pre, .int cl]))]) F dX4_cell_2 (c_X4_needCell E a b (by first | assumption | decide | omega)) rfl gX4_cell_X4_needCell kS_X4_needCell ⟨by decide, by decide⟩ [] rfl (by decide +kernel) rfl rfl (Nat.le_of_ble_eq_true rfl) ⟨by decide, by decide⟩ ?_
  refine g_aload_n F dX4_cell_5 rfl 0 rfl ?_
  exact g_xcallV (ws' := [(x, .inr (4, [.ref g, .ref p, .ref s, .ref kc, .ref qc, .int col, .int car, .int tur, .int pre, .int cl]))]) F Z dX4_cell_6 (x_X4_needCloth E x g p s kc qc col car tur pre cl (by first | assumption | decide | omega)) rfl gX4_cell_X4_needCloth 0 rfl rfl kV_X4_needCloth rfl ⟨by decide, by decide⟩ [0] rfl (by decide +kernel) rfl (Nat.le_of_ble_eq_true rfl) ⟨by decide, by decide⟩ hQ ⟨by decide, by decide⟩

set_option maxHeartbeats 4000000 in
set_option maxRecDepth 100000 in
theorem x_X4_run_1 (E : gE) (x : Nat) (g : Nat) (p : Nat) (s : Nat) (kc : Nat) (qc : Nat) (col : Int32) (car : Int32) (tur : Int32) (pre : Int32) (cl : Int32) (y : Int32) (pl : Int32) (w : Int32) (h0 : ¬ (¬ y < 0 ∧ y ≤ 7)) : CtX E yX4_run wsX4_run ({ frames := 8, cells := 1, slots := 6, locals := 131 }) [.ref x, .int y, .int pl, .int w] [(x, .inr (4, [.ref g, .ref p, .ref s, .ref kc, .ref qc, .int col, .int car, .int tur, .int pre, .int cl]))] "java/lang/IndexOutOfBoundsException" [(x, .inr (4, [.ref g, .ref p, .ref s, .ref kc, .ref qc, .int col, .int car, .int tur, .int pre, .int cl]))] := by
  refine CtX.of (cc := cX4_run) (maxL := 4) (ret := (some .int)) (own := RX4) (L := [(0, .ref x), (1, .int y), (2, .int pl), (3, .int w)]) (by decide) rfl rfl rfl (Nat.le_of_ble_eq_true rfl) rfl ?_
  intro X F Z hQ
  have i0 : ∀ w ∈ u_ws RX0 TX0 6, w ∈ wsX4_run := gsub [57, 58, 59, 60, 61, 62] rfl
  have i1 : ∀ w ∈ u_ws RX1 TX1 1, w ∈ wsX4_run := gsub [63] rfl
  have i4 : ∀ w ∈ u_ws RX4 TX4 10, w ∈ wsX4_run := gsub [47, 48, 49, 50, 51, 52, 53, 54, 55, 56] rfl
  refine g_iload_n F dX4_run_0 rfl 1 rfl ?_
  exact g_xcallS (ws' := [(x, .inr (4, [.ref g, .ref p, .ref s, .ref kc, .ref qc, .int col, .int car, .int tur, .int pre, .int cl]))]) F Z dX4_run_1 (x_X4_needRow E y (by first | assumption | decide | omega)) rfl gX4_run_X4_needRow kS_X4_needRow rfl ⟨by decide, by decide⟩ [] rfl (by decide +kernel) rfl (Nat.le_of_ble_eq_true rfl) ⟨by decide, by decide⟩ hQ ⟨by decide, by decide⟩

set_option maxHeartbeats 4000000 in
set_option maxRecDepth 100000 in
theorem x_X4_run_2 (E : gE) (x : Nat) (g : Nat) (p : Nat) (s : Nat) (kc : Nat) (qc : Nat) (col : Int32) (car : Int32) (tur : Int32) (pre : Int32) (cl : Int32) (y : Int32) (pl : Int32) (w : Int32) (h0 : ¬ y < 0) (h1 : y ≤ 7) (h2 : ¬ (¬ w < 0 ∧ w ≤ 1)) : CtX E yX4_run wsX4_run ({ frames := 8, cells := 1, slots := 6, locals := 131 }) [.ref x, .int y, .int pl, .int w] [(x, .inr (4, [.ref g, .ref p, .ref s, .ref kc, .ref qc, .int col, .int car, .int tur, .int pre, .int cl]))] "java/lang/IndexOutOfBoundsException" [(x, .inr (4, [.ref g, .ref p, .ref s, .ref kc, .ref qc, .int col, .int car, .int tur, .int pre, .int cl]))] := by
  refine CtX.of (cc := cX4_run) (maxL := 4) (ret := (some .int)) (own := RX4) (L := [(0, .ref x), (1, .int y), (2, .int pl), (3, .int w)]) (by decide) rfl rfl rfl (Nat.le_of_ble_eq_true rfl) rfl ?_
  intro X F Z hQ
  have i0 : ∀ w ∈ u_ws RX0 TX0 6, w ∈ wsX4_run := gsub [57, 58, 59, 60, 61, 62] rfl
  have i1 : ∀ w ∈ u_ws RX1 TX1 1, w ∈ wsX4_run := gsub [63] rfl
  have i4 : ∀ w ∈ u_ws RX4 TX4 10, w ∈ wsX4_run := gsub [47, 48, 49, 50, 51, 52, 53, 54, 55, 56] rfl
  refine g_iload_n F dX4_run_0 rfl 1 rfl ?_
  refine g_callS (ws' := [(x, .inr (4, [.ref g, .ref p, .ref s, .ref kc, .ref qc, .int col, .int car, .int tur, .int pre, .int cl]))]) F dX4_run_1 (c_X4_needRow E y (by first | assumption | decide | omega) (by first | assumption | decide | omega)) rfl gX4_run_X4_needRow kS_X4_needRow ⟨by decide, by decide⟩ [] rfl (by decide +kernel) rfl rfl (Nat.le_of_ble_eq_true rfl) ⟨by decide, by decide⟩ ?_
  refine g_iload_n F dX4_run_4 rfl 3 rfl ?_
  refine g_iconst (v := 1) F dX4_run_5 (by decide) ?_
  exact g_xcallS (ws' := [(x, .inr (4, [.ref g, .ref p, .ref s, .ref kc, .ref qc, .int col, .int car, .int tur, .int pre, .int cl]))]) F Z dX4_run_6 (x_X4_needUpTo E w 1 (by first | assumption | decide | omega)) rfl gX4_run_X4_needUpTo kS_X4_needUpTo rfl ⟨by decide, by decide⟩ [] rfl (by decide +kernel) rfl (Nat.le_of_ble_eq_true rfl) ⟨by decide, by decide⟩ hQ ⟨by decide, by decide⟩

set_option maxHeartbeats 4000000 in
set_option maxRecDepth 100000 in
theorem x_X4_run_3 (E : gE) (x : Nat) (g : Nat) (p : Nat) (s : Nat) (kc : Nat) (qc : Nat) (col : Int32) (car : Int32) (tur : Int32) (pre : Int32) (cl : Int32) (y : Int32) (pl : Int32) (w : Int32) (h0 : ¬ y < 0) (h1 : y ≤ 7) (h2 : ¬ w < 0) (h3 : w ≤ 1) (h4 : sHas cl = 0) : CtX E yX4_run wsX4_run ({ frames := 8, cells := 1, slots := 6, locals := 131 }) [.ref x, .int y, .int pl, .int w] [(x, .inr (4, [.ref g, .ref p, .ref s, .ref kc, .ref qc, .int col, .int car, .int tur, .int pre, .int cl]))] "java/lang/IllegalStateException" [(x, .inr (4, [.ref g, .ref p, .ref s, .ref kc, .ref qc, .int col, .int car, .int tur, .int pre, .int cl]))] := by
  refine CtX.of (cc := cX4_run) (maxL := 4) (ret := (some .int)) (own := RX4) (L := [(0, .ref x), (1, .int y), (2, .int pl), (3, .int w)]) (by decide) rfl rfl rfl (Nat.le_of_ble_eq_true rfl) rfl ?_
  intro X F Z hQ
  have i0 : ∀ w ∈ u_ws RX0 TX0 6, w ∈ wsX4_run := gsub [57, 58, 59, 60, 61, 62] rfl
  have i1 : ∀ w ∈ u_ws RX1 TX1 1, w ∈ wsX4_run := gsub [63] rfl
  have i4 : ∀ w ∈ u_ws RX4 TX4 10, w ∈ wsX4_run := gsub [47, 48, 49, 50, 51, 52, 53, 54, 55, 56] rfl
  refine g_iload_n F dX4_run_0 rfl 1 rfl ?_
  refine g_callS (ws' := [(x, .inr (4, [.ref g, .ref p, .ref s, .ref kc, .ref qc, .int col, .int car, .int tur, .int pre, .int cl]))]) F dX4_run_1 (c_X4_needRow E y (by first | assumption | decide | omega) (by first | assumption | decide | omega)) rfl gX4_run_X4_needRow kS_X4_needRow ⟨by decide, by decide⟩ [] rfl (by decide +kernel) rfl rfl (Nat.le_of_ble_eq_true rfl) ⟨by decide, by decide⟩ ?_
  refine g_iload_n F dX4_run_4 rfl 3 rfl ?_
  refine g_iconst (v := 1) F dX4_run_5 (by decide) ?_
  refine g_callS (ws' := [(x, .inr (4, [.ref g, .ref p, .ref s, .ref kc, .ref qc, .int col, .int car, .int tur, .int pre, .int cl]))]) F dX4_run_6 (c_X4_needUpTo E w 1 (by first | assumption | decide | omega) (by first | assumption | decide | omega)) rfl gX4_run_X4_needUpTo kS_X4_needUpTo ⟨by decide, by decide⟩ [] rfl (by decide +kernel) rfl rfl (Nat.le_of_ble_eq_true rfl) ⟨by decide, by decide⟩ ?_
  refine g_aload_n F dX4_run_9 rfl 0 rfl ?_
  exact g_xcallV (ws' := [(x, .inr (4, [.ref g, .ref p, .ref s, .ref kc, .ref qc, .int col, .int car, .int tur, .int pre, .int cl]))]) F Z dX4_run_10 (x_X4_needCloth E x g p s kc qc col car tur pre cl (by first | assumption | decide | omega)) rfl gX4_run_X4_needCloth 0 rfl rfl kV_X4_needCloth rfl ⟨by decide, by decide⟩ [0] rfl (by decide +kernel) rfl (Nat.le_of_ble_eq_true rfl) ⟨by decide, by decide⟩ hQ ⟨by decide, by decide⟩

set_option maxHeartbeats 4000000 in
set_option maxRecDepth 100000 in
theorem x_X4_run_4 (E : gE) (x : Nat) (g : Nat) (p : Nat) (s : Nat) (kc : Nat) (kd : Nat) (kd1 : Nat) (kd2 : Nat) (kd3 : Nat) (kd4 : Nat) (kw : Nat) (kwa : Nat) (kca : Nat) (kcb : Nat) (kr : Nat) (kra : Nat) (ku : Nat) (qc : Nat) (kt : AF) (kso : AF) (kst : AF) (ksh : AF) (kfw : AF) (kfc : AF) (kfr : AF) (kfu : AF) (koff : Int32) (col : Int32) (car : Int32) (tur : Int32) (pre : Int32) (cl : Int32) (kb : Nat) (y : Int32) (pl : Int32) (w : Int32) (h0 : ¬ y < 0) (h1 : y ≤ 7) (h2 : ¬ w < 0) (h3 : w ≤ 1) (h4 : ¬ sHas cl = 0) (h5 : ¬ (¬ pl < 0 ∧ pl ≤ sRn kfr y - 1)) : CtX E yX4_run wsX4_run ({ frames := 8, cells := 1, slots := 6, locals := 131 }) [.ref x, .int y, .int pl, .int w] [(x, .inr (4, [.ref g, .ref p, .ref s, .ref kc, .ref qc, .int col, .int car, .int tur, .int pre, .int cl])), (kc, .inr (0, [.ref kd, .ref kw, .ref kca, .ref kr, .ref ku, .int koff])), (kd, .inr (2, [.ref kd1, .ref kd2, .ref kd3, .ref kd4, .int (nI kb)])), (kd1, .inl (E.2.2, 256, .inl kt)), (kd2, .inl (E.2.2, 96, .inl kso)), (kd3, .inl (E.2.2, 6, .inl kst)), (kd4, .inl (E.2.2, 6, .inl ksh)), (kw, .inr (1, [.ref kwa])), (kwa, .inl (E.2.2, 96, .inl kfw)), (kca, .inr (1, [.ref kcb])), (kcb, .inl (E.2.2, 96, .inl kfc)), (kr, .inr (1, [.ref kra])), (kra, .inl (E.2.2, 96, .inl kfr)), (ku, .inl (E.2.2, 6, .inl kfu))] "java/lang/IndexOutOfBoundsException" [(x, .inr (4, [.ref g, .ref p, .ref s, .ref kc, .ref qc, .int col, .int car, .int tur, .int pre, .int cl])), (kc, .inr (0, [.ref kd, .ref kw, .ref kca, .ref kr, .ref ku, .int koff])), (kd, .inr (2, [.ref kd1, .ref kd2, .ref kd3, .ref kd4, .int (nI kb)])), (kd1, .inl (E.2.2, 256, .inl kt)), (kd2, .inl (E.2.2, 96, .inl kso)), (kd3, .inl (E.2.2, 6, .inl kst)), (kd4, .inl (E.2.2, 6, .inl ksh)), (kw, .inr (1, [.ref kwa])), (kwa, .inl (E.2.2, 96, .inl kfw)), (kca, .inr (1, [.ref kcb])), (kcb, .inl (E.2.2, 96, .inl kfc)), (kr, .inr (1, [.ref kra])), (kra, .inl (E.2.2, 96, .inl kfr)), (ku, .inl (E.2.2, 6, .inl kfu))] := by
  refine CtX.of (cc := cX4_run) (maxL := 4) (ret := (some .int)) (own := RX4) (L := [(0, .ref x), (1, .int y), (2, .int pl), (3, .int w)]) (by decide) rfl rfl rfl (Nat.le_of_ble_eq_true rfl) rfl ?_
  intro X F Z hQ
  have i0 : ∀ w ∈ u_ws RX0 TX0 6, w ∈ wsX4_run := gsub [57, 58, 59, 60, 61, 62] rfl
  have i1 : ∀ w ∈ u_ws RX1 TX1 1, w ∈ wsX4_run := gsub [63] rfl
  have i4 : ∀ w ∈ u_ws RX4 TX4 10, w ∈ wsX4_run := gsub [47, 48, 49, 50, 51, 52, 53, 54, 55, 56] rfl
  refine g_iload_n F dX4_run_0 rfl 1 rfl ?_
  refine g_callS (ws' := [(x, .inr (4, [.ref g, .ref p, .ref s, .ref kc, .ref qc, .int col, .int car, .int tur, .int pre, .int cl])), (kc, .inr (0, [.ref kd, .ref kw, .ref kca, .ref kr, .ref ku, .int koff])), (kd, .inr (2, [.ref kd1, .ref kd2, .ref kd3, .ref kd4, .int (nI kb)])), (kd1, .inl (E.2.2, 256, .inl kt)), (kd2, .inl (E.2.2, 96, .inl kso)), (kd3, .inl (E.2.2, 6, .inl kst)), (kd4, .inl (E.2.2, 6, .inl ksh)), (kw, .inr (1, [.ref kwa])), (kwa, .inl (E.2.2, 96, .inl kfw)), (kca, .inr (1, [.ref kcb])), (kcb, .inl (E.2.2, 96, .inl kfc)), (kr, .inr (1, [.ref kra])), (kra, .inl (E.2.2, 96, .inl kfr)), (ku, .inl (E.2.2, 6, .inl kfu))]) F dX4_run_1 (c_X4_needRow E y (by first | assumption | decide | omega) (by first | assumption | decide | omega)) rfl gX4_run_X4_needRow kS_X4_needRow ⟨by decide, by decide⟩ [] rfl (by decide +kernel) rfl rfl (Nat.le_of_ble_eq_true rfl) ⟨by decide, by decide⟩ ?_
  refine g_iload_n F dX4_run_4 rfl 3 rfl ?_
  refine g_iconst (v := 1) F dX4_run_5 (by decide) ?_
  refine g_callS (ws' := [(x, .inr (4, [.ref g, .ref p, .ref s, .ref kc, .ref qc, .int col, .int car, .int tur, .int pre, .int cl])), (kc, .inr (0, [.ref kd, .ref kw, .ref kca, .ref kr, .ref ku, .int koff])), (kd, .inr (2, [.ref kd1, .ref kd2, .ref kd3, .ref kd4, .int (nI kb)])), (kd1, .inl (E.2.2, 256, .inl kt)), (kd2, .inl (E.2.2, 96, .inl kso)), (kd3, .inl (E.2.2, 6, .inl kst)), (kd4, .inl (E.2.2, 6, .inl ksh)), (kw, .inr (1, [.ref kwa])), (kwa, .inl (E.2.2, 96, .inl kfw)), (kca, .inr (1, [.ref kcb])), (kcb, .inl (E.2.2, 96, .inl kfc)), (kr, .inr (1, [.ref kra])), (kra, .inl (E.2.2, 96, .inl kfr)), (ku, .inl (E.2.2, 6, .inl kfu))]) F dX4_run_6 (c_X4_needUpTo E w 1 (by first | assumption | decide | omega) (by first | assumption | decide | omega)) rfl gX4_run_X4_needUpTo kS_X4_needUpTo ⟨by decide, by decide⟩ [] rfl (by decide +kernel) rfl rfl (Nat.le_of_ble_eq_true rfl) ⟨by decide, by decide⟩ ?_
  refine g_aload_n F dX4_run_9 rfl 0 rfl ?_
  refine g_callV (ws' := [(x, .inr (4, [.ref g, .ref p, .ref s, .ref kc, .ref qc, .int col, .int car, .int tur, .int pre, .int cl])), (kc, .inr (0, [.ref kd, .ref kw, .ref kca, .ref kr, .ref ku, .int koff])), (kd, .inr (2, [.ref kd1, .ref kd2, .ref kd3, .ref kd4, .int (nI kb)])), (kd1, .inl (E.2.2, 256, .inl kt)), (kd2, .inl (E.2.2, 96, .inl kso)), (kd3, .inl (E.2.2, 6, .inl kst)), (kd4, .inl (E.2.2, 6, .inl ksh)), (kw, .inr (1, [.ref kwa])), (kwa, .inl (E.2.2, 96, .inl kfw)), (kca, .inr (1, [.ref kcb])), (kcb, .inl (E.2.2, 96, .inl kfc)), (kr, .inr (1, [.ref kra])), (kra, .inl (E.2.2, 96, .inl kfr)), (ku, .inl (E.2.2, 6, .inl kfu))]) F dX4_run_10 (c_X4_needCloth E x g p s kc qc col car tur pre cl (by first | assumption | decide | omega)) rfl gX4_run_X4_needCloth 0 rfl rfl kV_X4_needCloth ⟨by decide, by decide⟩ [0] rfl (by decide +kernel) rfl rfl (Nat.le_of_ble_eq_true rfl) ⟨by decide, by decide⟩ ?_
  refine g_iload_n F dX4_run_13 rfl 2 rfl ?_
  refine g_aload_n F dX4_run_14 rfl 0 rfl ?_
  refine g_get F dX4_run_15 0 rfl rfl i4 3 (by decide) rfl (List.mem_of_getElem? (i := 1) rfl) ?_
  refine g_iload_n F dX4_run_18 rfl 1 rfl ?_
  refine g_callV (ws' := [(x, .inr (4, [.ref g, .ref p, .ref s, .ref kc, .ref qc, .int col, .int car, .int tur, .int pre, .int cl])), (kc, .inr (0, [.ref kd, .ref kw, .ref kca, .ref kr, .ref ku, .int koff])), (kd, .inr (2, [.ref kd1, .ref kd2, .ref kd3, .ref kd4, .int (nI kb)])), (kd1, .inl (E.2.2, 256, .inl kt)), (kd2, .inl (E.2.2, 96, .inl kso)), (kd3, .inl (E.2.2, 6, .inl kst)), (kd4, .inl (E.2.2, 6, .inl ksh)), (kw, .inr (1, [.ref kwa])), (kwa, .inl (E.2.2, 96, .inl kfw)), (kca, .inr (1, [.ref kcb])), (kcb, .inl (E.2.2, 96, .inl kfc)), (kr, .inr (1, [.ref kra])), (kra, .inl (E.2.2, 96, .inl kfr)), (ku, .inl (E.2.2, 6, .inl kfu))]) F dX4_run_19 (c_X0_runsOf E kc kd kd1 kd2 kd3 kd4 kw kwa kca kcb kr kra ku kt kso kst ksh kfw kfc kfr kfu koff (nI kb) y ) rfl gX4_run_X0_runsOf 1 rfl rfl kV_X0_runsOf ⟨by decide, by decide⟩ [1, 2, 3, 4, 5, 6, 7, 8, 9, 10, 11, 12, 13] rfl (by decide +kernel) rfl rfl (Nat.le_of_ble_eq_true rfl) ⟨by decide, by decide⟩ ?_
  refine g_iconst (v := 1) F dX4_run_22 (by decide) ?_
  refine g_isub F dX4_run_23 ?_
  exact g_xcallS (ws' := [(x, .inr (4, [.ref g, .ref p, .ref s, .ref kc, .ref qc, .int col, .int car, .int tur, .int pre, .int cl])), (kc, .inr (0, [.ref kd, .ref kw, .ref kca, .ref kr, .ref ku, .int koff])), (kd, .inr (2, [.ref kd1, .ref kd2, .ref kd3, .ref kd4, .int (nI kb)])), (kd1, .inl (E.2.2, 256, .inl kt)), (kd2, .inl (E.2.2, 96, .inl kso)), (kd3, .inl (E.2.2, 6, .inl kst)), (kd4, .inl (E.2.2, 6, .inl ksh)), (kw, .inr (1, [.ref kwa])), (kwa, .inl (E.2.2, 96, .inl kfw)), (kca, .inr (1, [.ref kcb])), (kcb, .inl (E.2.2, 96, .inl kfc)), (kr, .inr (1, [.ref kra])), (kra, .inl (E.2.2, 96, .inl kfr)), (ku, .inl (E.2.2, 6, .inl kfu))]) F Z dX4_run_24 (x_X4_needUpTo E pl ((sRn kfr y) - 1) (by first | assumption | decide | omega)) rfl gX4_run_X4_needUpTo kS_X4_needUpTo rfl ⟨by decide, by decide⟩ [] rfl (by decide +kernel) rfl (Nat.le_of_ble_eq_true rfl) ⟨by decide, by decide⟩ hQ ⟨by decide, by decide⟩

set_option maxHeartbeats 4000000 in
set_option maxRecDepth 100000 in
theorem x_X4_knots_1 (E : gE) (x : Nat) (g : Nat) (p : Nat) (s : Nat) (kc : Nat) (qc : Nat) (col : Int32) (car : Int32) (tur : Int32) (pre : Int32) (cl : Int32) (y : Int32) (h0 : ¬ (¬ y < 0 ∧ y ≤ 7)) : CtX E yX4_knots wsX4_knots ({ frames := 8, cells := 1, slots := 6, locals := 131 }) [.ref x, .int y] [(x, .inr (4, [.ref g, .ref p, .ref s, .ref kc, .ref qc, .int col, .int car, .int tur, .int pre, .int cl]))] "java/lang/IndexOutOfBoundsException" [(x, .inr (4, [.ref g, .ref p, .ref s, .ref kc, .ref qc, .int col, .int car, .int tur, .int pre, .int cl]))] := by
  refine CtX.of (cc := cX4_knots) (maxL := 2) (ret := (some .int)) (own := RX4) (L := [(0, .ref x), (1, .int y)]) (by decide) rfl rfl rfl (Nat.le_of_ble_eq_true rfl) rfl ?_
  intro X F Z hQ
  have i0 : ∀ w ∈ u_ws RX0 TX0 6, w ∈ wsX4_knots := gsub [58, 59, 60, 61, 62, 63] rfl
  have i1 : ∀ w ∈ u_ws RX1 TX1 1, w ∈ wsX4_knots := gsub [64] rfl
  have i4 : ∀ w ∈ u_ws RX4 TX4 10, w ∈ wsX4_knots := gsub [48, 49, 50, 51, 52, 53, 54, 55, 56, 57] rfl
  refine g_iload_n F dX4_knots_0 rfl 1 rfl ?_
  exact g_xcallS (ws' := [(x, .inr (4, [.ref g, .ref p, .ref s, .ref kc, .ref qc, .int col, .int car, .int tur, .int pre, .int cl]))]) F Z dX4_knots_1 (x_X4_needRow E y (by first | assumption | decide | omega)) rfl gX4_knots_X4_needRow kS_X4_needRow rfl ⟨by decide, by decide⟩ [] rfl (by decide +kernel) rfl (Nat.le_of_ble_eq_true rfl) ⟨by decide, by decide⟩ hQ ⟨by decide, by decide⟩

set_option maxHeartbeats 4000000 in
set_option maxRecDepth 100000 in
theorem x_X4_knots_2 (E : gE) (x : Nat) (g : Nat) (p : Nat) (s : Nat) (kc : Nat) (qc : Nat) (col : Int32) (car : Int32) (tur : Int32) (pre : Int32) (cl : Int32) (y : Int32) (h0 : ¬ y < 0) (h1 : y ≤ 7) (h2 : sHas cl = 0) : CtX E yX4_knots wsX4_knots ({ frames := 8, cells := 1, slots := 6, locals := 131 }) [.ref x, .int y] [(x, .inr (4, [.ref g, .ref p, .ref s, .ref kc, .ref qc, .int col, .int car, .int tur, .int pre, .int cl]))] "java/lang/IllegalStateException" [(x, .inr (4, [.ref g, .ref p, .ref s, .ref kc, .ref qc, .int col, .int car, .int tur, .int pre, .int cl]))] := by
  refine CtX.of (cc := cX4_knots) (maxL := 2) (ret := (some .int)) (own := RX4) (L := [(0, .ref x), (1, .int y)]) (by decide) rfl rfl rfl (Nat.le_of_ble_eq_true rfl) rfl ?_
  intro X F Z hQ
  have i0 : ∀ w ∈ u_ws RX0 TX0 6, w ∈ wsX4_knots := gsub [58, 59, 60, 61, 62, 63] rfl
  have i1 : ∀ w ∈ u_ws RX1 TX1 1, w ∈ wsX4_knots := gsub [64] rfl
  have i4 : ∀ w ∈ u_ws RX4 TX4 10, w ∈ wsX4_knots := gsub [48, 49, 50, 51, 52, 53, 54, 55, 56, 57] rfl
  refine g_iload_n F dX4_knots_0 rfl 1 rfl ?_
  refine g_callS (ws' := [(x, .inr (4, [.ref g, .ref p, .ref s, .ref kc, .ref qc, .int col, .int car, .int tur, .int pre, .int cl]))]) F dX4_knots_1 (c_X4_needRow E y (by first | assumption | decide | omega) (by first | assumption | decide | omega)) rfl gX4_knots_X4_needRow kS_X4_needRow ⟨by decide, by decide⟩ [] rfl (by decide +kernel) rfl rfl (Nat.le_of_ble_eq_true rfl) ⟨by decide, by decide⟩ ?_
  refine g_aload_n F dX4_knots_4 rfl 0 rfl ?_
  exact g_xcallV (ws' := [(x, .inr (4, [.ref g, .ref p, .ref s, .ref kc, .ref qc, .int col, .int car, .int tur, .int pre, .int cl]))]) F Z dX4_knots_5 (x_X4_needCloth E x g p s kc qc col car tur pre cl (by first | assumption | decide | omega)) rfl gX4_knots_X4_needCloth 0 rfl rfl kV_X4_needCloth rfl ⟨by decide, by decide⟩ [0] rfl (by decide +kernel) rfl (Nat.le_of_ble_eq_true rfl) ⟨by decide, by decide⟩ hQ ⟨by decide, by decide⟩

set_option maxHeartbeats 4000000 in
set_option maxRecDepth 100000 in
theorem x_X4_thread_1 (E : gE) (x : Nat) (g : Nat) (p : Nat) (s : Nat) (kc : Nat) (qc : Nat) (col : Int32) (car : Int32) (tur : Int32) (pre : Int32) (cl : Int32) (c : Int32) (w : Int32) (h0 : ¬ (¬ c < 0 ∧ c ≤ 5)) : CtX E yX4_thread wsX4_thread ({ frames := 8, cells := 1, slots := 6, locals := 131 }) [.ref x, .int c, .int w] [(x, .inr (4, [.ref g, .ref p, .ref s, .ref kc, .ref qc, .int col, .int car, .int tur, .int pre, .int cl]))] "java/lang/IndexOutOfBoundsException" [(x, .inr (4, [.ref g, .ref p, .ref s, .ref kc, .ref qc, .int col, .int car, .int tur, .int pre, .int cl]))] := by
  refine CtX.of (cc := cX4_thread) (maxL := 3) (ret := (some .int)) (own := RX4) (L := [(0, .ref x), (1, .int c), (2, .int w)]) (by decide) rfl rfl rfl (Nat.le_of_ble_eq_true rfl) rfl ?_
  intro X F Z hQ
  have i0 : ∀ w ∈ u_ws RX0 TX0 6, w ∈ wsX4_thread := gsub [54, 55, 56, 57, 58, 59] rfl
  have i2 : ∀ w ∈ u_ws RX2 TX2 5, w ∈ wsX4_thread := gsub [60, 61, 62, 63, 64] rfl
  have i3 : ∀ w ∈ u_ws RX3 TX3 1, w ∈ wsX4_thread := gsub [53] rfl
  have i4 : ∀ w ∈ u_ws RX4 TX4 10, w ∈ wsX4_thread := gsub [43, 44, 45, 46, 47, 48, 49, 50, 51, 52] rfl
  refine g_iload_n F dX4_thread_0 rfl 1 rfl ?_
  exact g_xcallS (ws' := [(x, .inr (4, [.ref g, .ref p, .ref s, .ref kc, .ref qc, .int col, .int car, .int tur, .int pre, .int cl]))]) F Z dX4_thread_1 (x_X4_needColour E c (by first | assumption | decide | omega)) rfl gX4_thread_X4_needColour kS_X4_needColour rfl ⟨by decide, by decide⟩ [] rfl (by decide +kernel) rfl (Nat.le_of_ble_eq_true rfl) ⟨by decide, by decide⟩ hQ ⟨by decide, by decide⟩

set_option maxHeartbeats 4000000 in
set_option maxRecDepth 100000 in
theorem x_X4_thread_2 (E : gE) (x : Nat) (g : Nat) (p : Nat) (s : Nat) (kc : Nat) (qc : Nat) (col : Int32) (car : Int32) (tur : Int32) (pre : Int32) (cl : Int32) (c : Int32) (w : Int32) (h0 : ¬ c < 0) (h1 : c ≤ 5) (h2 : ¬ (¬ w < 0 ∧ w ≤ 2)) : CtX E yX4_thread wsX4_thread ({ frames := 8, cells := 1, slots := 6, locals := 131 }) [.ref x, .int c, .int w] [(x, .inr (4, [.ref g, .ref p, .ref s, .ref kc, .ref qc, .int col, .int car, .int tur, .int pre, .int cl]))] "java/lang/IndexOutOfBoundsException" [(x, .inr (4, [.ref g, .ref p, .ref s, .ref kc, .ref qc, .int col, .int car, .int tur, .int pre, .int cl]))] := by
  refine CtX.of (cc := cX4_thread) (maxL := 3) (ret := (some .int)) (own := RX4) (L := [(0, .ref x), (1, .int c), (2, .int w)]) (by decide) rfl rfl rfl (Nat.le_of_ble_eq_true rfl) rfl ?_
  intro X F Z hQ
  have i0 : ∀ w ∈ u_ws RX0 TX0 6, w ∈ wsX4_thread := gsub [54, 55, 56, 57, 58, 59] rfl
  have i2 : ∀ w ∈ u_ws RX2 TX2 5, w ∈ wsX4_thread := gsub [60, 61, 62, 63, 64] rfl
  have i3 : ∀ w ∈ u_ws RX3 TX3 1, w ∈ wsX4_thread := gsub [53] rfl
  have i4 : ∀ w ∈ u_ws RX4 TX4 10, w ∈ wsX4_thread := gsub [43, 44, 45, 46, 47, 48, 49, 50, 51, 52] rfl
  refine g_iload_n F dX4_thread_0 rfl 1 rfl ?_
  refine g_callS (ws' := [(x, .inr (4, [.ref g, .ref p, .ref s, .ref kc, .ref qc, .int col, .int car, .int tur, .int pre, .int cl]))]) F dX4_thread_1 (c_X4_needColour E c (by first | assumption | decide | omega) (by first | assumption | decide | omega)) rfl gX4_thread_X4_needColour kS_X4_needColour ⟨by decide, by decide⟩ [] rfl (by decide +kernel) rfl rfl (Nat.le_of_ble_eq_true rfl) ⟨by decide, by decide⟩ ?_
  refine g_iload_n F dX4_thread_4 rfl 2 rfl ?_
  refine g_iconst (v := 2) F dX4_thread_5 (by decide) ?_
  exact g_xcallS (ws' := [(x, .inr (4, [.ref g, .ref p, .ref s, .ref kc, .ref qc, .int col, .int car, .int tur, .int pre, .int cl]))]) F Z dX4_thread_6 (x_X4_needUpTo E w 2 (by first | assumption | decide | omega)) rfl gX4_thread_X4_needUpTo kS_X4_needUpTo rfl ⟨by decide, by decide⟩ [] rfl (by decide +kernel) rfl (Nat.le_of_ble_eq_true rfl) ⟨by decide, by decide⟩ hQ ⟨by decide, by decide⟩

set_option maxHeartbeats 4000000 in
set_option maxRecDepth 100000 in
theorem x_X4_count (E : gE) (x : Nat) (g : Nat) (p : Nat) (s : Nat) (kc : Nat) (qc : Nat) (col : Int32) (car : Int32) (tur : Int32) (pre : Int32) (cl : Int32) (n : Int32) (h0 : ¬ (¬ n < 0 ∧ n ≤ 7)) : CtX E yX4_count wsX4_count ({ frames := 7, cells := 1, slots := 6, locals := 131 }) [.ref x, .int n] [(x, .inr (4, [.ref g, .ref p, .ref s, .ref kc, .ref qc, .int col, .int car, .int tur, .int pre, .int cl]))] "java/lang/IndexOutOfBoundsException" [(x, .inr (4, [.ref g, .ref p, .ref s, .ref kc, .ref qc, .int col, .int car, .int tur, .int pre, .int cl]))] := by
  refine CtX.of (cc := cX4_count) (maxL := 2) (ret := (some .int)) (own := RX4) (L := [(0, .ref x), (1, .int n)]) (by decide) rfl rfl rfl (Nat.le_of_ble_eq_true rfl) rfl ?_
  intro X F Z hQ
  have i0 : ∀ w ∈ u_ws RX0 TX0 6, w ∈ wsX4_count := gsub [77, 78, 79, 80, 81, 82] rfl
  have i1 : ∀ w ∈ u_ws RX1 TX1 1, w ∈ wsX4_count := gsub [83] rfl
  have i3 : ∀ w ∈ u_ws RX3 TX3 1, w ∈ wsX4_count := gsub [76] rfl
  have i4 : ∀ w ∈ u_ws RX4 TX4 10, w ∈ wsX4_count := gsub [66, 67, 68, 69, 70, 71, 72, 73, 74, 75] rfl
  refine g_iload_n F dX4_count_0 rfl 1 rfl ?_
  refine g_bipush (v := 7) F dX4_count_1 (by decide) ?_
  exact g_xcallS (ws' := [(x, .inr (4, [.ref g, .ref p, .ref s, .ref kc, .ref qc, .int col, .int car, .int tur, .int pre, .int cl]))]) F Z dX4_count_3 (x_X4_needUpTo E n 7 (by first | assumption | decide | omega)) rfl gX4_count_X4_needUpTo kS_X4_needUpTo rfl ⟨by decide, by decide⟩ [] rfl (by decide +kernel) rfl (Nat.le_of_ble_eq_true rfl) ⟨by decide, by decide⟩ hQ ⟨by decide, by decide⟩

set_option maxHeartbeats 4000000 in
set_option maxRecDepth 100000 in
theorem x_X4_would_1 (E : gE) (x : Nat) (g : Nat) (p : Nat) (s : Nat) (kc : Nat) (qc : Nat) (col : Int32) (car : Int32) (tur : Int32) (pre : Int32) (cl : Int32) (n : Int32) (w : Int32) (h0 : ¬ (¬ n < 2 ∧ n ≤ 6)) : CtX E yX4_would wsX4_would ({ frames := 8, cells := 1, slots := 6, locals := 152 }) [.ref x, .int n, .int w] [(x, .inr (4, [.ref g, .ref p, .ref s, .ref kc, .ref qc, .int col, .int car, .int tur, .int pre, .int cl]))] "java/lang/IllegalArgumentException" [(x, .inr (4, [.ref g, .ref p, .ref s, .ref kc, .ref qc, .int col, .int car, .int tur, .int pre, .int cl]))] := by
  refine CtX.of (cc := cX4_would) (maxL := 3) (ret := (some .int)) (own := RX4) (L := [(0, .ref x), (1, .int n), (2, .int w)]) (by decide) rfl rfl rfl (Nat.le_of_ble_eq_true rfl) rfl ?_
  intro X F Z hQ
  have i0 : ∀ w ∈ u_ws RX0 TX0 6, w ∈ wsX4_would := gsub [170, 171, 172, 173, 174, 175] rfl
  have i1 : ∀ w ∈ u_ws RX1 TX1 1, w ∈ wsX4_would := gsub [181] rfl
  have i2 : ∀ w ∈ u_ws RX2 TX2 5, w ∈ wsX4_would := gsub [176, 177, 178, 179, 180] rfl
  have i4 : ∀ w ∈ u_ws RX4 TX4 10, w ∈ wsX4_would := gsub [160, 161, 162, 163, 164, 165, 166, 167, 168, 169] rfl
  refine g_iload_n F dX4_would_0 rfl 1 rfl ?_
  exact g_xcallS (ws' := [(x, .inr (4, [.ref g, .ref p, .ref s, .ref kc, .ref qc, .int col, .int car, .int tur, .int pre, .int cl]))]) F Z dX4_would_1 (x_X4_needColours E n (by first | assumption | decide | omega)) rfl gX4_would_X4_needColours kS_X4_needColours rfl ⟨by decide, by decide⟩ [] rfl (by decide +kernel) rfl (Nat.le_of_ble_eq_true rfl) ⟨by decide, by decide⟩ hQ ⟨by decide, by decide⟩

set_option maxHeartbeats 4000000 in
set_option maxRecDepth 100000 in
theorem x_X4_would_2 (E : gE) (x : Nat) (g : Nat) (p : Nat) (s : Nat) (kc : Nat) (qc : Nat) (col : Int32) (car : Int32) (tur : Int32) (pre : Int32) (cl : Int32) (n : Int32) (w : Int32) (h0 : ¬ n < 2) (h1 : n ≤ 6) (h2 : ¬ (¬ w < 0 ∧ w ≤ 2)) : CtX E yX4_would wsX4_would ({ frames := 8, cells := 1, slots := 6, locals := 152 }) [.ref x, .int n, .int w] [(x, .inr (4, [.ref g, .ref p, .ref s, .ref kc, .ref qc, .int col, .int car, .int tur, .int pre, .int cl]))] "java/lang/IndexOutOfBoundsException" [(x, .inr (4, [.ref g, .ref p, .ref s, .ref kc, .ref qc, .int col, .int car, .int tur, .int pre, .int cl]))] := by
  refine CtX.of (cc := cX4_would) (maxL := 3) (ret := (some .int)) (own := RX4) (L := [(0, .ref x), (1, .int n), (2, .int w)]) (by decide) rfl rfl rfl (Nat.le_of_ble_eq_true rfl) rfl ?_
  intro X F Z hQ
  have i0 : ∀ w ∈ u_ws RX0 TX0 6, w ∈ wsX4_would := gsub [170, 171, 172, 173, 174, 175] rfl
  have i1 : ∀ w ∈ u_ws RX1 TX1 1, w ∈ wsX4_would := gsub [181] rfl
  have i2 : ∀ w ∈ u_ws RX2 TX2 5, w ∈ wsX4_would := gsub [176, 177, 178, 179, 180] rfl
  have i4 : ∀ w ∈ u_ws RX4 TX4 10, w ∈ wsX4_would := gsub [160, 161, 162, 163, 164, 165, 166, 167, 168, 169] rfl
  refine g_iload_n F dX4_would_0 rfl 1 rfl ?_
  refine g_callS (ws' := [(x, .inr (4, [.ref g, .ref p, .ref s, .ref kc, .ref qc, .int col, .int car, .int tur, .int pre, .int cl]))]) F dX4_would_1 (c_X4_needColours E n (by first | assumption | decide | omega) (by first | assumption | decide | omega)) rfl gX4_would_X4_needColours kS_X4_needColours ⟨by decide, by decide⟩ [] rfl (by decide +kernel) rfl rfl (Nat.le_of_ble_eq_true rfl) ⟨by decide, by decide⟩ ?_
  refine g_iload_n F dX4_would_4 rfl 2 rfl ?_
  refine g_iconst (v := 2) F dX4_would_5 (by decide) ?_
  exact g_xcallS (ws' := [(x, .inr (4, [.ref g, .ref p, .ref s, .ref kc, .ref qc, .int col, .int car, .int tur, .int pre, .int cl]))]) F Z dX4_would_6 (x_X4_needUpTo E w 2 (by first | assumption | decide | omega)) rfl gX4_would_X4_needUpTo kS_X4_needUpTo rfl ⟨by decide, by decide⟩ [] rfl (by decide +kernel) rfl (Nat.le_of_ble_eq_true rfl) ⟨by decide, by decide⟩ hQ ⟨by decide, by decide⟩

set_option maxHeartbeats 4000000 in
set_option maxRecDepth 100000 in
theorem x_X4_advise (E : gE) (x : Nat) (g : Nat) (p : Nat) (s : Nat) (kc : Nat) (qc : Nat) (col : Int32) (car : Int32) (tur : Int32) (pre : Int32) (cl : Int32) (kn : Int32) (h0 : ¬ (¬ kn < 0 ∧ kn ≤ 96)) : CtX E yX4_advise wsX4_advise ({ frames := 8, cells := 1, slots := 6, locals := 152 }) [.ref x, .int kn] [(x, .inr (4, [.ref g, .ref p, .ref s, .ref kc, .ref qc, .int col, .int car, .int tur, .int pre, .int cl]))] "java/lang/IllegalArgumentException" [(x, .inr (4, [.ref g, .ref p, .ref s, .ref kc, .ref qc, .int col, .int car, .int tur, .int pre, .int cl]))] := by
  refine CtX.of (cc := cX4_advise) (maxL := 6) (ret := (some .int)) (own := RX4) (L := [(0, .ref x), (1, .int kn)]) (by decide) rfl rfl rfl (Nat.le_of_ble_eq_true rfl) rfl ?_
  intro X F Z hQ
  have i0 : ∀ w ∈ u_ws RX0 TX0 6, w ∈ wsX4_advise := gsub [157, 158, 159, 160, 161, 162] rfl
  have i1 : ∀ w ∈ u_ws RX1 TX1 1, w ∈ wsX4_advise := gsub [168] rfl
  have i2 : ∀ w ∈ u_ws RX2 TX2 5, w ∈ wsX4_advise := gsub [163, 164, 165, 166, 167] rfl
  have i4 : ∀ w ∈ u_ws RX4 TX4 10, w ∈ wsX4_advise := gsub [147, 148, 149, 150, 151, 152, 153, 154, 155, 156] rfl
  refine g_iload_n F dX4_advise_0 rfl 1 rfl ?_
  exact g_xcallS (ws' := [(x, .inr (4, [.ref g, .ref p, .ref s, .ref kc, .ref qc, .int col, .int car, .int tur, .int pre, .int cl]))]) F Z dX4_advise_1 (x_X4_needKnots E kn (by first | assumption | decide | omega)) rfl gX4_advise_X4_needKnots kS_X4_needKnots rfl ⟨by decide, by decide⟩ [] rfl (by decide +kernel) rfl (Nat.le_of_ble_eq_true rfl) ⟨by decide, by decide⟩ hQ ⟨by decide, by decide⟩
end PTAPX
