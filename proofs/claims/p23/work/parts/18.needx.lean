/-! the class: the tests of arguments, where they throw -/
section PNEEDX
theorem twX4_needCell : gTw RX4 201 205 "java/lang/IndexOutOfBoundsException" wsX4_needCell := ⟨by decide +kernel, by decide +kernel, List.mem_of_getElem? (i := 1) rfl, List.mem_of_getElem? (i := 2) rfl, fun w h => by unfold wsX4_needCell; exact List.mem_cons_of_mem _ (List.mem_append_right _ h), by decide +kernel, by decide +kernel⟩

theorem twX4_needUpTo : gTw RX4 201 205 "java/lang/IndexOutOfBoundsException" wsX4_needUpTo := ⟨by decide +kernel, by decide +kernel, List.mem_of_getElem? (i := 1) rfl, List.mem_of_getElem? (i := 2) rfl, fun w h => by unfold wsX4_needUpTo; exact List.mem_cons_of_mem _ (List.mem_append_right _ h), by decide +kernel, by decide +kernel⟩

theorem twX4_needWithin : gTw RX4 211 215 "java/lang/IllegalArgumentException" wsX4_needWithin := ⟨by decide +kernel, by decide +kernel, List.mem_of_getElem? (i := 1) rfl, List.mem_of_getElem? (i := 2) rfl, fun w h => by unfold wsX4_needWithin; exact List.mem_cons_of_mem _ (List.mem_append_right _ h), by decide +kernel, by decide +kernel⟩

theorem twX4_needCloth : gTw RX4 184 188 "java/lang/IllegalStateException" wsX4_needCloth := ⟨by decide +kernel, by decide +kernel, List.mem_of_getElem? (i := 1) rfl, List.mem_of_getElem? (i := 2) rfl, fun w h => by unfold wsX4_needCloth; exact List.mem_cons_of_mem _ (List.mem_append_right _ h), by decide +kernel, by decide +kernel⟩

theorem twX4_needThreadFor : gTw RX4 184 188 "java/lang/IllegalStateException" wsX4_needThreadFor := ⟨by decide +kernel, by decide +kernel, List.mem_of_getElem? (i := 1) rfl, List.mem_of_getElem? (i := 2) rfl, fun w h => by unfold wsX4_needThreadFor; exact List.mem_cons_of_mem _ (List.mem_append_right _ h), by decide +kernel, by decide +kernel⟩

set_option maxHeartbeats 4000000 in
set_option maxRecDepth 100000 in
theorem x_X4_needCell (E : gE) (x : Int32) (y : Int32) (h0 : sCell x y = 0) : CtX E yX4_needCell wsX4_needCell ({ frames := 6, cells := 1, slots := 6, locals := 90 }) [.int x, .int y] [] "java/lang/IndexOutOfBoundsException" [] := by
  refine CtX.of (cc := cX4_needCell) (maxL := 2) (ret := none) (own := RX4) (L := [(0, .int x), (1, .int y)]) (by decide) rfl rfl rfl (Nat.le_of_ble_eq_true rfl) rfl ?_
  intro X F Z hQ
  refine g_iload_n F dX4_needCell_0 rfl 0 rfl ?_
  refine g_iload_n F dX4_needCell_1 rfl 1 rfl ?_
  refine g_callS (ws' := []) F dX4_needCell_2 (c_X4_isCell E x y ) rfl gX4_needCell_X4_isCell kS_X4_isCell ⟨by decide, by decide⟩ [] rfl (by decide +kernel) rfl rfl (Nat.le_of_ble_eq_true rfl) ⟨by decide, by decide⟩ ?_
  refine g_if_ne_f (tgt := 18) F dX4_needCell_5 (by decide) (fun q => q h0) ?_
  exact g_throw F Z dX4_needCell_8 dX4_needCell_11 dX4_needCell_12 dX4_needCell_14 dX4_needCell_17 twX4_needCell (List.mem_of_getElem? (i := 0) rfl) (List.mem_of_getElem? (i := 0) rfl) (by decide) (by decide) ⟨by decide, by decide⟩ hQ ⟨by decide, by decide⟩

set_option maxHeartbeats 4000000 in
set_option maxRecDepth 100000 in
theorem x_X4_needUpTo (E : gE) (n : Int32) (t : Int32) (h0 : ¬ (¬ n < 0 ∧ n ≤ t)) : CtX E yX4_needUpTo wsX4_needUpTo ({ frames := 6, cells := 1, slots := 6, locals := 90 }) [.int n, .int t] [] "java/lang/IndexOutOfBoundsException" [] := by
  refine CtX.of (cc := cX4_needUpTo) (maxL := 2) (ret := none) (own := RX4) (L := [(0, .int n), (1, .int t)]) (by decide) rfl rfl rfl (Nat.le_of_ble_eq_true rfl) rfl ?_
  intro X F Z hQ
  refine g_iload_n F dX4_needUpTo_0 rfl 0 rfl ?_
  refine g_if_lt (tgt := 9) F dX4_needUpTo_1 (by decide) (fun k1 => ?_) (fun k1 => ?_)
  · skip
    exact g_throw F Z dX4_needUpTo_9 dX4_needUpTo_12 dX4_needUpTo_13 dX4_needUpTo_15 dX4_needUpTo_18 twX4_needUpTo (List.mem_of_getElem? (i := 2) rfl) (List.mem_of_getElem? (i := 0) rfl) (by decide) (by decide) ⟨by decide, by decide⟩ hQ ⟨by decide, by decide⟩
  · skip
    refine g_iload_n F dX4_needUpTo_4 rfl 0 rfl ?_
    refine g_iload_n F dX4_needUpTo_5 rfl 1 rfl ?_
    refine g_icmp_le_f (tgt := 19) F dX4_needUpTo_6 (by decide) (fun q => h0 ⟨k1, q⟩) ?_
    exact g_throw F Z dX4_needUpTo_9 dX4_needUpTo_12 dX4_needUpTo_13 dX4_needUpTo_15 dX4_needUpTo_18 twX4_needUpTo (List.mem_of_getElem? (i := 2) rfl) (List.mem_of_getElem? (i := 0) rfl) (by decide) (by decide) ⟨by decide, by decide⟩ hQ ⟨by decide, by decide⟩

set_option maxHeartbeats 4000000 in
set_option maxRecDepth 100000 in
theorem x_X4_needWithin (E : gE) (n : Int32) (b : Int32) (t : Int32) (h0 : ¬ (¬ n < b ∧ n ≤ t)) : CtX E yX4_needWithin wsX4_needWithin ({ frames := 6, cells := 1, slots := 6, locals := 90 }) [.int n, .int b, .int t] [] "java/lang/IllegalArgumentException" [] := by
  refine CtX.of (cc := cX4_needWithin) (maxL := 3) (ret := none) (own := RX4) (L := [(0, .int n), (1, .int b), (2, .int t)]) (by decide) rfl rfl rfl (Nat.le_of_ble_eq_true rfl) rfl ?_
  intro X F Z hQ
  refine g_iload_n F dX4_needWithin_0 rfl 0 rfl ?_
  refine g_iload_n F dX4_needWithin_1 rfl 1 rfl ?_
  refine g_icmp_lt (tgt := 10) F dX4_needWithin_2 (by decide) (fun k2 => ?_) (fun k2 => ?_)
  · skip
    exact g_throw F Z dX4_needWithin_10 dX4_needWithin_13 dX4_needWithin_14 dX4_needWithin_16 dX4_needWithin_19 twX4_needWithin (List.mem_of_getElem? (i := 1) rfl) (List.mem_of_getElem? (i := 1) rfl) (by decide) (by decide) ⟨by decide, by decide⟩ hQ ⟨by decide, by decide⟩
  · skip
    refine g_iload_n F dX4_needWithin_5 rfl 0 rfl ?_
    refine g_iload_n F dX4_needWithin_6 rfl 2 rfl ?_
    refine g_icmp_le_f (tgt := 20) F dX4_needWithin_7 (by decide) (fun q => h0 ⟨k2, q⟩) ?_
    exact g_throw F Z dX4_needWithin_10 dX4_needWithin_13 dX4_needWithin_14 dX4_needWithin_16 dX4_needWithin_19 twX4_needWithin (List.mem_of_getElem? (i := 1) rfl) (List.mem_of_getElem? (i := 1) rfl) (by decide) (by decide) ⟨by decide, by decide⟩ hQ ⟨by decide, by decide⟩

set_option maxHeartbeats 4000000 in
set_option maxRecDepth 100000 in
theorem x_X4_needRow (E : gE) (n : Int32) (h0 : ¬ (¬ n < 0 ∧ n ≤ 7)) : CtX E yX4_needRow wsX4_needRow ({ frames := 7, cells := 1, slots := 6, locals := 111 }) [.int n] [] "java/lang/IndexOutOfBoundsException" [] := by
  refine CtX.of (cc := cX4_needRow) (maxL := 1) (ret := none) (own := RX4) (L := [(0, .int n)]) (by decide) rfl rfl rfl (Nat.le_of_ble_eq_true rfl) rfl ?_
  intro X F Z hQ
  refine g_iload_n F dX4_needRow_0 rfl 0 rfl ?_
  refine g_bipush (v := 7) F dX4_needRow_1 (by decide) ?_
  exact g_xcallS (ws' := []) F Z dX4_needRow_3 (x_X4_needUpTo E n 7 (by first | assumption | decide | omega)) rfl gX4_needRow_X4_needUpTo kS_X4_needUpTo rfl ⟨by decide, by decide⟩ [] rfl (by decide +kernel) rfl (Nat.le_of_ble_eq_true rfl) ⟨by decide, by decide⟩ hQ ⟨by decide, by decide⟩

set_option maxHeartbeats 4000000 in
set_option maxRecDepth 100000 in
theorem x_X4_needColour (E : gE) (n : Int32) (h0 : ¬ (¬ n < 0 ∧ n ≤ 5)) : CtX E yX4_needColour wsX4_needColour ({ frames := 7, cells := 1, slots := 6, locals := 111 }) [.int n] [] "java/lang/IndexOutOfBoundsException" [] := by
  refine CtX.of (cc := cX4_needColour) (maxL := 1) (ret := none) (own := RX4) (L := [(0, .int n)]) (by decide) rfl rfl rfl (Nat.le_of_ble_eq_true rfl) rfl ?_
  intro X F Z hQ
  refine g_iload_n F dX4_needColour_0 rfl 0 rfl ?_
  refine g_iconst (v := 5) F dX4_needColour_1 (by decide) ?_
  exact g_xcallS (ws' := []) F Z dX4_needColour_2 (x_X4_needUpTo E n 5 (by first | assumption | decide | omega)) rfl gX4_needColour_X4_needUpTo kS_X4_needUpTo rfl ⟨by decide, by decide⟩ [] rfl (by decide +kernel) rfl (Nat.le_of_ble_eq_true rfl) ⟨by decide, by decide⟩ hQ ⟨by decide, by decide⟩

set_option maxHeartbeats 4000000 in
set_option maxRecDepth 100000 in
theorem x_X4_needShade (E : gE) (n : Int32) (h0 : ¬ (¬ n < 0 ∧ n ≤ 255)) : CtX E yX4_needShade wsX4_needShade ({ frames := 7, cells := 1, slots := 6, locals := 112 }) [.int n] [] "java/lang/IllegalArgumentException" [] := by
  refine CtX.of (cc := cX4_needShade) (maxL := 1) (ret := none) (own := RX4) (L := [(0, .int n)]) (by decide) rfl rfl rfl (Nat.le_of_ble_eq_true rfl) rfl ?_
  intro X F Z hQ
  refine g_iload_n F dX4_needShade_0 rfl 0 rfl ?_
  refine g_iconst (v := 0) F dX4_needShade_1 (by decide) ?_
  refine g_sipush (v := 255) F dX4_needShade_2 (by decide) ?_
  exact g_xcallS (ws' := []) F Z dX4_needShade_5 (x_X4_needWithin E n 0 255 (by first | assumption | decide | omega)) rfl gX4_needShade_X4_needWithin kS_X4_needWithin rfl ⟨by decide, by decide⟩ [] rfl (by decide +kernel) rfl (Nat.le_of_ble_eq_true rfl) ⟨by decide, by decide⟩ hQ ⟨by decide, by decide⟩

set_option maxHeartbeats 4000000 in
set_option maxRecDepth 100000 in
theorem x_X4_needStep (E : gE) (n : Int32) (h0 : ¬ (¬ n < (-60) ∧ n ≤ 60)) : CtX E yX4_needStep wsX4_needStep ({ frames := 7, cells := 1, slots := 6, locals := 112 }) [.int n] [] "java/lang/IllegalArgumentException" [] := by
  refine CtX.of (cc := cX4_needStep) (maxL := 1) (ret := none) (own := RX4) (L := [(0, .int n)]) (by decide) rfl rfl rfl (Nat.le_of_ble_eq_true rfl) rfl ?_
  intro X F Z hQ
  refine g_iload_n F dX4_needStep_0 rfl 0 rfl ?_
  refine g_bipush (v := (-60)) F dX4_needStep_1 (by decide) ?_
  refine g_bipush (v := 60) F dX4_needStep_3 (by decide) ?_
  exact g_xcallS (ws' := []) F Z dX4_needStep_5 (x_X4_needWithin E n (-60) 60 (by first | assumption | decide | omega)) rfl gX4_needStep_X4_needWithin kS_X4_needWithin rfl ⟨by decide, by decide⟩ [] rfl (by decide +kernel) rfl (Nat.le_of_ble_eq_true rfl) ⟨by decide, by decide⟩ hQ ⟨by decide, by decide⟩

set_option maxHeartbeats 4000000 in
set_option maxRecDepth 100000 in
theorem x_X4_needColours (E : gE) (n : Int32) (h0 : ¬ (¬ n < 2 ∧ n ≤ 6)) : CtX E yX4_needColours wsX4_needColours ({ frames := 7, cells := 1, slots := 6, locals := 112 }) [.int n] [] "java/lang/IllegalArgumentException" [] := by
  refine CtX.of (cc := cX4_needColours) (maxL := 1) (ret := none) (own := RX4) (L := [(0, .int n)]) (by decide) rfl rfl rfl (Nat.le_of_ble_eq_true rfl) rfl ?_
  intro X F Z hQ
  refine g_iload_n F dX4_needColours_0 rfl 0 rfl ?_
  refine g_iconst (v := 2) F dX4_needColours_1 (by decide) ?_
  refine g_bipush (v := 6) F dX4_needColours_2 (by decide) ?_
  exact g_xcallS (ws' := []) F Z dX4_needColours_4 (x_X4_needWithin E n 2 6 (by first | assumption | decide | omega)) rfl gX4_needColours_X4_needWithin kS_X4_needWithin rfl ⟨by decide, by decide⟩ [] rfl (by decide +kernel) rfl (Nat.le_of_ble_eq_true rfl) ⟨by decide, by decide⟩ hQ ⟨by decide, by decide⟩

set_option maxHeartbeats 4000000 in
set_option maxRecDepth 100000 in
theorem x_X4_needWindable (E : gE) (n : Int32) (h0 : ¬ (¬ n < 1 ∧ n ≤ 99)) : CtX E yX4_needWindable wsX4_needWindable ({ frames := 7, cells := 1, slots := 6, locals := 112 }) [.int n] [] "java/lang/IllegalArgumentException" [] := by
  refine CtX.of (cc := cX4_needWindable) (maxL := 1) (ret := none) (own := RX4) (L := [(0, .int n)]) (by decide) rfl rfl rfl (Nat.le_of_ble_eq_true rfl) rfl ?_
  intro X F Z hQ
  refine g_iload_n F dX4_needWindable_0 rfl 0 rfl ?_
  refine g_iconst (v := 1) F dX4_needWindable_1 (by decide) ?_
  refine g_bipush (v := 99) F dX4_needWindable_2 (by decide) ?_
  exact g_xcallS (ws' := []) F Z dX4_needWindable_4 (x_X4_needWithin E n 1 99 (by first | assumption | decide | omega)) rfl gX4_needWindable_X4_needWithin kS_X4_needWithin rfl ⟨by decide, by decide⟩ [] rfl (by decide +kernel) rfl (Nat.le_of_ble_eq_true rfl) ⟨by decide, by decide⟩ hQ ⟨by decide, by decide⟩

set_option maxHeartbeats 4000000 in
set_option maxRecDepth 100000 in
theorem x_X4_needKnots (E : gE) (n : Int32) (h0 : ¬ (¬ n < 0 ∧ n ≤ 96)) : CtX E yX4_needKnots wsX4_needKnots ({ frames := 7, cells := 1, slots := 6, locals := 112 }) [.int n] [] "java/lang/IllegalArgumentException" [] := by
  refine CtX.of (cc := cX4_needKnots) (maxL := 1) (ret := none) (own := RX4) (L := [(0, .int n)]) (by decide) rfl rfl rfl (Nat.le_of_ble_eq_true rfl) rfl ?_
  intro X F Z hQ
  refine g_iload_n F dX4_needKnots_0 rfl 0 rfl ?_
  refine g_iconst (v := 0) F dX4_needKnots_1 (by decide) ?_
  refine g_bipush (v := 96) F dX4_needKnots_2 (by decide) ?_
  exact g_xcallS (ws' := []) F Z dX4_needKnots_4 (x_X4_needWithin E n 0 96 (by first | assumption | decide | omega)) rfl gX4_needKnots_X4_needWithin kS_X4_needWithin rfl ⟨by decide, by decide⟩ [] rfl (by decide +kernel) rfl (Nat.le_of_ble_eq_true rfl) ⟨by decide, by decide⟩ hQ ⟨by decide, by decide⟩

set_option maxHeartbeats 4000000 in
set_option maxRecDepth 100000 in
theorem x_X4_needCloth (E : gE) (x : Nat) (g : Nat) (p : Nat) (s : Nat) (kc : Nat) (qc : Nat) (col : Int32) (car : Int32) (tur : Int32) (pre : Int32) (cl : Int32) (h0 : sHas cl = 0) : CtX E yX4_needCloth wsX4_needCloth ({ frames := 6, cells := 1, slots := 6, locals := 90 }) [.ref x] [(x, .inr (4, [.ref g, .ref p, .ref s, .ref kc, .ref qc, .int col, .int car, .int tur, .int pre, .int cl]))] "java/lang/IllegalStateException" [(x, .inr (4, [.ref g, .ref p, .ref s, .ref kc, .ref qc, .int col, .int car, .int tur, .int pre, .int cl]))] := by
  refine CtX.of (cc := cX4_needCloth) (maxL := 1) (ret := none) (own := RX4) (L := [(0, .ref x)]) (by decide) rfl rfl rfl (Nat.le_of_ble_eq_true rfl) rfl ?_
  intro X F Z hQ
  have i4 : ∀ w ∈ u_ws RX4 TX4 10, w ∈ wsX4_needCloth := gsub [9, 10, 11, 12, 13, 14, 15, 16, 17, 18] rfl
  refine g_aload_n F dX4_needCloth_0 rfl 0 rfl ?_
  refine g_callV (ws' := [(x, .inr (4, [.ref g, .ref p, .ref s, .ref kc, .ref qc, .int col, .int car, .int tur, .int pre, .int cl]))]) F dX4_needCloth_1 (c_X4_hasCloth E x g p s kc qc col car tur pre cl ) rfl gX4_needCloth_X4_hasCloth 0 rfl rfl kV_X4_hasCloth ⟨by decide, by decide⟩ [0] rfl (by decide +kernel) rfl rfl (Nat.le_of_ble_eq_true rfl) ⟨by decide, by decide⟩ ?_
  refine g_if_ne_f (tgt := 17) F dX4_needCloth_4 (by decide) (fun q => q h0) ?_
  exact g_throw F Z dX4_needCloth_7 dX4_needCloth_10 dX4_needCloth_11 dX4_needCloth_13 dX4_needCloth_16 twX4_needCloth (List.mem_of_getElem? (i := 4) rfl) (List.mem_of_getElem? (i := 2) rfl) (by decide) (by decide) ⟨by decide, by decide⟩ hQ ⟨by decide, by decide⟩

set_option maxHeartbeats 4000000 in
set_option maxRecDepth 100000 in
theorem x_X4_needThreadFor (E : gE) (x : Nat) (g : Nat) (p : Nat) (s : Nat) (sa : Nat) (kc : Nat) (qc : Nat) (qd : Nat) (qd1 : Nat) (qd2 : Nat) (qd3 : Nat) (qd4 : Nat) (qw : Nat) (qwa : Nat) (qca : Nat) (qcb : Nat) (qr : Nat) (qra : Nat) (qu : Nat) (th : AF) (qt : AF) (qso : AF) (qst : AF) (qsh : AF) (qfw : AF) (qfc : AF) (qfr : AF) (qfu : AF) (qbx : Int32) (qoff : Int32) (col : Int32) (car : Int32) (tur : Int32) (pre : Int32) (cl : Int32) (h0 : sSuf qfu th = 0) : CtX E yX4_needThreadFor wsX4_needThreadFor ({ frames := 6, cells := 1, slots := 6, locals := 90 }) [.ref x, .ref qc] [(x, .inr (4, [.ref g, .ref p, .ref s, .ref kc, .ref qc, .int col, .int car, .int tur, .int pre, .int cl])), (s, .inr (3, [.ref sa])), (sa, .inl (E.2.2, 6, .inl th)), (qc, .inr (0, [.ref qd, .ref qw, .ref qca, .ref qr, .ref qu, .int qoff])), (qd, .inr (2, [.ref qd1, .ref qd2, .ref qd3, .ref qd4, .int qbx])), (qd1, .inl (E.2.2, 256, .inl qt)), (qd2, .inl (E.2.2, 96, .inl qso)), (qd3, .inl (E.2.2, 6, .inl qst)), (qd4, .inl (E.2.2, 6, .inl qsh)), (qw, .inr (1, [.ref qwa])), (qwa, .inl (E.2.2, 96, .inl qfw)), (qca, .inr (1, [.ref qcb])), (qcb, .inl (E.2.2, 96, .inl qfc)), (qr, .inr (1, [.ref qra])), (qra, .inl (E.2.2, 96, .inl qfr)), (qu, .inl (E.2.2, 6, .inl qfu))] "java/lang/IllegalStateException" [(x, .inr (4, [.ref g, .ref p, .ref s, .ref kc, .ref qc, .int col, .int car, .int tur, .int pre, .int cl])), (s, .inr (3, [.ref sa])), (sa, .inl (E.2.2, 6, .inl th)), (qc, .inr (0, [.ref qd, .ref qw, .ref qca, .ref qr, .ref qu, .int qoff])), (qd, .inr (2, [.ref qd1, .ref qd2, .ref qd3, .ref qd4, .int qbx])), (qd1, .inl (E.2.2, 256, .inl qt)), (qd2, .inl (E.2.2, 96, .inl qso)), (qd3, .inl (E.2.2, 6, .inl qst)), (qd4, .inl (E.2.2, 6, .inl qsh)), (qw, .inr (1, [.ref qwa])), (qwa, .inl (E.2.2, 96, .inl qfw)), (qca, .inr (1, [.ref qcb])), (qcb, .inl (E.2.2, 96, .inl qfc)), (qr, .inr (1, [.ref qra])), (qra, .inl (E.2.2, 96, .inl qfr)), (qu, .inl (E.2.2, 6, .inl qfu))] := by
  refine CtX.of (cc := cX4_needThreadFor) (maxL := 2) (ret := none) (own := RX4) (L := [(0, .ref x), (1, .ref qc)]) (by decide) rfl rfl rfl (Nat.le_of_ble_eq_true rfl) rfl ?_
  intro X F Z hQ
  have i0 : ∀ w ∈ u_ws RX0 TX0 6, w ∈ wsX4_needThreadFor := gsub [33, 34, 35, 36, 37, 38] rfl
  have i3 : ∀ w ∈ u_ws RX3 TX3 1, w ∈ wsX4_needThreadFor := gsub [39] rfl
  have i4 : ∀ w ∈ u_ws RX4 TX4 10, w ∈ wsX4_needThreadFor := gsub [23, 24, 25, 26, 27, 28, 29, 30, 31, 32] rfl
  refine g_aload_n F dX4_needThreadFor_0 rfl 0 rfl ?_
  refine g_get F dX4_needThreadFor_1 0 rfl rfl i4 2 (by decide) rfl (List.mem_of_getElem? (i := 3) rfl) ?_
  refine g_aload_n F dX4_needThreadFor_4 rfl 1 rfl ?_
  refine g_callV (ws' := [(x, .inr (4, [.ref g, .ref p, .ref s, .ref kc, .ref qc, .int col, .int car, .int tur, .int pre, .int cl])), (s, .inr (3, [.ref sa])), (sa, .inl (E.2.2, 6, .inl th)), (qc, .inr (0, [.ref qd, .ref qw, .ref qca, .ref qr, .ref qu, .int qoff])), (qd, .inr (2, [.ref qd1, .ref qd2, .ref qd3, .ref qd4, .int qbx])), (qd1, .inl (E.2.2, 256, .inl qt)), (qd2, .inl (E.2.2, 96, .inl qso)), (qd3, .inl (E.2.2, 6, .inl qst)), (qd4, .inl (E.2.2, 6, .inl qsh)), (qw, .inr (1, [.ref qwa])), (qwa, .inl (E.2.2, 96, .inl qfw)), (qca, .inr (1, [.ref qcb])), (qcb, .inl (E.2.2, 96, .inl qfc)), (qr, .inr (1, [.ref qra])), (qra, .inl (E.2.2, 96, .inl qfr)), (qu, .inl (E.2.2, 6, .inl qfu))]) F dX4_needThreadFor_5 (c_X3_sufficeFor E s sa th qc qd qd1 qd2 qd3 qd4 qw qwa qca qcb qr qra qu qt qso qst qsh qfw qfc qfr qfu qoff qbx ) rfl gX4_needThreadFor_X3_sufficeFor 1 rfl rfl kV_X3_sufficeFor ⟨by decide, by decide⟩ [1, 2, 3, 4, 5, 6, 7, 8, 9, 10, 11, 12, 13, 14, 15] rfl (by decide +kernel) rfl rfl (Nat.le_of_ble_eq_true rfl) ⟨by decide, by decide⟩ ?_
  refine g_if_ne_f (tgt := 21) F dX4_needThreadFor_8 (by decide) (fun q => q h0) ?_
  exact g_throw F Z dX4_needThreadFor_11 dX4_needThreadFor_14 dX4_needThreadFor_15 dX4_needThreadFor_17 dX4_needThreadFor_20 twX4_needThreadFor (List.mem_of_getElem? (i := 3) rfl) (List.mem_of_getElem? (i := 2) rfl) (by decide) (by decide) ⟨by decide, by decide⟩ hQ ⟨by decide, by decide⟩
end PNEEDX
