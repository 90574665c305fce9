/-! the class: valid calls, first half -/
section PTAPA
set_option maxHeartbeats 4000000 in
set_option maxRecDepth 100000 in
theorem c_X4_hasCloth (E : gE) (x : Nat) (g : Nat) (p : Nat) (s : Nat) (kc : Nat) (qc : Nat) (col : Int32) (car : Int32) (tur : Int32) (pre : Int32) (cl : Int32) : Ct E yX4_hasCloth wsX4_hasCloth ({ frames := 0, cells := 0, slots := 0, locals := 0 }) [.ref x] [(x, .inr (4, [.ref g, .ref p, .ref s, .ref kc, .ref qc, .int col, .int car, .int tur, .int pre, .int cl]))] (some (.int (sHas cl))) [(x, .inr (4, [.ref g, .ref p, .ref s, .ref kc, .ref qc, .int col, .int car, .int tur, .int pre, .int cl]))] := by
  refine Ct.of (cc := cX4_hasCloth) (maxL := 1) (ret := (some .boolean)) (own := RX4) (L := [(0, .ref x)]) (by decide) rfl rfl rfl (Nat.le_of_ble_eq_true rfl) rfl ?_
  intro X F hQ
  have i4 : ∀ w ∈ u_ws RX4 TX4 10, w ∈ wsX4_hasCloth := gsub [2, 3, 4, 5, 6, 7, 8, 9, 10, 11] rfl
  refine g_aload_n F dX4_hasCloth_0 rfl 0 rfl ?_
  refine g_get F dX4_hasCloth_1 0 rfl rfl i4 9 (by decide) rfl (List.mem_of_getElem? (i := 1) rfl) ?_
  refine g_if_le (tgt := 11) F dX4_hasCloth_4 (by decide) (fun k4 => ?_) (fun k4 => ?_)
  · skip
    refine g_iconst (v := 0) F dX4_hasCloth_11 (by decide) ?_
    exact g_zret F hQ dX4_hasCloth_12 (Or.inl rfl) (by simp [sHas, k4]) (rfl)
  · skip
    refine g_iconst (v := 1) F dX4_hasCloth_7 (by decide) ?_
    refine g_goto (tgt := 12) F dX4_hasCloth_8 (by decide) ?_
    exact g_zret F hQ dX4_hasCloth_12 (Or.inr rfl) (by simp [sHas, k4]) (rfl)

set_option maxHeartbeats 4000000 in
set_option maxRecDepth 100000 in
theorem c_X4_needCloth (E : gE) (x : Nat) (g : Nat) (p : Nat) (s : Nat) (kc : Nat) (qc : Nat) (col : Int32) (car : Int32) (tur : Int32) (pre : Int32) (cl : Int32) (h0 : ¬ sHas cl = 0) : Ct E yX4_needCloth wsX4_needCloth ({ frames := 6, cells := 0, slots := 0, locals := 90 }) [.ref x] [(x, .inr (4, [.ref g, .ref p, .ref s, .ref kc, .ref qc, .int col, .int car, .int tur, .int pre, .int cl]))] none [(x, .inr (4, [.ref g, .ref p, .ref s, .ref kc, .ref qc, .int col, .int car, .int tur, .int pre, .int cl]))] := by
  refine Ct.of (cc := cX4_needCloth) (maxL := 1) (ret := none) (own := RX4) (L := [(0, .ref x)]) (by decide) rfl rfl rfl (Nat.le_of_ble_eq_true rfl) rfl ?_
  intro X F hQ
  have i4 : ∀ w ∈ u_ws RX4 TX4 10, w ∈ wsX4_needCloth := gsub [9, 10, 11, 12, 13, 14, 15, 16, 17, 18] rfl
  refine g_aload_n F dX4_needCloth_0 rfl 0 rfl ?_
  refine g_callV (ws' := [(x, .inr (4, [.ref g, .ref p, .ref s, .ref kc, .ref qc, .int col, .int car, .int tur, .int pre, .int cl]))]) F dX4_needCloth_1 (c_X4_hasCloth E x g p s kc qc col car tur pre cl ) rfl gX4_needCloth_X4_hasCloth 0 rfl rfl kV_X4_hasCloth ⟨by decide, by decide⟩ [0] rfl (by decide +kernel) rfl rfl (Nat.le_of_ble_eq_true rfl) ⟨by decide, by decide⟩ ?_
  refine g_if_ne_t (tgt := 17) F dX4_needCloth_4 (by decide) (h0) ?_
  exact g_vret F hQ dX4_needCloth_17 (rfl)

set_option maxHeartbeats 4000000 in
set_option maxRecDepth 100000 in
theorem c_X4_needThreadFor (E : gE) (x : Nat) (g : Nat) (p : Nat) (s : Nat) (sa : Nat) (kc : Nat) (qc : Nat) (qd : Nat) (qd1 : Nat) (qd2 : Nat) (qd3 : Nat) (qd4 : Nat) (qw : Nat) (qwa : Nat) (qca : Nat) (qcb : Nat) (qr : Nat) (qra : Nat) (qu : Nat) (th : AF) (qt : AF) (qso : AF) (qst : AF) (qsh : AF) (qfw : AF) (qfc : AF) (qfr : AF) (qfu : AF) (qbx : Int32) (qoff : Int32) (col : Int32) (car : Int32) (tur : Int32) (pre : Int32) (cl : Int32) (h0 : ¬ sSuf qfu th = 0) : Ct E yX4_needThreadFor wsX4_needThreadFor ({ frames := 6, cells := 0, slots := 0, locals := 90 }) [.ref x, .ref qc] [(x, .inr (4, [.ref g, .ref p, .ref s, .ref kc, .ref qc, .int col, .int car, .int tur, .int pre, .int cl])), (s, .inr (3, [.ref sa])), (sa, .inl (E.2.2, 6, .inl th)), (qc, .inr (0, [.ref qd, .ref qw, .ref qca, .ref qr, .ref qu, .int qoff])), (qd, .inr (2, [.ref qd1, .ref qd2, .ref qd3, .ref qd4, .int qbx])), (qd1, .inl (E.2.2, 256, .inl qt)), (qd2, .inl (E.2.2, 96, .inl qso)), (qd3, .inl (E.2.2, 6, .inl qst)), (qd4, .inl (E.2.2, 6, .inl qsh)), (qw, .inr (1, [.ref qwa])), (qwa, .inl (E.2.2, 96, .inl qfw)), (qca, .inr (1, [.ref qcb])), (qcb, .inl (E.2.2, 96, .inl qfc)), (qr, .inr (1, [.ref qra])), (qra, .inl (E.2.2, 96, .inl qfr)), (qu, .inl (E.2.2, 6, .inl qfu))] none [(x, .inr (4, [.ref g, .ref p, .ref s, .ref kc, .ref qc, .int col, .int car, .int tur, .int pre, .int cl])), (s, .inr (3, [.ref sa])), (sa, .inl (E.2.2, 6, .inl th)), (qc, .inr (0, [.ref qd, .ref qw, .ref qca, .ref qr, .ref qu, .int qoff])), (qd, .inr (2, [.ref qd1, .ref qd2, .ref qd3, .ref qd4, .int qbx])), (qd1, .inl (E.2.2, 256, .inl qt)), (qd2, .inl (E.2.2, 96, .inl qso)), (qd3, .inl (E.2.2, 6, .inl qst)), (qd4, .inl (E.2.2, 6, .inl qsh)), (qw, .inr (1, [.ref qwa])), (qwa, .inl (E.2.2, 96, .inl qfw)), (qca, .inr (1, [.ref qcb])), (qcb, .inl (E.2.2, 96, .inl qfc)), (qr, .inr (1, [.ref qra])), (qra, .inl (E.2.2, 96, .inl qfr)), (qu, .inl (E.2.2, 6, .inl qfu))] := by
  refine Ct.of (cc := cX4_needThreadFor) (maxL := 2) (ret := none) (own := RX4) (L := [(0, .ref x), (1, .ref qc)]) (by decide) rfl rfl rfl (Nat.le_of_ble_eq_true rfl) rfl ?_
  intro X F hQ
  have i0 : ∀ w ∈ u_ws RX0 TX0 6, w ∈ wsX4_needThreadFor := gsub [33, 34, 35, 36, 37, 38] rfl
  have i3 : ∀ w ∈ u_ws RX3 TX3 1, w ∈ wsX4_needThreadFor := gsub [39] rfl
  have i4 : ∀ w ∈ u_ws RX4 TX4 10, w ∈ wsX4_needThreadFor := gsub [23, 24, 25, 26, 27, 28, 29, 30, 31, 32] rfl
  refine g_aload_n F dX4_needThreadFor_0 rfl 0 rfl ?_
  refine g_get F dX4_needThreadFor_1 0 rfl rfl i4 2 (by decide) rfl (List.mem_of_getElem? (i := 3) rfl) ?_
  refine g_aload_n F dX4_needThreadFor_4 rfl 1 rfl ?_
  refine g_callV (ws' := [(x, .inr (4, [.ref g, .ref p, .ref s, .ref kc, .ref qc, .int col, .int car, .int tur, .int pre, .int cl])), (s, .inr (3, [.ref sa])), (sa, .inl (E.2.2, 6, .inl th)), (qc, .inr (0, [.ref qd, .ref qw, .ref qca, .ref qr, .ref qu, .int qoff])), (qd, .inr (2, [.ref qd1, .ref qd2, .ref qd3, .ref qd4, .int qbx])), (qd1, .inl (E.2.2, 256, .inl qt)), (qd2, .inl (E.2.2, 96, .inl qso)), (qd3, .inl (E.2.2, 6, .inl qst)), (qd4, .inl (E.2.2, 6, .inl qsh)), (qw, .inr (1, [.ref qwa])), (qwa, .inl (E.2.2, 96, .inl qfw)), (qca, .inr (1, [.ref qcb])), (qcb, .inl (E.2.2, 96, .inl qfc)), (qr, .inr (1, [.ref qra])), (qra, .inl (E.2.2, 96, .inl qfr)), (qu, .inl (E.2.2, 6, .inl qfu))]) F dX4_needThreadFor_5 (c_X3_sufficeFor E s sa th qc qd qd1 qd2 qd3 qd4 qw qwa qca qcb qr qra qu qt qso qst qsh qfw qfc qfr qfu qoff qbx ) rfl gX4_needThreadFor_X3_sufficeFor 1 rfl rfl kV_X3_sufficeFor ⟨by decide, by decide⟩ [1, 2, 3, 4, 5, 6, 7, 8, 9, 10, 11, 12, 13, 14, 15] rfl (by decide +kernel) rfl rfl (Nat.le_of_ble_eq_true rfl) ⟨by decide, by decide⟩ ?_
  refine g_if_ne_t (tgt := 21) F dX4_needThreadFor_8 (by decide) (h0) ?_
  exact g_vret F hQ dX4_needThreadFor_21 (rfl)

set_option maxHeartbeats 4000000 in
set_option maxRecDepth 100000 in
theorem c_X4_keepTrial (E : gE) (x : Nat) (g : Nat) (p : Nat) (s : Nat) (kc : Nat) (qc : Nat) (col : Int32) (car : Int32) (tur : Int32) (pre : Int32) (cl : Int32) : Ct E yX4_keepTrial wsX4_keepTrial ({ frames := 0, cells := 0, slots := 0, locals := 0 }) [.ref x] [(x, .inr (4, [.ref g, .ref p, .ref s, .ref kc, .ref qc, .int col, .int car, .int tur, .int pre, .int cl]))] none [(x, .inr (4, [.ref g, .ref p, .ref s, .ref qc, .ref kc, .int col, .int car, .int tur, .int pre, .int (cl + 1)]))] := by
  refine Ct.of (cc := cX4_keepTrial) (maxL := 2) (ret := none) (own := RX4) (L := [(0, .ref x)]) (by decide) rfl rfl rfl (Nat.le_of_ble_eq_true rfl) rfl ?_
  intro X F hQ
  have i4 : ∀ w ∈ u_ws RX4 TX4 10, w ∈ wsX4_keepTrial := gsub [4, 5, 6, 7, 8, 9, 10, 11, 12, 13] rfl
  refine g_aload_n F dX4_keepTrial_0 rfl 0 rfl ?_
  refine g_get F dX4_keepTrial_1 0 rfl rfl i4 3 (by decide) rfl (List.mem_of_getElem? (i := 1) rfl) ?_
  refine g_astore_n (L' := [(0, .ref x), (1, .ref kc)]) F dX4_keepTrial_4 rfl (by decide) [1, 0] rfl ?_
  refine g_aload_n F dX4_keepTrial_5 rfl 0 rfl ?_
  refine g_aload_n F dX4_keepTrial_6 rfl 0 rfl ?_
  refine g_get F dX4_keepTrial_7 0 rfl rfl i4 4 (by decide) rfl (List.mem_of_getElem? (i := 2) rfl) ?_
  refine g_put (ws' := [(x, .inr (4, [.ref g, .ref p, .ref s, .ref qc, .ref qc, .int col, .int car, .int tur, .int pre, .int cl]))]) F dX4_keepTrial_10 0 rfl rfl i4 tyX4 tyX4_ok nmX4 3 (by decide) rfl (rfl) (rfl) (Nat.le_of_ble_eq_true rfl) (List.mem_of_getElem? (i := 1) rfl) rfl ?_
  refine g_aload_n F dX4_keepTrial_13 rfl 0 rfl ?_
  refine g_aload_n F dX4_keepTrial_14 rfl 1 rfl ?_
  refine g_put (ws' := [(x, .inr (4, [.ref g, .ref p, .ref s, .ref qc, .ref kc, .int col, .int car, .int tur, .int pre, .int cl]))]) F dX4_keepTrial_15 0 rfl rfl i4 tyX4 tyX4_ok nmX4 4 (by decide) rfl (rfl) (rfl) (Nat.le_of_ble_eq_true rfl) (List.mem_of_getElem? (i := 2) rfl) rfl ?_
  refine g_aload_n F dX4_keepTrial_18 rfl 0 rfl ?_
  refine g_dup F dX4_keepTrial_19 rfl ?_
  refine g_get F dX4_keepTrial_20 0 rfl rfl i4 9 (by decide) rfl (List.mem_of_getElem? (i := 3) rfl) ?_
  refine g_iconst (v := 1) F dX4_keepTrial_23 (by decide) ?_
  refine g_iadd F dX4_keepTrial_24 ?_
  refine g_put (ws' := [(x, .inr (4, [.ref g, .ref p, .ref s, .ref qc, .ref kc, .int col, .int car, .int tur, .int pre, .int (cl + 1)]))]) F dX4_keepTrial_25 0 rfl rfl i4 tyX4 tyX4_ok nmX4 9 (by decide) rfl (rfl) (rfl) (Nat.le_of_ble_eq_true rfl) (List.mem_of_getElem? (i := 3) rfl) rfl ?_
  exact g_vret F hQ dX4_keepTrial_28 (rfl)

set_option maxHeartbeats 4000000 in
set_option maxRecDepth 100000 in
theorem c_X4_set (E : gE) (x : Nat) (g : Nat) (ga : Nat) (p : Nat) (s : Nat) (kc : Nat) (qc : Nat) (f : AF) (col : Int32) (car : Int32) (tur : Int32) (pre : Int32) (cl : Int32) (a : Int32) (b : Int32) (v : Int32) (h0 : ¬ sCell a b = 0) (h1 : ¬ v < 0) (h2 : v ≤ 255) : Ct E yX4_set wsX4_set ({ frames := 8, cells := 0, slots := 0, locals := 132 }) [.ref x, .int a, .int b, .int v] [(x, .inr (4, [.ref g, .ref p, .ref s, .ref kc, .ref qc, .int col, .int car, .int tur, .int pre, .int cl])), (g, .inr (1, [.ref ga])), (ga, .inl (E.2.2, 96, .inl f))] (some (.int (sGAt f a b))) [(x, .inr (4, [.ref g, .ref p, .ref s, .ref kc, .ref qc, .int col, .int car, .int tur, .int pre, .int cl])), (g, .inr (1, [.ref ga])), (ga, .inl (E.2.2, 96, .inl (sGPut f a b v)))] := by
  refine Ct.of (cc := cX4_set) (maxL := 5) (ret := (some .int)) (own := RX4) (L := [(0, .ref x), (1, .int a), (2, .int b), (3, .int v)]) (by decide) rfl rfl rfl (Nat.le_of_ble_eq_true rfl) rfl ?_
  intro X F hQ
  have i1 : ∀ w ∈ u_ws RX1 TX1 1, w ∈ wsX4_set := gsub [43] rfl
  have i4 : ∀ w ∈ u_ws RX4 TX4 10, w ∈ wsX4_set := gsub [33, 34, 35, 36, 37, 38, 39, 40, 41, 42] rfl
  refine g_iload_n F dX4_set_0 rfl 1 rfl ?_
  refine g_iload_n F dX4_set_1 rfl 2 rfl ?_
  refine g_callS (ws' := [(x, .inr (4, [.ref g, .ref p, .ref s, .ref kc, .ref qc, .int col, .int car, .int tur, .int pre, .int cl])), (g, .inr (1, [.ref ga])), (ga, .inl (E.2.2, 96, .inl f))]) F dX4_set_2 (c_X4_needCell E a b (by first | assumption | decide | omega)) rfl gX4_set_X4_needCell kS_X4_needCell ⟨by decide, by decide⟩ [] rfl (by decide +kernel) rfl rfl (Nat.le_of_ble_eq_true rfl) ⟨by decide, by decide⟩ ?_
  refine g_iload_n F dX4_set_5 rfl 3 rfl ?_
  refine g_callS (ws' := [(x, .inr (4, [.ref g, .ref p, .ref s, .ref kc, .ref qc, .int col, .int car, .int tur, .int pre, .int cl])), (g, .inr (1, [.ref ga])), (ga, .inl (E.2.2, 96, .inl f))]) F dX4_set_6 (c_X4_needShade E v (by first | assumption | decide | omega) (by first | assumption | decide | omega)) rfl gX4_set_X4_needShade kS_X4_needShade ⟨by decide, by decide⟩ [] rfl (by decide +kernel) rfl rfl (Nat.le_of_ble_eq_true rfl) ⟨by decide, by decide⟩ ?_
  refine g_aload_n F dX4_set_9 rfl 0 rfl ?_
  refine g_get F dX4_set_10 0 rfl rfl i4 0 (by decide) rfl (List.mem_of_getElem? (i := 1) rfl) ?_
  refine g_iload_n F dX4_set_13 rfl 1 rfl ?_
  refine g_iload_n F dX4_set_14 rfl 2 rfl ?_
  refine g_callV (ws' := [(x, .inr (4, [.ref g, .ref p, .ref s, .ref kc, .ref qc, .int col, .int car, .int tur, .int pre, .int cl])), (g, .inr (1, [.ref ga])), (ga, .inl (E.2.2, 96, .inl f))]) F dX4_set_15 (c_X1_at E g ga f a b ) rfl gX4_set_X1_at 1 rfl rfl kV_X1_at ⟨by decide, by decide⟩ [1, 2] rfl (by decide +kernel) rfl rfl (Nat.le_of_ble_eq_true rfl) ⟨by decide, by decide⟩ ?_
  refine g_istore (L' := [(0, .ref x), (1, .int a), (2, .int b), (3, .int v), (4, .int (sGAt f a b))]) F dX4_set_18 (by decide) [1, 2, 3, 4, 0] rfl ?_
  refine g_aload_n F dX4_set_20 rfl 0 rfl ?_
  refine g_get F dX4_set_21 0 rfl rfl i4 0 (by decide) rfl (List.mem_of_getElem? (i := 1) rfl) ?_
  refine g_iload_n F dX4_set_24 rfl 1 rfl ?_
  refine g_iload_n F dX4_set_25 rfl 2 rfl ?_
  refine g_iload_n F dX4_set_26 rfl 3 rfl ?_
  refine g_callV (ws' := [(x, .inr (4, [.ref g, .ref p, .ref s, .ref kc, .ref qc, .int col, .int car, .int tur, .int pre, .int cl])), (g, .inr (1, [.ref ga])), (ga, .inl (E.2.2, 96, .inl (sGPut f a b v)))]) F dX4_set_27 (c_X1_put E g ga f a b v ) rfl gX4_set_X1_put 1 rfl rfl kV_X1_put ⟨by decide, by decide⟩ [1, 2] rfl (by decide +kernel) rfl rfl (Nat.le_of_ble_eq_true rfl) ⟨by decide, by decide⟩ ?_
  refine g_iload F dX4_set_30 4 rfl ?_
  exact g_iret F hQ dX4_set_32 (rfl) (rfl)

set_option maxHeartbeats 4000000 in
set_option maxRecDepth 100000 in
theorem c_X4_row (E : gE) (x : Nat) (g : Nat) (ga : Nat) (p : Nat) (s : Nat) (kc : Nat) (qc : Nat) (f : AF) (col : Int32) (car : Int32) (tur : Int32) (pre : Int32) (cl : Int32) (y : Int32) (a : Int32) (b : Int32) (h0 : ¬ y < 0) (h1 : y ≤ 7) (h2 : ¬ a < 0) (h3 : a ≤ 255) (h4 : ¬ b < (-60)) (h5 : b ≤ 60) : Ct E yX4_row wsX4_row ({ frames := 8, cells := 0, slots := 0, locals := 132 }) [.ref x, .int y, .int a, .int b] [(x, .inr (4, [.ref g, .ref p, .ref s, .ref kc, .ref qc, .int col, .int car, .int tur, .int pre, .int cl])), (g, .inr (1, [.ref ga])), (ga, .inl (E.2.2, 96, .inl f))] (some (.int (sGAt (sRowF f y a b 12) 11 y))) [(x, .inr (4, [.ref g, .ref p, .ref s, .ref kc, .ref qc, .int col, .int car, .int tur, .int pre, .int cl])), (g, .inr (1, [.ref ga])), (ga, .inl (E.2.2, 96, .inl (sRowF f y a b 12)))] := by
  refine Ct.of (cc := cX4_row) (maxL := 5) (ret := (some .int)) (own := RX4) (L := [(0, .ref x), (1, .int y), (2, .int a), (3, .int b)]) (by decide) rfl rfl rfl (Nat.le_of_ble_eq_true rfl) rfl ?_
  intro X F hQ
  have i1 : ∀ w ∈ u_ws RX1 TX1 1, w ∈ wsX4_row := gsub [58] rfl
  have i4 : ∀ w ∈ u_ws RX4 TX4 10, w ∈ wsX4_row := gsub [48, 49, 50, 51, 52, 53, 54, 55, 56, 57] rfl
  refine g_iload_n F dX4_row_0 rfl 1 rfl ?_
  refine g_callS (ws' := [(x, .inr (4, [.ref g, .ref p, .ref s, .ref kc, .ref qc, .int col, .int car, .int tur, .int pre, .int cl])), (g, .inr (1, [.ref ga])), (ga, .inl (E.2.2, 96, .inl f))]) F dX4_row_1 (c_X4_needRow E y (by first | assumption | decide | omega) (by first | assumption | decide | omega)) rfl gX4_row_X4_needRow kS_X4_needRow ⟨by decide, by decide⟩ [] rfl (by decide +kernel) rfl rfl (Nat.le_of_ble_eq_true rfl) ⟨by decide, by decide⟩ ?_
  refine g_iload_n F dX4_row_4 rfl 2 rfl ?_
  refine g_callS (ws' := [(x, .inr (4, [.ref g, .ref p, .ref s, .ref kc, .ref qc, .int col, .int car, .int tur, .int pre, .int cl])), (g, .inr (1, [.ref ga])), (ga, .inl (E.2.2, 96, .inl f))]) F dX4_row_5 (c_X4_needShade E a (by first | assumption | decide | omega) (by first | assumption | decide | omega)) rfl gX4_row_X4_needShade kS_X4_needShade ⟨by decide, by decide⟩ [] rfl (by decide +kernel) rfl rfl (Nat.le_of_ble_eq_true rfl) ⟨by decide, by decide⟩ ?_
  refine g_iload_n F dX4_row_8 rfl 3 rfl ?_
  refine g_callS (ws' := [(x, .inr (4, [.ref g, .ref p, .ref s, .ref kc, .ref qc, .int col, .int car, .int tur, .int pre, .int cl])), (g, .inr (1, [.ref ga])), (ga, .inl (E.2.2, 96, .inl f))]) F dX4_row_9 (c_X4_needStep E b (by first | assumption | decide | omega) (by first | assumption | decide | omega)) rfl gX4_row_X4_needStep kS_X4_needStep ⟨by decide, by decide⟩ [] rfl (by decide +kernel) rfl rfl (Nat.le_of_ble_eq_true rfl) ⟨by decide, by decide⟩ ?_
  refine g_iconst (v := 0) F dX4_row_12 (by decide) ?_
  refine g_istore (L' := [(0, .ref x), (1, .int y), (2, .int a), (3, .int b), (4, .int 0)]) F dX4_row_13 (by decide) [1, 2, 3, 4, 0] rfl ?_
  have lp15 : ∀ (n15 i15 : Nat), i15 + n15 = 12 → G E X 0 0 15 [(0, .ref x), (1, .int y), (2, .int a), (3, .int b), (4, .int (nI i15))] [] [(x, .inr (4, [.ref g, .ref p, .ref s, .ref kc, .ref qc, .int col, .int car, .int tur, .int pre, .int cl])), (g, .inr (1, [.ref ga])), (ga, .inl (E.2.2, 96, .inl (sRowF f y a b i15)))] := by
    intro n15
    induction n15 with
    | zero =>
      intro i15 hi15
      have he15 : i15 = 12 := by omega
      rw [he15]
      refine g_iload F dX4_row_15 4 rfl ?_
      refine g_bipush (v := 12) F dX4_row_17 (by decide) ?_
      refine g_icmp_ge_t (tgt := 47) F dX4_row_19 (by decide) (by decide) ?_
      refine g_aload_n F dX4_row_47 rfl 0 rfl ?_
      refine g_get F dX4_row_48 0 rfl rfl i4 0 (by decide) rfl (List.mem_of_getElem? (i := 1) rfl) ?_
      refine g_bipush (v := 11) F dX4_row_51 (by decide) ?_
      refine g_iload_n F dX4_row_53 rfl 1 rfl ?_
      refine g_callV (ws' := [(x, .inr (4, [.ref g, .ref p, .ref s, .ref kc, .ref qc, .int col, .int car, .int tur, .int pre, .int cl])), (g, .inr (1, [.ref ga])), (ga, .inl (E.2.2, 96, .inl (sRowF f y a b 12)))]) F dX4_row_54 (c_X1_at E g ga (sRowF f y a b 12) 11 y ) rfl gX4_row_X1_at 1 rfl rfl kV_X1_at ⟨by decide, by decide⟩ [1, 2] rfl (by decide +kernel) rfl rfl (Nat.le_of_ble_eq_true rfl) ⟨by decide, by decide⟩ ?_
      exact g_iret F hQ dX4_row_57 (rfl) (rfl)
    | succ n15 ih15 =>
      intro i15 hi15
      have hl15 : i15 < 12 := by omega
      refine g_iload F dX4_row_15 4 rfl ?_
      refine g_bipush (v := 12) F dX4_row_17 (by decide) ?_
      refine g_icmp_ge_f (tgt := 47) F dX4_row_19 (by decide) (nle_nI (n := 12) hl15 (by omega)) ?_
      refine g_aload_n F dX4_row_22 rfl 0 rfl ?_
      refine g_get F dX4_row_23 0 rfl rfl i4 0 (by decide) rfl (List.mem_of_getElem? (i := 1) rfl) ?_
      refine g_iload F dX4_row_26 4 rfl ?_
      refine g_iload_n F dX4_row_28 rfl 1 rfl ?_
      refine g_iload_n F dX4_row_29 rfl 2 rfl ?_
      refine g_iload_n F dX4_row_30 rfl 3 rfl ?_
      refine g_iload F dX4_row_31 4 rfl ?_
      refine g_imul F dX4_row_33 ?_
      refine g_iadd F dX4_row_34 ?_
      refine g_callS (ws' := [(x, .inr (4, [.ref g, .ref p, .ref s, .ref kc, .ref qc, .int col, .int car, .int tur, .int pre, .int cl])), (g, .inr (1, [.ref ga])), (ga, .inl (E.2.2, 96, .inl (sRowF f y a b i15)))]) F dX4_row_35 (c_X4_heldShade E (a + (b * (nI i15))) ) rfl gX4_row_X4_heldShade kS_X4_heldShade ⟨by decide, by decide⟩ [] rfl (by decide +kernel) rfl rfl (Nat.le_of_ble_eq_true rfl) ⟨by decide, by decide⟩ ?_
      refine g_callV (ws' := [(x, .inr (4, [.ref g, .ref p, .ref s, .ref kc, .ref qc, .int col, .int car, .int tur, .int pre, .int cl])), (g, .inr (1, [.ref ga])), (ga, .inl (E.2.2, 96, .inl (sGPut (sRowF f y a b i15) (nI i15) y (sHeld (a + (b * (nI i15)))))))]) F dX4_row_38 (c_X1_put E g ga (sRowF f y a b i15) (nI i15) y (sHeld (a + (b * (nI i15)))) ) rfl gX4_row_X1_put 1 rfl rfl kV_X1_put ⟨by decide, by decide⟩ [1, 2] rfl (by decide +kernel) rfl rfl (Nat.le_of_ble_eq_true rfl) ⟨by decide, by decide⟩ ?_
      refine g_iinc (L' := [(0, .ref x), (1, .int y), (2, .int a), (3, .int b), (4, .int (nI (i15 + 1)))]) (v := nI (i15 + 1)) F dX4_row_41 4 rfl (nI_1 _) (by decide) [1, 2, 3, 4, 0] rfl ?_
      refine g_goto (tgt := 15) F dX4_row_44 (by decide) ?_
      exact ih15 (i15 + 1) (by omega)
  exact lp15 12 0 (by omega)

set_option maxHeartbeats 4000000 in
set_option maxRecDepth 100000 in
theorem c_X4_like (E : gE) (x : Nat) (g : Nat) (ga : Nat) (p : Nat) (s : Nat) (kc : Nat) (qc : Nat) (f : AF) (col : Int32) (car : Int32) (tur : Int32) (pre : Int32) (cl : Int32) (y : Int32) (o : Int32) (h0 : ¬ y < 0) (h1 : y ≤ 7) (h2 : ¬ o < 0) (h3 : o ≤ 7) : Ct E yX4_like wsX4_like ({ frames := 8, cells := 0, slots := 0, locals := 131 }) [.ref x, .int y, .int o] [(x, .inr (4, [.ref g, .ref p, .ref s, .ref kc, .ref qc, .int col, .int car, .int tur, .int pre, .int cl])), (g, .inr (1, [.ref ga])), (ga, .inl (E.2.2, 96, .inl f))] (some (.int ((sLike f y o 12).2))) [(x, .inr (4, [.ref g, .ref p, .ref s, .ref kc, .ref qc, .int col, .int car, .int tur, .int pre, .int cl])), (g, .inr (1, [.ref ga])), (ga, .inl (E.2.2, 96, .inl ((sLike f y o 12).1)))] := by
  refine Ct.of (cc := cX4_like) (maxL := 6) (ret := (some .int)) (own := RX4) (L := [(0, .ref x), (1, .int y), (2, .int o)]) (by decide) rfl rfl rfl (Nat.le_of_ble_eq_true rfl) rfl ?_
  intro X F hQ
  have i1 : ∀ w ∈ u_ws RX1 TX1 1, w ∈ wsX4_like := gsub [37] rfl
  have i4 : ∀ w ∈ u_ws RX4 TX4 10, w ∈ wsX4_like := gsub [27, 28, 29, 30, 31, 32, 33, 34, 35, 36] rfl
  refine g_iload_n F dX4_like_0 rfl 1 rfl ?_
  refine g_callS (ws' := [(x, .inr (4, [.ref g, .ref p, .ref s, .ref kc, .ref qc, .int col, .int car, .int tur, .int pre, .int cl])), (g, .inr (1, [.ref ga])), (ga, .inl (E.2.2, 96, .inl f))]) F dX4_like_1 (c_X4_needRow E y (by first | assumption | decide | omega) (by first | assumption | decide | omega)) rfl gX4_like_X4_needRow kS_X4_needRow ⟨by decide, by decide⟩ [] rfl (by decide +kernel) rfl rfl (Nat.le_of_ble_eq_true rfl) ⟨by decide, by decide⟩ ?_
  refine g_iload_n F dX4_like_4 rfl 2 rfl ?_
  refine g_callS (ws' := [(x, .inr (4, [.ref g, .ref p, .ref s, .ref kc, .ref qc, .int col, .int car, .int tur, .int pre, .int cl])), (g, .inr (1, [.ref ga])), (ga, .inl (E.2.2, 96, .inl f))]) F dX4_like_5 (c_X4_needRow E o (by first | assumption | decide | omega) (by first | assumption | decide | omega)) rfl gX4_like_X4_needRow kS_X4_needRow ⟨by decide, by decide⟩ [] rfl (by decide +kernel) rfl rfl (Nat.le_of_ble_eq_true rfl) ⟨by decide, by decide⟩ ?_
  refine g_iconst (v := 0) F dX4_like_8 (by decide) ?_
  refine g_istore_n (L' := [(0, .ref x), (1, .int y), (2, .int o), (3, .int 0)]) F dX4_like_9 rfl (by decide) [1, 2, 3, 0] rfl ?_
  refine g_iconst (v := 0) F dX4_like_10 (by decide) ?_
  refine g_istore (L' := [(0, .ref x), (1, .int y), (2, .int o), (3, .int 0), (4, .int 0)]) F dX4_like_11 (by decide) [1, 2, 3, 4, 0] rfl ?_
  have lp13 : ∀ (n13 i13 : Nat), i13 + n13 = 12 → G E X 0 0 13 [(0, .ref x), (1, .int y), (2, .int o), (3, .int ((sLike f y o i13).2)), (4, .int (nI i13))] [] [(x, .inr (4, [.ref g, .ref p, .ref s, .ref kc, .ref qc, .int col, .int car, .int tur, .int pre, .int cl])), (g, .inr (1, [.ref ga])), (ga, .inl (E.2.2, 96, .inl ((sLike f y o i13).1)))] := by
    intro n13
    induction n13 with
    | zero =>
      intro i13 hi13
      have he13 : i13 = 12 := by omega
      rw [he13]
      refine g_iload F dX4_like_13 4 rfl ?_
      refine g_bipush (v := 12) F dX4_like_15 (by decide) ?_
      refine g_icmp_ge_t (tgt := 68) F dX4_like_17 (by decide) (by decide) ?_
      refine g_iload_n F dX4_like_68 rfl 3 rfl ?_
      exact g_iret F hQ dX4_like_69 (rfl) (rfl)
    | succ n13 ih13 =>
      intro i13 hi13
      have hl13 : i13 < 12 := by omega
      refine g_iload F dX4_like_13 4 rfl ?_
      refine g_bipush (v := 12) F dX4_like_15 (by decide) ?_
      refine g_icmp_ge_f (tgt := 68) F dX4_like_17 (by decide) (nle_nI (n := 12) hl13 (by omega)) ?_
      refine g_aload_n F dX4_like_20 rfl 0 rfl ?_
      refine g_get F dX4_like_21 0 rfl rfl i4 0 (by decide) rfl (List.mem_of_getElem? (i := 1) rfl) ?_
      refine g_iload F dX4_like_24 4 rfl ?_
      refine g_iload_n F dX4_like_26 rfl 2 rfl ?_
      refine g_callV (ws' := [(x, .inr (4, [.ref g, .ref p, .ref s, .ref kc, .ref qc, .int col, .int car, .int tur, .int pre, .int cl])), (g, .inr (1, [.ref ga])), (ga, .inl (E.2.2, 96, .inl ((sLike f y o i13).1)))]) F dX4_like_27 (c_X1_at E g ga ((sLike f y o i13).1) (nI i13) o ) rfl gX4_like_X1_at 1 rfl rfl kV_X1_at ⟨by decide, by decide⟩ [1, 2] rfl (by decide +kernel) rfl rfl (Nat.le_of_ble_eq_true rfl) ⟨by decide, by decide⟩ ?_
      refine g_istore (L' := [(0, .ref x), (1, .int y), (2, .int o), (3, .int ((sLike f y o i13).2)), (4, .int (nI i13)), (5, .int (sGAt ((sLike f y o i13).1) (nI i13) o))]) F dX4_like_30 (by decide) [1, 2, 3, 4, 5, 0] rfl ?_
      refine g_aload_n F dX4_like_32 rfl 0 rfl ?_
      refine g_get F dX4_like_33 0 rfl rfl i4 0 (by decide) rfl (List.mem_of_getElem? (i := 1) rfl) ?_
      refine g_iload F dX4_like_36 4 rfl ?_
      refine g_iload_n F dX4_like_38 rfl 1 rfl ?_
      refine g_callV (ws' := [(x, .inr (4, [.ref g, .ref p, .ref s, .ref kc, .ref qc, .int col, .int car, .int tur, .int pre, .int cl])), (g, .inr (1, [.ref ga])), (ga, .inl (E.2.2, 96, .inl ((sLike f y o i13).1)))]) F dX4_like_39 (c_X1_at E g ga ((sLike f y o i13).1) (nI i13) y ) rfl gX4_like_X1_at 1 rfl rfl kV_X1_at ⟨by decide, by decide⟩ [1, 2] rfl (by decide +kernel) rfl rfl (Nat.le_of_ble_eq_true rfl) ⟨by decide, by decide⟩ ?_
      refine g_iload F dX4_like_42 5 rfl ?_
      refine g_icmp_eq (tgt := 50) F dX4_like_44 (by decide) (fun k44 => ?_) (fun k44 => ?_)
      · skip
        refine g_aload_n F dX4_like_50 rfl 0 rfl ?_
        refine g_get F dX4_like_51 0 rfl rfl i4 0 (by decide) rfl (List.mem_of_getElem? (i := 1) rfl) ?_
        refine g_iload F dX4_like_54 4 rfl ?_
        refine g_iload_n F dX4_like_56 rfl 1 rfl ?_
        refine g_iload F dX4_like_57 5 rfl ?_
        refine g_callV (ws' := [(x, .inr (4, [.ref g, .ref p, .ref s, .ref kc, .ref qc, .int col, .int car, .int tur, .int pre, .int cl])), (g, .inr (1, [.ref ga])), (ga, .inl (E.2.2, 96, .inl (sGPut ((sLike f y o i13).1) (nI i13) y (sGAt ((sLike f y o i13).1) (nI i13) o))))]) F dX4_like_59 (c_X1_put E g ga ((sLike f y o i13).1) (nI i13) y (sGAt ((sLike f y o i13).1) (nI i13) o) ) rfl gX4_like_X1_put 1 rfl rfl kV_X1_put ⟨by decide, by decide⟩ [1, 2] rfl (by decide +kernel) rfl rfl (Nat.le_of_ble_eq_true rfl) ⟨by decide, by decide⟩ ?_
        refine g_iinc (L' := [(0, .ref x), (1, .int y), (2, .int o), (3, .int ((sLike f y o i13).2)), (4, .int (nI (i13 + 1))), (5, .int (sGAt ((sLike f y o i13).1) (nI i13) o))]) (v := nI (i13 + 1)) F dX4_like_62 4 rfl (nI_1 _) (by decide) [1, 2, 3, 4, 0, 5] rfl ?_
        refine g_goto (tgt := 13) F dX4_like_65 (by decide) ?_
        refine g_lv (L' := [(0, .ref x), (1, .int y), (2, .int o), (3, .int ((sLike f y o i13).2)), (4, .int (nI (i13 + 1)))]) [0, 1, 2, 3, 4] rfl ?_
        have q := ih13 (i13 + 1) (by omega)
        simp only [sLike, k44, if_true, if_false, not_true_eq_false, not_false_eq_true] at q
        exact q
      · skip
        refine g_iinc (L' := [(0, .ref x), (1, .int y), (2, .int o), (3, .int (((sLike f y o i13).2) + 1)), (4, .int (nI i13)), (5, .int (sGAt ((sLike f y o i13).1) (nI i13) o))]) (v := ((sLike f y o i13).2) + 1) F dX4_like_47 3 rfl (rfl) (by decide) [1, 2, 3, 0, 4, 5] rfl ?_
        refine g_aload_n F dX4_like_50 rfl 0 rfl ?_
        refine g_get F dX4_like_51 0 rfl rfl i4 0 (by decide) rfl (List.mem_of_getElem? (i := 1) rfl) ?_
        refine g_iload F dX4_like_54 4 rfl ?_
        refine g_iload_n F dX4_like_56 rfl 1 rfl ?_
        refine g_iload F dX4_like_57 5 rfl ?_
        refine g_callV (ws' := [(x, .inr (4, [.ref g, .ref p, .ref s, .ref kc, .ref qc, .int col, .int car, .int tur, .int pre, .int cl])), (g, .inr (1, [.ref ga])), (ga, .inl (E.2.2, 96, .inl (sGPut ((sLike f y o i13).1) (nI i13) y (sGAt ((sLike f y o i13).1) (nI i13) o))))]) F dX4_like_59 (c_X1_put E g ga ((sLike f y o i13).1) (nI i13) y (sGAt ((sLike f y o i13).1) (nI i13) o) ) rfl gX4_like_X1_put 1 rfl rfl kV_X1_put ⟨by decide, by decide⟩ [1, 2] rfl (by decide +kernel) rfl rfl (Nat.le_of_ble_eq_true rfl) ⟨by decide, by decide⟩ ?_
        refine g_iinc (L' := [(0, .ref x), (1, .int y), (2, .int o), (3, .int (((sLike f y o i13).2) + 1)), (4, .int (nI (i13 + 1))), (5, .int (sGAt ((sLike f y o i13).1) (nI i13) o))]) (v := nI (i13 + 1)) F dX4_like_62 4 rfl (nI_1 _) (by decide) [1, 2, 3, 4, 0, 5] rfl ?_
        refine g_goto (tgt := 13) F dX4_like_65 (by decide) ?_
        refine g_lv (L' := [(0, .ref x), (1, .int y), (2, .int o), (3, .int (((sLike f y o i13).2) + 1)), (4, .int (nI (i13 + 1)))]) [0, 1, 2, 3, 4] rfl ?_
        have q := ih13 (i13 + 1) (by omega)
        simp only [sLike, k44, if_true, if_false, not_true_eq_false, not_false_eq_true] at q
        exact q
  exact lp13 12 0 (by omega)

set_option maxHeartbeats 4000000 in
set_option maxRecDepth 100000 in
theorem c_X4_setColours (E : gE) (x : Nat) (g : Nat) (p : Nat) (s : Nat) (kc : Nat) (qc : Nat) (col : Int32) (car : Int32) (tur : Int32) (pre : Int32) (cl : Int32) (n : Int32) (h0 : ¬ n < 2) (h1 : n ≤ 6) : Ct E yX4_setColours wsX4_setColours ({ frames := 8, cells := 0, slots := 0, locals := 132 }) [.ref x, .int n] [(x, .inr (4, [.ref g, .ref p, .ref s, .ref kc, .ref qc, .int col, .int car, .int tur, .int pre, .int cl]))] (some (.int col)) [(x, .inr (4, [.ref g, .ref p, .ref s, .ref kc, .ref qc, .int n, .int car, .int tur, .int pre, .int cl]))] := by
  refine Ct.of (cc := cX4_setColours) (maxL := 3) (ret := (some .int)) (own := RX4) (L := [(0, .ref x), (1, .int n)]) (by decide) rfl rfl rfl (Nat.le_of_ble_eq_true rfl) rfl ?_
  intro X F hQ
  have i4 : ∀ w ∈ u_ws RX4 TX4 10, w ∈ wsX4_setColours := gsub [11, 12, 13, 14, 15, 16, 17, 18, 19, 20] rfl
  refine g_iload_n F dX4_setColours_0 rfl 1 rfl ?_
  refine g_callS (ws' := [(x, .inr (4, [.ref g, .ref p, .ref s, .ref kc, .ref qc, .int col, .int car, .int tur, .int pre, .int cl]))]) F dX4_setColours_1 (c_X4_needColours E n (by first | assumption | decide | omega) (by first | assumption | decide | omega)) rfl gX4_setColours_X4_needColours kS_X4_needColours ⟨by decide, by decide⟩ [] rfl (by decide +kernel) rfl rfl (Nat.le_of_ble_eq_true rfl) ⟨by decide, by decide⟩ ?_
  refine g_aload_n F dX4_setColours_4 rfl 0 rfl ?_
  refine g_get F dX4_setColours_5 0 rfl rfl i4 5 (by decide) rfl (List.mem_of_getElem? (i := 1) rfl) ?_
  refine g_istore_n (L' := [(0, .ref x), (1, .int n), (2, .int col)]) F dX4_setColours_8 rfl (by decide) [1, 2, 0] rfl ?_
  refine g_aload_n F dX4_setColours_9 rfl 0 rfl ?_
  refine g_iload_n F dX4_setColours_10 rfl 1 rfl ?_
  refine g_put (ws' := [(x, .inr (4, [.ref g, .ref p, .ref s, .ref kc, .ref qc, .int n, .int car, .int tur, .int pre, .int cl]))]) F dX4_setColours_11 0 rfl rfl i4 tyX4 tyX4_ok nmX4 5 (by decide) rfl (rfl) (rfl) (Nat.le_of_ble_eq_true rfl) (List.mem_of_getElem? (i := 1) rfl) rfl ?_
  refine g_iload_n F dX4_setColours_14 rfl 2 rfl ?_
  exact g_iret F hQ dX4_setColours_15 (rfl) (rfl)

set_option maxHeartbeats 4000000 in
set_option maxRecDepth 100000 in
theorem c_X4_setCarry (E : gE) (x : Nat) (g : Nat) (p : Nat) (s : Nat) (kc : Nat) (qc : Nat) (col : Int32) (car : Int32) (tur : Int32) (pre : Int32) (cl : Int32) (n : Int32) (h0 : ¬ n < 0) (h1 : n ≤ 2) : Ct E yX4_setCarry wsX4_setCarry ({ frames := 7, cells := 0, slots := 0, locals := 111 }) [.ref x, .int n] [(x, .inr (4, [.ref g, .ref p, .ref s, .ref kc, .ref qc, .int col, .int car, .int tur, .int pre, .int cl]))] (some (.int car)) [(x, .inr (4, [.ref g, .ref p, .ref s, .ref kc, .ref qc, .int col, .int n, .int tur, .int pre, .int cl]))] := by
  refine Ct.of (cc := cX4_setCarry) (maxL := 3) (ret := (some .int)) (own := RX4) (L := [(0, .ref x), (1, .int n)]) (by decide) rfl rfl rfl (Nat.le_of_ble_eq_true rfl) rfl ?_
  intro X F hQ
  have i4 : ∀ w ∈ u_ws RX4 TX4 10, w ∈ wsX4_setCarry := gsub [8, 9, 10, 11, 12, 13, 14, 15, 16, 17] rfl
  refine g_iload_n F dX4_setCarry_0 rfl 1 rfl ?_
  refine g_iconst (v := 2) F dX4_setCarry_1 (by decide) ?_
  refine g_callS (ws' := [(x, .inr (4, [.ref g, .ref p, .ref s, .ref kc, .ref qc, .int col, .int car, .int tur, .int pre, .int cl]))]) F dX4_setCarry_2 (c_X4_needUpTo E n 2 (by first | assumption | decide | omega) (by first | assumption | decide | omega)) rfl gX4_setCarry_X4_needUpTo kS_X4_needUpTo ⟨by decide, by decide⟩ [] rfl (by decide +kernel) rfl rfl (Nat.le_of_ble_eq_true rfl) ⟨by decide, by decide⟩ ?_
  refine g_aload_n F dX4_setCarry_5 rfl 0 rfl ?_
  refine g_get F dX4_setCarry_6 0 rfl rfl i4 6 (by decide) rfl (List.mem_of_getElem? (i := 1) rfl) ?_
  refine g_istore_n (L' := [(0, .ref x), (1, .int n), (2, .int car)]) F dX4_setCarry_9 rfl (by decide) [1, 2, 0] rfl ?_
  refine g_aload_n F dX4_setCarry_10 rfl 0 rfl ?_
  refine g_iload_n F dX4_setCarry_11 rfl 1 rfl ?_
  refine g_put (ws' := [(x, .inr (4, [.ref g, .ref p, .ref s, .ref kc, .ref qc, .int col, .int n, .int tur, .int pre, .int cl]))]) F dX4_setCarry_12 0 rfl rfl i4 tyX4 tyX4_ok nmX4 6 (by decide) rfl (rfl) (rfl) (Nat.le_of_ble_eq_true rfl) (List.mem_of_getElem? (i := 1) rfl) rfl ?_
  refine g_iload_n F dX4_setCarry_15 rfl 2 rfl ?_
  exact g_iret F hQ dX4_setCarry_16 (rfl) (rfl)

set_option maxHeartbeats 4000000 in
set_option maxRecDepth 100000 in
theorem c_X4_setTurning (E : gE) (x : Nat) (g : Nat) (p : Nat) (s : Nat) (kc : Nat) (qc : Nat) (col : Int32) (car : Int32) (tur : Int32) (pre : Int32) (cl : Int32) (n : Int32) (ht : tur = 0 ∨ tur = 1) (hn : n = 0 ∨ n = 1) : Ct E yX4_setTurning wsX4_setTurning ({ frames := 0, cells := 0, slots := 0, locals := 0 }) [.ref x, .int n] [(x, .inr (4, [.ref g, .ref p, .ref s, .ref kc, .ref qc, .int col, .int car, .int tur, .int pre, .int cl]))] (some (.int tur)) [(x, .inr (4, [.ref g, .ref p, .ref s, .ref kc, .ref qc, .int col, .int car, .int n, .int pre, .int cl]))] := by
  refine Ct.of (cc := cX4_setTurning) (maxL := 3) (ret := (some .boolean)) (own := RX4) (L := [(0, .ref x), (1, .int n)]) (by decide) rfl rfl rfl (Nat.le_of_ble_eq_true rfl) rfl ?_
  intro X F hQ
  have i4 : ∀ w ∈ u_ws RX4 TX4 10, w ∈ wsX4_setTurning := gsub [2, 3, 4, 5, 6, 7, 8, 9, 10, 11] rfl
  refine g_aload_n F dX4_setTurning_0 rfl 0 rfl ?_
  refine g_get F dX4_setTurning_1 0 rfl rfl i4 7 (by decide) rfl (List.mem_of_getElem? (i := 1) rfl) ?_
  refine g_istore_n (L' := [(0, .ref x), (1, .int n), (2, .int tur)]) F dX4_setTurning_4 rfl (by decide) [1, 2, 0] rfl ?_
  refine g_aload_n F dX4_setTurning_5 rfl 0 rfl ?_
  refine g_iload_n F dX4_setTurning_6 rfl 1 rfl ?_
  refine g_put (ws' := [(x, .inr (4, [.ref g, .ref p, .ref s, .ref kc, .ref qc, .int col, .int car, .int n, .int pre, .int cl]))]) F dX4_setTurning_7 0 rfl rfl i4 tyX4 tyX4_ok nmX4 7 (by decide) rfl (by rcases hn with rfl | rfl <;> rfl) (by rcases hn with rfl | rfl <;> rfl) (Nat.le_of_ble_eq_true rfl) (List.mem_of_getElem? (i := 1) rfl) rfl ?_
  refine g_iload_n F dX4_setTurning_10 rfl 2 rfl ?_
  exact g_zret F hQ dX4_setTurning_11 (ht) (rfl) (rfl)

set_option maxHeartbeats 4000000 in
set_option maxRecDepth 100000 in
theorem c_X4_setPressing (E : gE) (x : Nat) (g : Nat) (p : Nat) (s : Nat) (kc : Nat) (qc : Nat) (col : Int32) (car : Int32) (tur : Int32) (pre : Int32) (cl : Int32) (n : Int32) (hp : pre = 0 ∨ pre = 1) (hn : n = 0 ∨ n = 1) : Ct E yX4_setPressing wsX4_setPressing ({ frames := 0, cells := 0, slots := 0, locals := 0 }) [.ref x, .int n] [(x, .inr (4, [.ref g, .ref p, .ref s, .ref kc, .ref qc, .int col, .int car, .int tur, .int pre, .int cl]))] (some (.int pre)) [(x, .inr (4, [.ref g, .ref p, .ref s, .ref kc, .ref qc, .int col, .int car, .int tur, .int n, .int cl]))] := by
  refine Ct.of (cc := cX4_setPressing) (maxL := 3) (ret := (some .boolean)) (own := RX4) (L := [(0, .ref x), (1, .int n)]) (by decide) rfl rfl rfl (Nat.le_of_ble_eq_true rfl) rfl ?_
  intro X F hQ
  have i4 : ∀ w ∈ u_ws RX4 TX4 10, w ∈ wsX4_setPressing := gsub [2, 3, 4, 5, 6, 7, 8, 9, 10, 11] rfl
  refine g_aload_n F dX4_setPressing_0 rfl 0 rfl ?_
  refine g_get F dX4_setPressing_1 0 rfl rfl i4 8 (by decide) rfl (List.mem_of_getElem? (i := 1) rfl) ?_
  refine g_istore_n (L' := [(0, .ref x), (1, .int n), (2, .int pre)]) F dX4_setPressing_4 rfl (by decide) [1, 2, 0] rfl ?_
  refine g_aload_n F dX4_setPressing_5 rfl 0 rfl ?_
  refine g_iload_n F dX4_setPressing_6 rfl 1 rfl ?_
  refine g_put (ws' := [(x, .inr (4, [.ref g, .ref p, .ref s, .ref kc, .ref qc, .int col, .int car, .int tur, .int n, .int cl]))]) F dX4_setPressing_7 0 rfl rfl i4 tyX4 tyX4_ok nmX4 8 (by decide) rfl (by rcases hn with rfl | rfl <;> rfl) (by rcases hn with rfl | rfl <;> rfl) (Nat.le_of_ble_eq_true rfl) (List.mem_of_getElem? (i := 1) rfl) rfl ?_
  refine g_iload_n F dX4_setPressing_10 rfl 2 rfl ?_
  exact g_zret F hQ dX4_setPressing_11 (hp) (rfl) (rfl)

set_option maxHeartbeats 4000000 in
set_option maxRecDepth 100000 in
theorem c_X4_wind (E : gE) (x : Nat) (g : Nat) (p : Nat) (s : Nat) (sa : Nat) (kc : Nat) (qc : Nat) (th : AF) (col : Int32) (car : Int32) (tur : Int32) (pre : Int32) (cl : Int32) (c : Int32) (n : Int32) (h0 : ¬ c < 0) (h1 : c ≤ 5) (h2 : ¬ n < 1) (h3 : n ≤ 99) : Ct E yX4_wind wsX4_wind ({ frames := 8, cells := 0, slots := 0, locals := 132 }) [.ref x, .int c, .int n] [(x, .inr (4, [.ref g, .ref p, .ref s, .ref kc, .ref qc, .int col, .int car, .int tur, .int pre, .int cl])), (s, .inr (3, [.ref sa])), (sa, .inl (E.2.2, 6, .inl th))] (some (.int (sAt 6 (sWind th c n) c))) [(x, .inr (4, [.ref g, .ref p, .ref s, .ref kc, .ref qc, .int col, .int car, .int tur, .int pre, .int cl])), (s, .inr (3, [.ref sa])), (sa, .inl (E.2.2, 6, .inl (sWind th c n)))] := by
  refine Ct.of (cc := cX4_wind) (maxL := 3) (ret := (some .int)) (own := RX4) (L := [(0, .ref x), (1, .int c), (2, .int n)]) (by decide) rfl rfl rfl (Nat.le_of_ble_eq_true rfl) rfl ?_
  intro X F hQ
  have i3 : ∀ w ∈ u_ws RX3 TX3 1, w ∈ wsX4_wind := gsub [48] rfl
  have i4 : ∀ w ∈ u_ws RX4 TX4 10, w ∈ wsX4_wind := gsub [38, 39, 40, 41, 42, 43, 44, 45, 46, 47] rfl
  refine g_iload_n F dX4_wind_0 rfl 1 rfl ?_
  refine g_callS (ws' := [(x, .inr (4, [.ref g, .ref p, .ref s, .ref kc, .ref qc, .int col, .int car, .int tur, .int pre, .int cl])), (s, .inr (3, [.ref sa])), (sa, .inl (E.2.2, 6, .inl th))]) F dX4_wind_1 (c_X4_needColour E c (by first | assumption | decide | omega) (by first | assumption | decide | omega)) rfl gX4_wind_X4_needColour kS_X4_needColour ⟨by decide, by decide⟩ [] rfl (by decide +kernel) rfl rfl (Nat.le_of_ble_eq_true rfl) ⟨by decide, by decide⟩ ?_
  refine g_iload_n F dX4_wind_4 rfl 2 rfl ?_
  refine g_callS (ws' := [(x, .inr (4, [.ref g, .ref p, .ref s, .ref kc, .ref qc, .int col, .int car, .int tur, .int pre, .int cl])), (s, .inr (3, [.ref sa])), (sa, .inl (E.2.2, 6, .inl th))]) F dX4_wind_5 (c_X4_needWindable E n (by first | assumption | decide | omega) (by first | assumption | decide | omega)) rfl gX4_wind_X4_needWindable kS_X4_needWindable ⟨by decide, by decide⟩ [] rfl (by decide +kernel) rfl rfl (Nat.le_of_ble_eq_true rfl) ⟨by decide, by decide⟩ ?_
  refine g_aload_n F dX4_wind_8 rfl 0 rfl ?_
  refine g_get F dX4_wind_9 0 rfl rfl i4 2 (by decide) rfl (List.mem_of_getElem? (i := 1) rfl) ?_
  refine g_iload_n F dX4_wind_12 rfl 1 rfl ?_
  refine g_iload_n F dX4_wind_13 rfl 2 rfl ?_
  refine g_callV (ws' := [(x, .inr (4, [.ref g, .ref p, .ref s, .ref kc, .ref qc, .int col, .int car, .int tur, .int pre, .int cl])), (s, .inr (3, [.ref sa])), (sa, .inl (E.2.2, 6, .inl (sWind th c n)))]) F dX4_wind_14 (c_X3_add E s sa th c n ) rfl gX4_wind_X3_add 1 rfl rfl kV_X3_add ⟨by decide, by decide⟩ [1, 2] rfl (by decide +kernel) rfl rfl (Nat.le_of_ble_eq_true rfl) ⟨by decide, by decide⟩ ?_
  refine g_aload_n F dX4_wind_17 rfl 0 rfl ?_
  refine g_get F dX4_wind_18 0 rfl rfl i4 2 (by decide) rfl (List.mem_of_getElem? (i := 1) rfl) ?_
  refine g_iload_n F dX4_wind_21 rfl 1 rfl ?_
  refine g_callV (ws' := [(x, .inr (4, [.ref g, .ref p, .ref s, .ref kc, .ref qc, .int col, .int car, .int tur, .int pre, .int cl])), (s, .inr (3, [.ref sa])), (sa, .inl (E.2.2, 6, .inl (sWind th c n)))]) F dX4_wind_22 (c_X3_holds E s sa (sWind th c n) c ) rfl gX4_wind_X3_holds 1 rfl rfl kV_X3_holds ⟨by decide, by decide⟩ [1, 2] rfl (by decide +kernel) rfl rfl (Nat.le_of_ble_eq_true rfl) ⟨by decide, by decide⟩ ?_
  exact g_iret F hQ dX4_wind_25 (rfl) (rfl)

set_option maxHeartbeats 4000000 in
set_option maxRecDepth 100000 in
theorem c_X4_shade (E : gE) (x : Nat) (g : Nat) (ga : Nat) (p : Nat) (s : Nat) (kc : Nat) (qc : Nat) (f : AF) (col : Int32) (car : Int32) (tur : Int32) (pre : Int32) (cl : Int32) (a : Int32) (b : Int32) (h0 : ¬ sCell a b = 0) : Ct E yX4_shade wsX4_shade ({ frames := 7, cells := 0, slots := 0, locals := 111 }) [.ref x, .int a, .int b] [(x, .inr (4, [.ref g, .ref p, .ref s, .ref kc, .ref qc, .int col, .int car, .int tur, .int pre, .int cl])), (g, .inr (1, [.ref ga])), (ga, .inl (E.2.2, 96, .inl f))] (some (.int (sGAt f a b))) [(x, .inr (4, [.ref g, .ref p, .ref s, .ref kc, .ref qc, .int col, .int car, .int tur, .int pre, .int cl])), (g, .inr (1, [.ref ga])), (ga, .inl (E.2.2, 96, .inl f))] := by
  refine Ct.of (cc := cX4_shade) (maxL := 3) (ret := (some .int)) (own := RX4) (L := [(0, .ref x), (1, .int a), (2, .int b)]) (by decide) rfl rfl rfl (Nat.le_of_ble_eq_true rfl) rfl ?_
  intro X F hQ
  have i1 : ∀ w ∈ u_ws RX1 TX1 1, w ∈ wsX4_shade := gsub [29] rfl
  have i4 : ∀ w ∈ u_ws RX4 TX4 10, w ∈ wsX4_shade := gsub [19, 20, 21, 22, 23, 24, 25, 26, 27, 28] rfl
  refine g_iload_n F dX4_shade_0 rfl 1 rfl ?_
  refine g_iload_n F dX4_shade_1 rfl 2 rfl ?_
  refine g_callS (ws' := [(x, .inr (4, [.ref g, .ref p, .ref s, .ref kc, .ref qc, .int col, .int car, .int tur, .int pre, .int cl])), (g, .inr (1, [.ref ga])), (ga, .inl (E.2.2, 96, .inl f))]) F dX4_shade_2 (c_X4_needCell E a b (by first | assumption | decide | omega)) rfl gX4_shade_X4_needCell kS_X4_needCell ⟨by decide, by decide⟩ [] rfl (by decide +kernel) rfl rfl (Nat.le_of_ble_eq_true rfl) ⟨by decide, by decide⟩ ?_
  refine g_aload_n F dX4_shade_5 rfl 0 rfl ?_
  refine g_get F dX4_shade_6 0 rfl rfl i4 0 (by decide) rfl (List.mem_of_getElem? (i := 1) rfl) ?_
  refine g_iload_n F dX4_shade_9 rfl 1 rfl ?_
  refine g_iload_n F dX4_shade_10 rfl 2 rfl ?_
  refine g_callV (ws' := [(x, .inr (4, [.ref g, .ref p, .ref s, .ref kc, .ref qc, .int col, .int car, .int tur, .int pre, .int cl])), (g, .inr (1, [.ref ga])), (ga, .inl (E.2.2, 96, .inl f))]) F dX4_shade_11 (c_X1_at E g ga f a b ) rfl gX4_shade_X1_at 1 rfl rfl kV_X1_at ⟨by decide, by decide⟩ [1, 2] rfl (by decide +kernel) rfl rfl (Nat.le_of_ble_eq_true rfl) ⟨by decide, by decide⟩ ?_
  exact g_iret F hQ dX4_shade_14 (rfl) (rfl)

set_option maxHeartbeats 4000000 in
set_option maxRecDepth 100000 in
theorem c_X4_palette (E : gE) (x : Nat) (g : Nat) (ga : Nat) (p : Nat) (p1 : Nat) (p2 : Nat) (p3 : Nat) (p4 : Nat) (s : Nat) (kc : Nat) (qc : Nat) (f : AF) (pt : AF) (pso : AF) (pst : AF) (psh : AF) (pbx : Int32) (car : Int32) (tur : Int32) (pre : Int32) (cl : Int32) (c : Int32) (m : Nat) (h0 : ¬ c < 0) (h1 : c ≤ 5) (h2 : 2 ≤ m) (h6 : m ≤ 6) : Ct E yX4_palette wsX4_palette ({ frames := 8, cells := 0, slots := 0, locals := 131 }) [.ref x, .int c] [(x, .inr (4, [.ref g, .ref p, .ref s, .ref kc, .ref qc, .int (nI m), .int car, .int tur, .int pre, .int cl])), (g, .inr (1, [.ref ga])), (ga, .inl (E.2.2, 96, .inl f)), (p, .inr (2, [.ref p1, .ref p2, .ref p3, .ref p4, .int pbx])), (p1, .inl (E.2.2, 256, .inl pt)), (p2, .inl (E.2.2, 96, .inl pso)), (p3, .inl (E.2.2, 6, .inl pst)), (p4, .inl (E.2.2, 6, .inl psh))] (some (.int (sShade (sMnsF f pso pst psh m) (nI (sFitF f pso pst m).2) c))) [(x, .inr (4, [.ref g, .ref p, .ref s, .ref kc, .ref qc, .int (nI m), .int car, .int tur, .int pre, .int cl])), (g, .inr (1, [.ref ga])), (ga, .inl (E.2.2, 96, .inl f)), (p, .inr (2, [.ref p1, .ref p2, .ref p3, .ref p4, .int (nI (sFitF f pso pst m).2)])), (p1, .inl (E.2.2, 256, .inl (sTally f pt))), (p2, .inl (E.2.2, 96, .inl (sSorted f pso))), (p3, .inl (E.2.2, 6, .inl ((sFitF f pso pst m).1))), (p4, .inl (E.2.2, 6, .inl (sMnsF f pso pst psh m)))] := by
  refine Ct.of (cc := cX4_palette) (maxL := 2) (ret := (some .int)) (own := RX4) (L := [(0, .ref x), (1, .int c)]) (by decide) rfl rfl rfl (Nat.le_of_ble_eq_true rfl) rfl ?_
  intro X F hQ
  have i1 : ∀ w ∈ u_ws RX1 TX1 1, w ∈ wsX4_palette := gsub [88] rfl
  have i2 : ∀ w ∈ u_ws RX2 TX2 5, w ∈ wsX4_palette := gsub [83, 84, 85, 86, 87] rfl
  have i4 : ∀ w ∈ u_ws RX4 TX4 10, w ∈ wsX4_palette := gsub [73, 74, 75, 76, 77, 78, 79, 80, 81, 82] rfl
  refine g_iload_n F dX4_palette_0 rfl 1 rfl ?_
  refine g_callS (ws' := [(x, .inr (4, [.ref g, .ref p, .ref s, .ref kc, .ref qc, .int (nI m), .int car, .int tur, .int pre, .int cl])), (g, .inr (1, [.ref ga])), (ga, .inl (E.2.2, 96, .inl f)), (p, .inr (2, [.ref p1, .ref p2, .ref p3, .ref p4, .int pbx])), (p1, .inl (E.2.2, 256, .inl pt)), (p2, .inl (E.2.2, 96, .inl pso)), (p3, .inl (E.2.2, 6, .inl pst)), (p4, .inl (E.2.2, 6, .inl psh))]) F dX4_palette_1 (c_X4_needColour E c (by first | assumption | decide | omega) (by first | assumption | decide | omega)) rfl gX4_palette_X4_needColour kS_X4_needColour ⟨by decide, by decide⟩ [] rfl (by decide +kernel) rfl rfl (Nat.le_of_ble_eq_true rfl) ⟨by decide, by decide⟩ ?_
  refine g_aload_n F dX4_palette_4 rfl 0 rfl ?_
  refine g_get F dX4_palette_5 0 rfl rfl i4 1 (by decide) rfl (List.mem_of_getElem? (i := 1) rfl) ?_
  refine g_aload_n F dX4_palette_8 rfl 0 rfl ?_
  refine g_get F dX4_palette_9 0 rfl rfl i4 0 (by decide) rfl (List.mem_of_getElem? (i := 2) rfl) ?_
  refine g_aload_n F dX4_palette_12 rfl 0 rfl ?_
  refine g_get F dX4_palette_13 0 rfl rfl i4 5 (by decide) rfl (List.mem_of_getElem? (i := 3) rfl) ?_
  refine g_callV (ws' := [(x, .inr (4, [.ref g, .ref p, .ref s, .ref kc, .ref qc, .int (nI m), .int car, .int tur, .int pre, .int cl])), (g, .inr (1, [.ref ga])), (ga, .inl (E.2.2, 96, .inl f)), (p, .inr (2, [.ref p1, .ref p2, .ref p3, .ref p4, .int (nI (sFitF f pso pst m).2)])), (p1, .inl (E.2.2, 256, .inl (sTally f pt))), (p2, .inl (E.2.2, 96, .inl (sSorted f pso))), (p3, .inl (E.2.2, 6, .inl ((sFitF f pso pst m).1))), (p4, .inl (E.2.2, 6, .inl (sMnsF f pso pst psh m)))]) F dX4_palette_16 (c_X2_fit E p p1 p2 p3 p4 pt pso pst psh pbx g ga f m (by first | assumption | decide | omega) (by first | assumption | decide | omega)) rfl gX4_palette_X2_fit 3 rfl rfl kV_X2_fit ⟨by decide, by decide⟩ [3, 4, 5, 6, 7, 1, 2] rfl (by decide +kernel) rfl rfl (Nat.le_of_ble_eq_true rfl) ⟨by decide, by decide⟩ ?_
  refine g_aload_n F dX4_palette_19 rfl 0 rfl ?_
  refine g_get F dX4_palette_20 0 rfl rfl i4 1 (by decide) rfl (List.mem_of_getElem? (i := 1) rfl) ?_
  refine g_iload_n F dX4_palette_23 rfl 1 rfl ?_
  refine g_callV (ws' := [(x, .inr (4, [.ref g, .ref p, .ref s, .ref kc, .ref qc, .int (nI m), .int car, .int tur, .int pre, .int cl])), (g, .inr (1, [.ref ga])), (ga, .inl (E.2.2, 96, .inl f)), (p, .inr (2, [.ref p1, .ref p2, .ref p3, .ref p4, .int (nI (sFitF f pso pst m).2)])), (p1, .inl (E.2.2, 256, .inl (sTally f pt))), (p2, .inl (E.2.2, 96, .inl (sSorted f pso))), (p3, .inl (E.2.2, 6, .inl ((sFitF f pso pst m).1))), (p4, .inl (E.2.2, 6, .inl (sMnsF f pso pst psh m)))]) F dX4_palette_24 (c_X2_shadeOf E p p1 p2 p3 p4 (sTally f pt) (sSorted f pso) ((sFitF f pso pst m).1) (sMnsF f pso pst psh m) (nI (sFitF f pso pst m).2) c ) rfl gX4_palette_X2_shadeOf 3 rfl rfl kV_X2_shadeOf ⟨by decide, by decide⟩ [3, 4, 5, 6, 7] rfl (by decide +kernel) rfl rfl (Nat.le_of_ble_eq_true rfl) ⟨by decide, by decide⟩ ?_
  exact g_iret F hQ dX4_palette_27 (rfl) (rfl)

set_option maxHeartbeats 4000000 in
set_option maxRecDepth 100000 in
theorem c_X4_cell (E : gE) (x : Nat) (g : Nat) (p : Nat) (s : Nat) (kc : Nat) (kd : Nat) (kd1 : Nat) (kd2 : Nat) (kd3 : Nat) (kd4 : Nat) (kw : Nat) (kwa : Nat) (kca : Nat) (kcb : Nat) (kr : Nat) (kra : Nat) (ku : Nat) (qc : Nat) (kt : AF) (kso : AF) (kst : AF) (ksh : AF) (kfw : AF) (kfc : AF) (kfr : AF) (kfu : AF) (koff : Int32) (col : Int32) (car : Int32) (tur : Int32) (pre : Int32) (cl : Int32) (kb : Nat) (a : Int32) (b : Int32) (h0 : ¬ sCell a b = 0) (h1 : ¬ sHas cl = 0) : Ct E yX4_cell wsX4_cell ({ frames := 7, cells := 0, slots := 0, locals := 111 }) [.ref x, .int a, .int b] [(x, .inr (4, [.ref g, .ref p, .ref s, .ref kc, .ref qc, .int col, .int car, .int tur, .int pre, .int cl])), (kc, .inr (0, [.ref kd, .ref kw, .ref kca, .ref kr, .ref ku, .int koff])), (kd, .inr (2, [.ref kd1, .ref kd2, .ref kd3, .ref kd4, .int (nI kb)])), (kd1, .inl (E.2.2, 256, .inl kt)), (kd2, .inl (E.2.2, 96, .inl kso)), (kd3, .inl (E.2.2, 6, .inl kst)), (kd4, .inl (E.2.2, 6, .inl ksh)), (kw, .inr (1, [.ref kwa])), (kwa, .inl (E.2.2, 96, .inl kfw)), (kca, .inr (1, [.ref kcb])), (kcb, .inl (E.2.2, 96, .inl kfc)), (kr, .inr (1, [.ref kra])), (kra, .inl (E.2.2, 96, .inl kfr)), (ku, .inl (E.2.2, 6, .inl kfu))] (some (.int (sGAt kfw a b))) [(x, .inr (4, [.ref g, .ref p, .ref s, .ref kc, .ref qc, .int col, .int car, .int tur, .int pre, .int cl])), (kc, .inr (0, [.ref kd, .ref kw, .ref kca, .ref kr, .ref ku, .int koff])), (kd, .inr (2, [.ref kd1, .ref kd2, .ref kd3, .ref kd4, .int (nI kb)])), (kd1, .inl (E.2.2, 256, .inl kt)), (kd2, .inl (E.2.2, 96, .inl kso)), (kd3, .inl (E.2.2, 6, .inl kst)), (kd4, .inl (E.2.2, 6, .inl ksh)), (kw, .inr (1, [.ref kwa])), (kwa, .inl (E.2.2, 96, .inl kfw)), (kca, .inr (1, [.ref kcb])), (kcb, .inl (E.2.2, 96, .inl kfc)), (kr, .inr (1, [.ref kra])), (kra, .inl (E.2.2, 96, .inl kfr)), (ku, .inl (E.2.2, 6, .inl kfu))] := by
  refine Ct.of (cc := cX4_cell) (maxL := 3) (ret := (some .int)) (own := RX4) (L := [(0, .ref x), (1, .int a), (2, .int b)]) (by decide) rfl rfl rfl (Nat.le_of_ble_eq_true rfl) rfl ?_
  intro X F hQ
  have i0 : ∀ w ∈ u_ws RX0 TX0 6, w ∈ wsX4_cell := gsub [46, 47, 48, 49, 50, 51] rfl
  have i1 : ∀ w ∈ u_ws RX1 TX1 1, w ∈ wsX4_cell := gsub [52] rfl
  have i4 : ∀ w ∈ u_ws RX4 TX4 10, w ∈ wsX4_cell := gsub [36, 37, 38, 39, 40, 41, 42, 43, 44, 45] rfl
  refine g_iload_n F dX4_cell_0 rfl 1 rfl ?_
  refine g_iload_n F dX4_cell_1 rfl 2 rfl ?_
  refine g_callS (ws' := [(x, .inr (4, [.ref g, .ref p, .ref s, .ref kc, .ref qc, .int col, .int car, .int tur, .int pre, .int cl])), (kc, .inr (0, [.ref kd, .ref kw, .ref kca, .ref kr, .ref ku, .int koff])), (kd, .inr (2, [.ref kd1, .ref kd2, .ref kd3, .ref kd4, .int (nI kb)])), (kd1, .inl (E.2.2, 256, .inl kt)), (kd2, .inl (E.2.2, 96, .inl kso)), (kd3, .inl (E.2.2, 6, .inl kst)), (kd4, .inl (E.2.2, 6, .inl ksh)), (kw, .inr (1, [.ref kwa])), (kwa, .inl (E.2.2, 96, .inl kfw)), (kca, .inr (1, [.ref kcb])), (kcb, .inl (E.2.2, 96, .inl kfc)), (kr, .inr (1, [.ref kra])), (kra, .inl (E.2.2, 96, .inl kfr)), (ku, .inl (E.2.2, 6, .inl kfu))]) F dX4_cell_2 (c_X4_needCell E a b (by first | assumption | decide | omega)) rfl gX4_cell_X4_needCell kS_X4_needCell ⟨by decide, by decide⟩ [] rfl (by decide +kernel) rfl rfl (Nat.le_of_ble_eq_true rfl) ⟨by decide, by decide⟩ ?_
  refine g_aload_n F dX4_cell_5 rfl 0 rfl ?_
  refine g_callV (ws' := [(x, .inr (4, [.ref g, .ref p, .ref s, .ref kc, .ref qc, .int col, .int car, .int tur, .int pre, .int cl])), (kc, .inr (0, [.ref kd, .ref kw, .ref kca, .ref kr, .ref ku, .int koff])), (kd, .inr (2, [.ref kd1, .ref kd2, .ref kd3, .ref kd4, .int (nI kb)])), (kd1, .inl (E.2.2, 256, .inl kt)), (kd2, .inl (E.2.2, 96, .inl kso)), (kd3, .inl (E.2.2, 6, .inl kst)), (kd4, .inl (E.2.2, 6, .inl ksh)), (kw, .inr (1, [.ref kwa])), (kwa, .inl (E.2.2, 96, .inl kfw)), (kca, .inr (1, [.ref kcb])), (kcb, .inl (E.2.2, 96, .inl kfc)), (kr, .inr (1, [.ref kra])), (kra, .inl (E.2.2, 96, .inl kfr)), (ku, .inl (E.2.2, 6, .inl kfu))]) F dX4_cell_6 (c_X4_needCloth E x g p s kc qc col car tur pre cl (by first | assumption | decide | omega)) rfl gX4_cell_X4_needCloth 0 rfl rfl kV_X4_needCloth ⟨by decide, by decide⟩ [0] rfl (by decide +kernel) rfl rfl (Nat.le_of_ble_eq_true rfl) ⟨by decide, by decide⟩ ?_
  refine g_aload_n F dX4_cell_9 rfl 0 rfl ?_
  refine g_get F dX4_cell_10 0 rfl rfl i4 3 (by decide) rfl (List.mem_of_getElem? (i := 1) rfl) ?_
  refine g_iload_n F dX4_cell_13 rfl 1 rfl ?_
  refine g_iload_n F dX4_cell_14 rfl 2 rfl ?_
  refine g_callV (ws' := [(x, .inr (4, [.ref g, .ref p, .ref s, .ref kc, .ref qc, .int col, .int car, .int tur, .int pre, .int cl])), (kc, .inr (0, [.ref kd, .ref kw, .ref kca, .ref kr, .ref ku, .int koff])), (kd, .inr (2, [.ref kd1, .ref kd2, .ref kd3, .ref kd4, .int (nI kb)])), (kd1, .inl (E.2.2, 256, .inl kt)), (kd2, .inl (E.2.2, 96, .inl kso)), (kd3, .inl (E.2.2, 6, .inl kst)), (kd4, .inl (E.2.2, 6, .inl ksh)), (kw, .inr (1, [.ref kwa])), (kwa, .inl (E.2.2, 96, .inl kfw)), (kca, .inr (1, [.ref kcb])), (kcb, .inl (E.2.2, 96, .inl kfc)), (kr, .inr (1, [.ref kra])), (kra, .inl (E.2.2, 96, .inl kfr)), (ku, .inl (E.2.2, 6, .inl kfu))]) F dX4_cell_15 (c_X0_colourAt E kc kd kd1 kd2 kd3 kd4 kw kwa kca kcb kr kra ku kt kso kst ksh kfw kfc kfr kfu koff (nI kb) a b ) rfl gX4_cell_X0_colourAt 1 rfl rfl kV_X0_colourAt ⟨by decide, by decide⟩ [1, 2, 3, 4, 5, 6, 7, 8, 9, 10, 11, 12, 13] rfl (by decide +kernel) rfl rfl (Nat.le_of_ble_eq_true rfl) ⟨by decide, by decide⟩ ?_
  exact g_iret F hQ dX4_cell_18 (rfl) (rfl)

set_option maxHeartbeats 4000000 in
set_option maxRecDepth 100000 in
theorem c_X4_run (E : gE) (x : Nat) (g : Nat) (p : Nat) (s : Nat) (kc : Nat) (kd : Nat) (kd1 : Nat) (kd2 : Nat) (kd3 : Nat) (kd4 : Nat) (kw : Nat) (kwa : Nat) (kca : Nat) (kcb : Nat) (kr : Nat) (kra : Nat) (ku : Nat) (qc : Nat) (kt : AF) (kso : AF) (kst : AF) (ksh : AF) (kfw : AF) (kfc : AF) (kfr : AF) (kfu : AF) (koff : Int32) (col : Int32) (car : Int32) (tur : Int32) (pre : Int32) (cl : Int32) (kb : Nat) (y : Int32) (pl : Int32) (w : Int32) (h0 : ¬ y < 0) (h1 : y ≤ 7) (h2 : ¬ w < 0) (h3 : w ≤ 1) (h4 : ¬ sHas cl = 0) (h5 : ¬ pl < 0) (h6 : pl ≤ sRn kfr y - 1) : Ct E yX4_run wsX4_run ({ frames := 8, cells := 0, slots := 0, locals := 131 }) [.ref x, .int y, .int pl, .int w] [(x, .inr (4, [.ref g, .ref p, .ref s, .ref kc, .ref qc, .int col, .int car, .int tur, .int pre, .int cl])), (kc, .inr (0, [.ref kd, .ref kw, .ref kca, .ref kr, .ref ku, .int koff])), (kd, .inr (2, [.ref kd1, .ref kd2, .ref kd3, .ref kd4, .int (nI kb)])), (kd1, .inl (E.2.2, 256, .inl kt)), (kd2, .inl (E.2.2, 96, .inl kso)), (kd3, .inl (E.2.2, 6, .inl kst)), (kd4, .inl (E.2.2, 6, .inl ksh)), (kw, .inr (1, [.ref kwa])), (kwa, .inl (E.2.2, 96, .inl kfw)), (kca, .inr (1, [.ref kcb])), (kcb, .inl (E.2.2, 96, .inl kfc)), (kr, .inr (1, [.ref kra])), (kra, .inl (E.2.2, 96, .inl kfr)), (ku, .inl (E.2.2, 6, .inl kfu))] (some (.int (sRun kfr kfw y pl w))) [(x, .inr (4, [.ref g, .ref p, .ref s, .ref kc, .ref qc, .int col, .int car, .int tur, .int pre, .int cl])), (kc, .inr (0, [.ref kd, .ref kw, .ref kca, .ref kr, .ref ku, .int koff])), (kd, .inr (2, [.ref kd1, .ref kd2, .ref kd3, .ref kd4, .int (nI kb)])), (kd1, .inl (E.2.2, 256, .inl kt)), (kd2, .inl (E.2.2, 96, .inl kso)), (kd3, .inl (E.2.2, 6, .inl kst)), (kd4, .inl (E.2.2, 6, .inl ksh)), (kw, .inr (1, [.ref kwa])), (kwa, .inl (E.2.2, 96, .inl kfw)), (kca, .inr (1, [.ref kcb])), (kcb, .inl (E.2.2, 96, .inl kfc)), (kr, .inr (1, [.ref kra])), (kra, .inl (E.2.2, 96, .inl kfr)), (ku, .inl (E.2.2, 6, .inl kfu))] := by
  refine Ct.of (cc := cX4_run) (maxL := 4) (ret := (some .int)) (own := RX4) (L := [(0, .ref x), (1, .int y), (2, .int pl), (3, .int w)]) (by decide) rfl rfl rfl (Nat.le_of_ble_eq_true rfl) rfl ?_
  intro X F hQ
  have i0 : ∀ w ∈ u_ws RX0 TX0 6, w ∈ wsX4_run := gsub [57, 58, 59, 60, 61, 62] rfl
  have i1 : ∀ w ∈ u_ws RX1 TX1 1, w ∈ wsX4_run := gsub [63] rfl
  have i4 : ∀ w ∈ u_ws RX4 TX4 10, w ∈ wsX4_run := gsub [47, 48, 49, 50, 51, 52, 53, 54, 55, 56] rfl
  refine g_iload_n F dX4_run_0 rfl 1 rfl ?_
  refine g_callS (ws' := [(x, .inr (4, [.ref g, .ref p, .ref s, .ref kc, .ref qc, .int col, .int car, .int tur, .int pre, .int cl])), (kc, .inr (0, [.ref kd, .ref kw, .ref kca, .ref kr, .ref ku, .int koff])), (kd, .inr (2, [.ref kd1, .ref kd2, .ref kd3, .ref kd4, .int (nI kb)])), (kd1, .inl (E.2.2, 256, .inl kt)), (kd2, .inl (E.2.2, 96, .inl kso)), (kd3, .inl (E.2.2, 6, .inl kst)), (kd4, .inl (E.2.2, 6, .inl ksh)), (kw, .inr (1, [.ref kwa])), (kwa, .inl (E.2.2, 96, .inl kfw)), (kca, .inr (1, [.ref kcb])), (kcb, .inl (E.2.2, 96, .inl kfc)), (kr, .inr (1, [.ref kra])), (kra, .inl (E.2.2, 96, .inl kfr)), (ku, .inl (E.2.2, 6, .inl kfu))]) F dX4_run_1 (c_X4_needRow E y (by first | assumption | decide | omega) (by first | assumption | decide | omega)) rfl gX4_run_X4_needRow kS_X4_needRow ⟨by decide, by decide⟩ [] rfl (by decide +kernel) rfl rfl (Nat.le_of_ble_eq_true rfl) ⟨by decide, by decide⟩ ?_
  refine g_iload_n F dX4_run_4 rfl 3 rfl ?_
  refine g_iconst (v := 1) F dX4_run_5 (by decide) ?_
  refine g_callS (ws' := [(x, .inr (4, [.ref g, .ref p, .ref s, .ref kc, .ref qc, .int col, .int car, .int tur, .int pre, .int cl])), (kc, .inr (0, [.ref kd, .ref kw, .ref kca, .ref kr, .ref ku, .int koff])), (kd, .inr (2, [.ref kd1, .ref kd2, .ref kd3, .ref kd4, .int (nI kb)])), (kd1, .inl (E.2.2, 256, .inl kt)), (kd2, .inl (E.2.2, 96, .inl kso)), (kd3, .inl (E.2.2, 6, .inl kst)), (kd4, .inl (E.2.2, 6, .inl ksh)), (kw, .inr (1, [.ref kwa])), (kwa, .inl (E.2.2, 96, .inl kfw)), (kca, .inr (1, [.ref kcb])), (kcb, .inl (E.2.2, 96, .inl kfc)), (kr, .inr (1, [.ref kra])), (kra, .inl (E.2.2, 96, .inl kfr)), (ku, .inl (E.2.2, 6, .inl kfu))]) F dX4_run_6 (c_X4_needUpTo E w 1 (by first | assumption | decide | omega) (by first | assumption | decide | omega)) rfl gX4_run_X4_needUpTo kS_X4_needUpTo ⟨by decide, by decide⟩ [] rfl (by decide +kernel) rfl rfl (Nat.le_of_ble_eq_true rfl) ⟨by decide, by decide⟩ ?_
  refine g_aload_n F dX4_run_9 rfl 0 rfl ?_
  refine g_callV (ws' := [(x, .inr (4, [.ref g, .ref p, .ref s, .ref kc, .ref qc, .int col, .int car, .int tur, .int pre, .int cl])), (kc, .inr (0, [.ref kd, .ref kw, .ref kca, .ref kr, .ref ku, .int koff])), (kd, .inr (2, [.ref kd1, .ref kd2, .ref kd3, .ref kd4, .int (nI kb)])), (kd1, .inl (E.2.2, 256, .inl kt)), (kd2, .inl (E.2.2, 96, .inl kso)), (kd3, .inl (E.2.2, 6, .inl kst)), (kd4, .inl (E.2.2, 6, .inl ksh)), (kw, .inr (1, [.ref kwa])), (kwa, .inl (E.2.2, 96, .inl kfw)), (kca, .inr (1, [.ref kcb])), (kcb, .inl (E.2.2, 96, .inl kfc)), (kr, .inr (1, [.ref kra])), (kra, .inl (E.2.2, 96, .inl kfr)), (ku, .inl (E.2.2, 6, .inl kfu))]) F dX4_run_10 (c_X4_needCloth E x g p s kc qc col car tur pre cl (by first | assumption | decide | omega)) rfl gX4_run_X4_needCloth 0 rfl rfl kV_X4_needCloth ⟨by decide, by decide⟩ [0] rfl (by decide +kernel) rfl rfl (Nat.le_of_ble_eq_true rfl) ⟨by decide, by decide⟩ ?_
  refine g_iload_n F dX4_run_13 rfl 2 rfl ?_
  refine g_aload_n F dX4_run_14 rfl 0 rfl ?_
  refine g_get F dX4_run_15 0 rfl rfl i4 3 (by decide) rfl (List.mem_of_getElem? (i := 1) rfl) ?_
  refine g_iload_n F dX4_run_18 rfl 1 rfl ?_
  refine g_callV (ws' := [(x, .inr (4, [.ref g, .ref p, .ref s, .ref kc, .ref qc, .int col, .int car, .int tur, .int pre, .int cl])), (kc, .inr (0, [.ref kd, .ref kw, .ref kca, .ref kr, .ref ku, .int koff])), (kd, .inr (2, [.ref kd1, .ref kd2, .ref kd3, .ref kd4, .int (nI kb)])), (kd1, .inl (E.2.2, 256, .inl kt)), (kd2, .inl (E.2.2, 96, .inl kso)), (kd3, .inl (E.2.2, 6, .inl kst)), (kd4, .inl (E.2.2, 6, .inl ksh)), (kw, .inr (1, [.ref kwa])), (kwa, .inl (E.2.2, 96, .inl kfw)), (kca, .inr (1, [.ref kcb])), (kcb, .inl (E.2.2, 96, .inl kfc)), (kr, .inr (1, [.ref kra])), (kra, .inl (E.2.2, 96, .inl kfr)), (ku, .inl (E.2.2, 6, .inl kfu))]) F dX4_run_19 (c_X0_runsOf E kc kd kd1 kd2 kd3 kd4 kw kwa kca kcb kr kra ku kt kso kst ksh kfw kfc kfr kfu koff (nI kb) y ) rfl gX4_run_X0_runsOf 1 rfl rfl kV_X0_runsOf ⟨by decide, by decide⟩ [1, 2, 3, 4, 5, 6, 7, 8, 9, 10, 11, 12, 13] rfl (by decide +kernel) rfl rfl (Nat.le_of_ble_eq_true rfl) ⟨by decide, by decide⟩ ?_
  refine g_iconst (v := 1) F dX4_run_22 (by decide) ?_
  refine g_isub F dX4_run_23 ?_
  refine g_callS (ws' := [(x, .inr (4, [.ref g, .ref p, .ref s, .ref kc, .ref qc, .int col, .int car, .int tur, .int pre, .int cl])), (kc, .inr (0, [.ref kd, .ref kw, .ref kca, .ref kr, .ref ku, .int koff])), (kd, .inr (2, [.ref kd1, .ref kd2, .ref kd3, .ref kd4, .int (nI kb)])), (kd1, .inl (E.2.2, 256, .inl kt)), (kd2, .inl (E.2.2, 96, .inl kso)), (kd3, .inl (E.2.2, 6, .inl kst)), (kd4, .inl (E.2.2, 6, .inl ksh)), (kw, .inr (1, [.ref kwa])), (kwa, .inl (E.2.2, 96, .inl kfw)), (kca, .inr (1, [.ref kcb])), (kcb, .inl (E.2.2, 96, .inl kfc)), (kr, .inr (1, [.ref kra])), (kra, .inl (E.2.2, 96, .inl kfr)), (ku, .inl (E.2.2, 6, .inl kfu))]) F dX4_run_24 (c_X4_needUpTo E pl ((sRn kfr y) - 1) (by first | assumption | decide | omega) (by first | assumption | decide | omega)) rfl gX4_run_X4_needUpTo kS_X4_needUpTo ⟨by decide, by decide⟩ [] rfl (by decide +kernel) rfl rfl (Nat.le_of_ble_eq_true rfl) ⟨by decide, by decide⟩ ?_
  refine g_iload_n F dX4_run_27 rfl 3 rfl ?_
  refine g_if_ne (tgt := 43) F dX4_run_28 (by decide) (fun k28 => ?_) (fun k28 => ?_)
  · skip
    refine g_aload_n F dX4_run_43 rfl 0 rfl ?_
    refine g_get F dX4_run_44 0 rfl rfl i4 3 (by decide) rfl (List.mem_of_getElem? (i := 1) rfl) ?_
    refine g_iload_n F dX4_run_47 rfl 1 rfl ?_
    refine g_iload_n F dX4_run_48 rfl 2 rfl ?_
    refine g_callV (ws' := [(x, .inr (4, [.ref g, .ref p, .ref s, .ref kc, .ref qc, .int col, .int car, .int tur, .int pre, .int cl])), (kc, .inr (0, [.ref kd, .ref kw, .ref kca, .ref kr, .ref ku, .int koff])), (kd, .inr (2, [.ref kd1, .ref kd2, .ref kd3, .ref kd4, .int (nI kb)])), (kd1, .inl (E.2.2, 256, .inl kt)), (kd2, .inl (E.2.2, 96, .inl kso)), (kd3, .inl (E.2.2, 6, .inl kst)), (kd4, .inl (E.2.2, 6, .inl ksh)), (kw, .inr (1, [.ref kwa])), (kwa, .inl (E.2.2, 96, .inl kfw)), (kca, .inr (1, [.ref kcb])), (kcb, .inl (E.2.2, 96, .inl kfc)), (kr, .inr (1, [.ref kra])), (kra, .inl (E.2.2, 96, .inl kfr)), (ku, .inl (E.2.2, 6, .inl kfu))]) F dX4_run_49 (c_X0_lengthOfRun E kc kd kd1 kd2 kd3 kd4 kw kwa kca kcb kr kra ku kt kso kst ksh kfw kfc kfr kfu koff (nI kb) y pl ) rfl gX4_run_X0_lengthOfRun 1 rfl rfl kV_X0_lengthOfRun ⟨by decide, by decide⟩ [1, 2, 3, 4, 5, 6, 7, 8, 9, 10, 11, 12, 13] rfl (by decide +kernel) rfl rfl (Nat.le_of_ble_eq_true rfl) ⟨by decide, by decide⟩ ?_
    exact g_iret F hQ dX4_run_52 (by simp [sRun, k28]) (rfl)
  · skip
    refine g_aload_n F dX4_run_31 rfl 0 rfl ?_
    refine g_get F dX4_run_32 0 rfl rfl i4 3 (by decide) rfl (List.mem_of_getElem? (i := 1) rfl) ?_
    refine g_iload_n F dX4_run_35 rfl 1 rfl ?_
    refine g_iload_n F dX4_run_36 rfl 2 rfl ?_
    refine g_callV (ws' := [(x, .inr (4, [.ref g, .ref p, .ref s, .ref kc, .ref qc, .int col, .int car, .int tur, .int pre, .int cl])), (kc, .inr (0, [.ref kd, .ref kw, .ref kca, .ref kr, .ref ku, .int koff])), (kd, .inr (2, [.ref kd1, .ref kd2, .ref kd3, .ref kd4, .int (nI kb)])), (kd1, .inl (E.2.2, 256, .inl kt)), (kd2, .inl (E.2.2, 96, .inl kso)), (kd3, .inl (E.2.2, 6, .inl kst)), (kd4, .inl (E.2.2, 6, .inl ksh)), (kw, .inr (1, [.ref kwa])), (kwa, .inl (E.2.2, 96, .inl kfw)), (kca, .inr (1, [.ref kcb])), (kcb, .inl (E.2.2, 96, .inl kfc)), (kr, .inr (1, [.ref kra])), (kra, .inl (E.2.2, 96, .inl kfr)), (ku, .inl (E.2.2, 6, .inl kfu))]) F dX4_run_37 (c_X0_colourOfRun E kc kd kd1 kd2 kd3 kd4 kw kwa kca kcb kr kra ku kt kso kst ksh kfw kfc kfr kfu koff (nI kb) y pl ) rfl gX4_run_X0_colourOfRun 1 rfl rfl kV_X0_colourOfRun ⟨by decide, by decide⟩ [1, 2, 3, 4, 5, 6, 7, 8, 9, 10, 11, 12, 13] rfl (by decide +kernel) rfl rfl (Nat.le_of_ble_eq_true rfl) ⟨by decide, by decide⟩ ?_
    refine g_goto (tgt := 52) F dX4_run_40 (by decide) ?_
    exact g_iret F hQ dX4_run_52 (by simp [sRun, k28]) (rfl)

set_option maxHeartbeats 4000000 in
set_option maxRecDepth 100000 in
theorem c_X4_knots (E : gE) (x : Nat) (g : Nat) (p : Nat) (s : Nat) (kc : Nat) (kd : Nat) (kd1 : Nat) (kd2 : Nat) (kd3 : Nat) (kd4 : Nat) (kw : Nat) (kwa : Nat) (kca : Nat) (kcb : Nat) (kr : Nat) (kra : Nat) (ku : Nat) (qc : Nat) (kt : AF) (kso : AF) (kst : AF) (ksh : AF) (kfw : AF) (kfc : AF) (kfr : AF) (kfu : AF) (koff : Int32) (col : Int32) (car : Int32) (tur : Int32) (pre : Int32) (cl : Int32) (kb : Nat) (y : Int32) (h0 : ¬ y < 0) (h1 : y ≤ 7) (h2 : ¬ sHas cl = 0) : Ct E yX4_knots wsX4_knots ({ frames := 8, cells := 0, slots := 0, locals := 131 }) [.ref x, .int y] [(x, .inr (4, [.ref g, .ref p, .ref s, .ref kc, .ref qc, .int col, .int car, .int tur, .int pre, .int cl])), (kc, .inr (0, [.ref kd, .ref kw, .ref kca, .ref kr, .ref ku, .int koff])), (kd, .inr (2, [.ref kd1, .ref kd2, .ref kd3, .ref kd4, .int (nI kb)])), (kd1, .inl (E.2.2, 256, .inl kt)), (kd2, .inl (E.2.2, 96, .inl kso)), (kd3, .inl (E.2.2, 6, .inl kst)), (kd4, .inl (E.2.2, 6, .inl ksh)), (kw, .inr (1, [.ref kwa])), (kwa, .inl (E.2.2, 96, .inl kfw)), (kca, .inr (1, [.ref kcb])), (kcb, .inl (E.2.2, 96, .inl kfc)), (kr, .inr (1, [.ref kra])), (kra, .inl (E.2.2, 96, .inl kfr)), (ku, .inl (E.2.2, 6, .inl kfu))] (some (.int (sKn kfw kfr y pre))) [(x, .inr (4, [.ref g, .ref p, .ref s, .ref kc, .ref qc, .int col, .int car, .int tur, .int pre, .int cl])), (kc, .inr (0, [.ref kd, .ref kw, .ref kca, .ref kr, .ref ku, .int koff])), (kd, .inr (2, [.ref kd1, .ref kd2, .ref kd3, .ref kd4, .int (nI kb)])), (kd1, .inl (E.2.2, 256, .inl kt)), (kd2, .inl (E.2.2, 96, .inl kso)), (kd3, .inl (E.2.2, 6, .inl kst)), (kd4, .inl (E.2.2, 6, .inl ksh)), (kw, .inr (1, [.ref kwa])), (kwa, .inl (E.2.2, 96, .inl kfw)), (kca, .inr (1, [.ref kcb])), (kcb, .inl (E.2.2, 96, .inl kfc)), (kr, .inr (1, [.ref kra])), (kra, .inl (E.2.2, 96, .inl kfr)), (ku, .inl (E.2.2, 6, .inl kfu))] := by
  refine Ct.of (cc := cX4_knots) (maxL := 2) (ret := (some .int)) (own := RX4) (L := [(0, .ref x), (1, .int y)]) (by decide) rfl rfl rfl (Nat.le_of_ble_eq_true rfl) rfl ?_
  intro X F hQ
  have i0 : ∀ w ∈ u_ws RX0 TX0 6, w ∈ wsX4_knots := gsub [58, 59, 60, 61, 62, 63] rfl
  have i1 : ∀ w ∈ u_ws RX1 TX1 1, w ∈ wsX4_knots := gsub [64] rfl
  have i4 : ∀ w ∈ u_ws RX4 TX4 10, w ∈ wsX4_knots := gsub [48, 49, 50, 51, 52, 53, 54, 55, 56, 57] rfl
  refine g_iload_n F dX4_knots_0 rfl 1 rfl ?_
  refine g_callS (ws' := [(x, .inr (4, [.ref g, .ref p, .ref s, .ref kc, .ref qc, .int col, .int car, .int tur, .int pre, .int cl])), (kc, .inr (0, [.ref kd, .ref kw, .ref kca, .ref kr, .ref ku, .int koff])), (kd, .inr (2, [.ref kd1, .ref kd2, .ref kd3, .ref kd4, .int (nI kb)])), (kd1, .inl (E.2.2, 256, .inl kt)), (kd2, .inl (E.2.2, 96, .inl kso)), (kd3, .inl (E.2.2, 6, .inl kst)), (kd4, .inl (E.2.2, 6, .inl ksh)), (kw, .inr (1, [.ref kwa])), (kwa, .inl (E.2.2, 96, .inl kfw)), (kca, .inr (1, [.ref kcb])), (kcb, .inl (E.2.2, 96, .inl kfc)), (kr, .inr (1, [.ref kra])), (kra, .inl (E.2.2, 96, .inl kfr)), (ku, .inl (E.2.2, 6, .inl kfu))]) F dX4_knots_1 (c_X4_needRow E y (by first | assumption | decide | omega) (by first | assumption | decide | omega)) rfl gX4_knots_X4_needRow kS_X4_needRow ⟨by decide, by decide⟩ [] rfl (by decide +kernel) rfl rfl (Nat.le_of_ble_eq_true rfl) ⟨by decide, by decide⟩ ?_
  refine g_aload_n F dX4_knots_4 rfl 0 rfl ?_
  refine g_callV (ws' := [(x, .inr (4, [.ref g, .ref p, .ref s, .ref kc, .ref qc, .int col, .int car, .int tur, .int pre, .int cl])), (kc, .inr (0, [.ref kd, .ref kw, .ref kca, .ref kr, .ref ku, .int koff])), (kd, .inr (2, [.ref kd1, .ref kd2, .ref kd3, .ref kd4, .int (nI kb)])), (kd1, .inl (E.2.2, 256, .inl kt)), (kd2, .inl (E.2.2, 96, .inl kso)), (kd3, .inl (E.2.2, 6, .inl kst)), (kd4, .inl (E.2.2, 6, .inl ksh)), (kw, .inr (1, [.ref kwa])), (kwa, .inl (E.2.2, 96, .inl kfw)), (kca, .inr (1, [.ref kcb])), (kcb, .inl (E.2.2, 96, .inl kfc)), (kr, .inr (1, [.ref kra])), (kra, .inl (E.2.2, 96, .inl kfr)), (ku, .inl (E.2.2, 6, .inl kfu))]) F dX4_knots_5 (c_X4_needCloth E x g p s kc qc col car tur pre cl (by first | assumption | decide | omega)) rfl gX4_knots_X4_needCloth 0 rfl rfl kV_X4_needCloth ⟨by decide, by decide⟩ [0] rfl (by decide +kernel) rfl rfl (Nat.le_of_ble_eq_true rfl) ⟨by decide, by decide⟩ ?_
  refine g_aload_n F dX4_knots_8 rfl 0 rfl ?_
  refine g_get F dX4_knots_9 0 rfl rfl i4 3 (by decide) rfl (List.mem_of_getElem? (i := 1) rfl) ?_
  refine g_iload_n F dX4_knots_12 rfl 1 rfl ?_
  refine g_aload_n F dX4_knots_13 rfl 0 rfl ?_
  refine g_get F dX4_knots_14 0 rfl rfl i4 8 (by decide) rfl (List.mem_of_getElem? (i := 2) rfl) ?_
  refine g_callV (ws' := [(x, .inr (4, [.ref g, .ref p, .ref s, .ref kc, .ref qc, .int col, .int car, .int tur, .int pre, .int cl])), (kc, .inr (0, [.ref kd, .ref kw, .ref kca, .ref kr, .ref ku, .int koff])), (kd, .inr (2, [.ref kd1, .ref kd2, .ref kd3, .ref kd4, .int (nI kb)])), (kd1, .inl (E.2.2, 256, .inl kt)), (kd2, .inl (E.2.2, 96, .inl kso)), (kd3, .inl (E.2.2, 6, .inl kst)), (kd4, .inl (E.2.2, 6, .inl ksh)), (kw, .inr (1, [.ref kwa])), (kwa, .inl (E.2.2, 96, .inl kfw)), (kca, .inr (1, [.ref kcb])), (kcb, .inl (E.2.2, 96, .inl kfc)), (kr, .inr (1, [.ref kra])), (kra, .inl (E.2.2, 96, .inl kfr)), (ku, .inl (E.2.2, 6, .inl kfu))]) F dX4_knots_17 (c_X0_knotsOf E kc kd kd1 kd2 kd3 kd4 kw kwa kca kcb kr kra ku kt kso kst ksh kfw kfc kfr kfu koff (nI kb) y pre ) rfl gX4_knots_X0_knotsOf 1 rfl rfl kV_X0_knotsOf ⟨by decide, by decide⟩ [1, 2, 3, 4, 5, 6, 7, 8, 9, 10, 11, 12, 13] rfl (by decide +kernel) rfl rfl (Nat.le_of_ble_eq_true rfl) ⟨by decide, by decide⟩ ?_
  exact g_iret F hQ dX4_knots_20 (rfl) (rfl)

set_option maxHeartbeats 4000000 in
set_option maxRecDepth 100000 in
theorem c_X4_thread (E : gE) (x : Nat) (g : Nat) (p : Nat) (s : Nat) (sa : Nat) (kc : Nat) (kd : Nat) (kd1 : Nat) (kd2 : Nat) (kd3 : Nat) (kd4 : Nat) (kw : Nat) (kwa : Nat) (kca : Nat) (kcb : Nat) (kr : Nat) (kra : Nat) (ku : Nat) (qc : Nat) (th : AF) (kt : AF) (kso : AF) (kst : AF) (ksh : AF) (kfw : AF) (kfc : AF) (kfr : AF) (kfu : AF) (koff : Int32) (col : Int32) (car : Int32) (tur : Int32) (pre : Int32) (cl : Int32) (kb : Nat) (c : Int32) (w : Int32) (h0 : ¬ c < 0) (h1 : c ≤ 5) (h2 : ¬ w < 0) (h3 : w ≤ 2) : Ct E yX4_thread wsX4_thread ({ frames := 8, cells := 0, slots := 0, locals := 131 }) [.ref x, .int c, .int w] [(x, .inr (4, [.ref g, .ref p, .ref s, .ref kc, .ref qc, .int col, .int car, .int tur, .int pre, .int cl])), (s, .inr (3, [.ref sa])), (sa, .inl (E.2.2, 6, .inl th)), (kc, .inr (0, [.ref kd, .ref kw, .ref kca, .ref kr, .ref ku, .int koff])), (kd, .inr (2, [.ref kd1, .ref kd2, .ref kd3, .ref kd4, .int (nI kb)])), (kd1, .inl (E.2.2, 256, .inl kt)), (kd2, .inl (E.2.2, 96, .inl kso)), (kd3, .inl (E.2.2, 6, .inl kst)), (kd4, .inl (E.2.2, 6, .inl ksh)), (kw, .inr (1, [.ref kwa])), (kwa, .inl (E.2.2, 96, .inl kfw)), (kca, .inr (1, [.ref kcb])), (kcb, .inl (E.2.2, 96, .inl kfc)), (kr, .inr (1, [.ref kra])), (kra, .inl (E.2.2, 96, .inl kfr)), (ku, .inl (E.2.2, 6, .inl kfu))] (some (.int (sThr th kfu ksh kb cl c w))) [(x, .inr (4, [.ref g, .ref p, .ref s, .ref kc, .ref qc, .int col, .int car, .int tur, .int pre, .int cl])), (s, .inr (3, [.ref sa])), (sa, .inl (E.2.2, 6, .inl th)), (kc, .inr (0, [.ref kd, .ref kw, .ref kca, .ref kr, .ref ku, .int koff])), (kd, .inr (2, [.ref kd1, .ref kd2, .ref kd3, .ref kd4, .int (nI kb)])), (kd1, .inl (E.2.2, 256, .inl kt)), (kd2, .inl (E.2.2, 96, .inl kso)), (kd3, .inl (E.2.2, 6, .inl kst)), (kd4, .inl (E.2.2, 6, .inl ksh)), (kw, .inr (1, [.ref kwa])), (kwa, .inl (E.2.2, 96, .inl kfw)), (kca, .inr (1, [.ref kcb])), (kcb, .inl (E.2.2, 96, .inl kfc)), (kr, .inr (1, [.ref kra])), (kra, .inl (E.2.2, 96, .inl kfr)), (ku, .inl (E.2.2, 6, .inl kfu))] := by
  refine Ct.of (cc := cX4_thread) (maxL := 3) (ret := (some .int)) (own := RX4) (L := [(0, .ref x), (1, .int c), (2, .int w)]) (by decide) rfl rfl rfl (Nat.le_of_ble_eq_true rfl) rfl ?_
  intro X F hQ
  have i0 : ∀ w ∈ u_ws RX0 TX0 6, w ∈ wsX4_thread := gsub [54, 55, 56, 57, 58, 59] rfl
  have i2 : ∀ w ∈ u_ws RX2 TX2 5, w ∈ wsX4_thread := gsub [60, 61, 62, 63, 64] rfl
  have i3 : ∀ w ∈ u_ws RX3 TX3 1, w ∈ wsX4_thread := gsub [53] rfl
  have i4 : ∀ w ∈ u_ws RX4 TX4 10, w ∈ wsX4_thread := gsub [43, 44, 45, 46, 47, 48, 49, 50, 51, 52] rfl
  refine g_iload_n F dX4_thread_0 rfl 1 rfl ?_
  refine g_callS (ws' := [(x, .inr (4, [.ref g, .ref p, .ref s, .ref kc, .ref qc, .int col, .int car, .int tur, .int pre, .int cl])), (s, .inr (3, [.ref sa])), (sa, .inl (E.2.2, 6, .inl th)), (kc, .inr (0, [.ref kd, .ref kw, .ref kca, .ref kr, .ref ku, .int koff])), (kd, .inr (2, [.ref kd1, .ref kd2, .ref kd3, .ref kd4, .int (nI kb)])), (kd1, .inl (E.2.2, 256, .inl kt)), (kd2, .inl (E.2.2, 96, .inl kso)), (kd3, .inl (E.2.2, 6, .inl kst)), (kd4, .inl (E.2.2, 6, .inl ksh)), (kw, .inr (1, [.ref kwa])), (kwa, .inl (E.2.2, 96, .inl kfw)), (kca, .inr (1, [.ref kcb])), (kcb, .inl (E.2.2, 96, .inl kfc)), (kr, .inr (1, [.ref kra])), (kra, .inl (E.2.2, 96, .inl kfr)), (ku, .inl (E.2.2, 6, .inl kfu))]) F dX4_thread_1 (c_X4_needColour E c (by first | assumption | decide | omega) (by first | assumption | decide | omega)) rfl gX4_thread_X4_needColour kS_X4_needColour ⟨by decide, by decide⟩ [] rfl (by decide +kernel) rfl rfl (Nat.le_of_ble_eq_true rfl) ⟨by decide, by decide⟩ ?_
  refine g_iload_n F dX4_thread_4 rfl 2 rfl ?_
  refine g_iconst (v := 2) F dX4_thread_5 (by decide) ?_
  refine g_callS (ws' := [(x, .inr (4, [.ref g, .ref p, .ref s, .ref kc, .ref qc, .int col, .int car, .int tur, .int pre, .int cl])), (s, .inr (3, [.ref sa])), (sa, .inl (E.2.2, 6, .inl th)), (kc, .inr (0, [.ref kd, .ref kw, .ref kca, .ref kr, .ref ku, .int koff])), (kd, .inr (2, [.ref kd1, .ref kd2, .ref kd3, .ref kd4, .int (nI kb)])), (kd1, .inl (E.2.2, 256, .inl kt)), (kd2, .inl (E.2.2, 96, .inl kso)), (kd3, .inl (E.2.2, 6, .inl kst)), (kd4, .inl (E.2.2, 6, .inl ksh)), (kw, .inr (1, [.ref kwa])), (kwa, .inl (E.2.2, 96, .inl kfw)), (kca, .inr (1, [.ref kcb])), (kcb, .inl (E.2.2, 96, .inl kfc)), (kr, .inr (1, [.ref kra])), (kra, .inl (E.2.2, 96, .inl kfr)), (ku, .inl (E.2.2, 6, .inl kfu))]) F dX4_thread_6 (c_X4_needUpTo E w 2 (by first | assumption | decide | omega) (by first | assumption | decide | omega)) rfl gX4_thread_X4_needUpTo kS_X4_needUpTo ⟨by decide, by decide⟩ [] rfl (by decide +kernel) rfl rfl (Nat.le_of_ble_eq_true rfl) ⟨by decide, by decide⟩ ?_
  refine g_iload_n F dX4_thread_9 rfl 2 rfl ?_
  refine g_if_ne (tgt := 22) F dX4_thread_10 (by decide) (fun k10 => ?_) (fun k10 => ?_)
  · skip
    refine g_iload_n F dX4_thread_22 rfl 2 rfl ?_
    refine g_iconst (v := 1) F dX4_thread_23 (by decide) ?_
    refine g_icmp_ne (tgt := 47) F dX4_thread_24 (by decide) (fun k24 => ?_) (fun k24 => ?_)
    · skip
      refine g_aload_n F dX4_thread_47 rfl 0 rfl ?_
      refine g_callV (ws' := [(x, .inr (4, [.ref g, .ref p, .ref s, .ref kc, .ref qc, .int col, .int car, .int tur, .int pre, .int cl])), (s, .inr (3, [.ref sa])), (sa, .inl (E.2.2, 6, .inl th)), (kc, .inr (0, [.ref kd, .ref kw, .ref kca, .ref kr, .ref ku, .int koff])), (kd, .inr (2, [.ref kd1, .ref kd2, .ref kd3, .ref kd4, .int (nI kb)])), (kd1, .inl (E.2.2, 256, .inl kt)), (kd2, .inl (E.2.2, 96, .inl kso)), (kd3, .inl (E.2.2, 6, .inl kst)), (kd4, .inl (E.2.2, 6, .inl ksh)), (kw, .inr (1, [.ref kwa])), (kwa, .inl (E.2.2, 96, .inl kfw)), (kca, .inr (1, [.ref kcb])), (kcb, .inl (E.2.2, 96, .inl kfc)), (kr, .inr (1, [.ref kra])), (kra, .inl (E.2.2, 96, .inl kfr)), (ku, .inl (E.2.2, 6, .inl kfu))]) F dX4_thread_48 (c_X4_hasCloth E x g p s kc qc col car tur pre cl ) rfl gX4_thread_X4_hasCloth 0 rfl rfl kV_X4_hasCloth ⟨by decide, by decide⟩ [0] rfl (by decide +kernel) rfl rfl (Nat.le_of_ble_eq_true rfl) ⟨by decide, by decide⟩ ?_
      refine g_if_eq (tgt := 65) F dX4_thread_51 (by decide) (fun k51 => ?_) (fun k51 => ?_)
      · skip
        refine g_iconst (v := (-1)) F dX4_thread_65 (by decide) ?_
        exact g_iret F hQ dX4_thread_66 (by simp [sThr, k10, k24, k51]) (rfl)
      · skip
        refine g_aload_n F dX4_thread_54 rfl 0 rfl ?_
        refine g_get F dX4_thread_55 0 rfl rfl i4 3 (by decide) rfl (List.mem_of_getElem? (i := 2) rfl) ?_
        refine g_iload_n F dX4_thread_58 rfl 1 rfl ?_
        refine g_callV (ws' := [(x, .inr (4, [.ref g, .ref p, .ref s, .ref kc, .ref qc, .int col, .int car, .int tur, .int pre, .int cl])), (s, .inr (3, [.ref sa])), (sa, .inl (E.2.2, 6, .inl th)), (kc, .inr (0, [.ref kd, .ref kw, .ref kca, .ref kr, .ref ku, .int koff])), (kd, .inr (2, [.ref kd1, .ref kd2, .ref kd3, .ref kd4, .int (nI kb)])), (kd1, .inl (E.2.2, 256, .inl kt)), (kd2, .inl (E.2.2, 96, .inl kso)), (kd3, .inl (E.2.2, 6, .inl kst)), (kd4, .inl (E.2.2, 6, .inl ksh)), (kw, .inr (1, [.ref kwa])), (kwa, .inl (E.2.2, 96, .inl kfw)), (kca, .inr (1, [.ref kcb])), (kcb, .inl (E.2.2, 96, .inl kfc)), (kr, .inr (1, [.ref kra])), (kra, .inl (E.2.2, 96, .inl kfr)), (ku, .inl (E.2.2, 6, .inl kfu))]) F dX4_thread_59 (c_X0_shadeOf E kc kd kd1 kd2 kd3 kd4 kw kwa kca kcb kr kra ku kt kso kst ksh kfw kfc kfr kfu koff (nI kb) c ) rfl gX4_thread_X0_shadeOf 3 rfl rfl kV_X0_shadeOf ⟨by decide, by decide⟩ [3, 4, 5, 6, 7, 8, 9, 10, 11, 12, 13, 14, 15] rfl (by decide +kernel) rfl rfl (Nat.le_of_ble_eq_true rfl) ⟨by decide, by decide⟩ ?_
        refine g_goto (tgt := 66) F dX4_thread_62 (by decide) ?_
        exact g_iret F hQ dX4_thread_66 (by simp [sThr, k10, k24, k51]) (rfl)
    · skip
      refine g_aload_n F dX4_thread_27 rfl 0 rfl ?_
      refine g_callV (ws' := [(x, .inr (4, [.ref g, .ref p, .ref s, .ref kc, .ref qc, .int col, .int car, .int tur, .int pre, .int cl])), (s, .inr (3, [.ref sa])), (sa, .inl (E.2.2, 6, .inl th)), (kc, .inr (0, [.ref kd, .ref kw, .ref kca, .ref kr, .ref ku, .int koff])), (kd, .inr (2, [.ref kd1, .ref kd2, .ref kd3, .ref kd4, .int (nI kb)])), (kd1, .inl (E.2.2, 256, .inl kt)), (kd2, .inl (E.2.2, 96, .inl kso)), (kd3, .inl (E.2.2, 6, .inl kst)), (kd4, .inl (E.2.2, 6, .inl ksh)), (kw, .inr (1, [.ref kwa])), (kwa, .inl (E.2.2, 96, .inl kfw)), (kca, .inr (1, [.ref kcb])), (kcb, .inl (E.2.2, 96, .inl kfc)), (kr, .inr (1, [.ref kra])), (kra, .inl (E.2.2, 96, .inl kfr)), (ku, .inl (E.2.2, 6, .inl kfu))]) F dX4_thread_28 (c_X4_hasCloth E x g p s kc qc col car tur pre cl ) rfl gX4_thread_X4_hasCloth 0 rfl rfl kV_X4_hasCloth ⟨by decide, by decide⟩ [0] rfl (by decide +kernel) rfl rfl (Nat.le_of_ble_eq_true rfl) ⟨by decide, by decide⟩ ?_
      refine g_if_eq (tgt := 45) F dX4_thread_31 (by decide) (fun k31 => ?_) (fun k31 => ?_)
      · skip
        refine g_iconst (v := 0) F dX4_thread_45 (by decide) ?_
        exact g_iret F hQ dX4_thread_46 (by simp [sThr, k10, k24, k31]) (rfl)
      · skip
        refine g_aload_n F dX4_thread_34 rfl 0 rfl ?_
        refine g_get F dX4_thread_35 0 rfl rfl i4 3 (by decide) rfl (List.mem_of_getElem? (i := 2) rfl) ?_
        refine g_iload_n F dX4_thread_38 rfl 1 rfl ?_
        refine g_callV (ws' := [(x, .inr (4, [.ref g, .ref p, .ref s, .ref kc, .ref qc, .int col, .int car, .int tur, .int pre, .int cl])), (s, .inr (3, [.ref sa])), (sa, .inl (E.2.2, 6, .inl th)), (kc, .inr (0, [.ref kd, .ref kw, .ref kca, .ref kr, .ref ku, .int koff])), (kd, .inr (2, [.ref kd1, .ref kd2, .ref kd3, .ref kd4, .int (nI kb)])), (kd1, .inl (E.2.2, 256, .inl kt)), (kd2, .inl (E.2.2, 96, .inl kso)), (kd3, .inl (E.2.2, 6, .inl kst)), (kd4, .inl (E.2.2, 6, .inl ksh)), (kw, .inr (1, [.ref kwa])), (kwa, .inl (E.2.2, 96, .inl kfw)), (kca, .inr (1, [.ref kcb])), (kcb, .inl (E.2.2, 96, .inl kfc)), (kr, .inr (1, [.ref kra])), (kra, .inl (E.2.2, 96, .inl kfr)), (ku, .inl (E.2.2, 6, .inl kfu))]) F dX4_thread_39 (c_X0_cellsIn E kc kd kd1 kd2 kd3 kd4 kw kwa kca kcb kr kra ku kt kso kst ksh kfw kfc kfr kfu koff (nI kb) c ) rfl gX4_thread_X0_cellsIn 3 rfl rfl kV_X0_cellsIn ⟨by decide, by decide⟩ [3, 4, 5, 6, 7, 8, 9, 10, 11, 12, 13, 14, 15] rfl (by decide +kernel) rfl rfl (Nat.le_of_ble_eq_true rfl) ⟨by decide, by decide⟩ ?_
        refine g_goto (tgt := 46) F dX4_thread_42 (by decide) ?_
        exact g_iret F hQ dX4_thread_46 (by simp [sThr, k10, k24, k31]) (rfl)
  · skip
    refine g_aload_n F dX4_thread_13 rfl 0 rfl ?_
    refine g_get F dX4_thread_14 0 rfl rfl i4 2 (by decide) rfl (List.mem_of_getElem? (i := 1) rfl) ?_
    refine g_iload_n F dX4_thread_17 rfl 1 rfl ?_
    refine g_callV (ws' := [(x, .inr (4, [.ref g, .ref p, .ref s, .ref kc, .ref qc, .int col, .int car, .int tur, .int pre, .int cl])), (s, .inr (3, [.ref sa])), (sa, .inl (E.2.2, 6, .inl th)), (kc, .inr (0, [.ref kd, .ref kw, .ref kca, .ref kr, .ref ku, .int koff])), (kd, .inr (2, [.ref kd1, .ref kd2, .ref kd3, .ref kd4, .int (nI kb)])), (kd1, .inl (E.2.2, 256, .inl kt)), (kd2, .inl (E.2.2, 96, .inl kso)), (kd3, .inl (E.2.2, 6, .inl kst)), (kd4, .inl (E.2.2, 6, .inl ksh)), (kw, .inr (1, [.ref kwa])), (kwa, .inl (E.2.2, 96, .inl kfw)), (kca, .inr (1, [.ref kcb])), (kcb, .inl (E.2.2, 96, .inl kfc)), (kr, .inr (1, [.ref kra])), (kra, .inl (E.2.2, 96, .inl kfr)), (ku, .inl (E.2.2, 6, .inl kfu))]) F dX4_thread_18 (c_X3_holds E s sa th c ) rfl gX4_thread_X3_holds 1 rfl rfl kV_X3_holds ⟨by decide, by decide⟩ [1, 2] rfl (by decide +kernel) rfl rfl (Nat.le_of_ble_eq_true rfl) ⟨by decide, by decide⟩ ?_
    exact g_iret F hQ dX4_thread_21 (by simp [sThr, k10]) (rfl)
end PTAPA
