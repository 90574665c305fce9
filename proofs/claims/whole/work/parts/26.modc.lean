/-! the reference: calls that ask -/
section PMODC
set_option maxHeartbeats 4000000 in
set_option maxRecDepth 100000 in
theorem c_X5_set (E : gE) (y : Nat) (y1 : Nat) (y2 : Nat) (y3 : Nat) (y4 : Nat) (y5 : Nat) (y6 : Nat) (y7 : Nat) (y8 : Nat) (y9 : Nat) (f : AF) (thr : Int32) (col : Int32) (car : Int32) (tur : Int32) (pre : Int32) (mb : Int32) (off : Int32) (wov : Int32) (km : Int32) (ko : Int32) (a : Nat) (b : Nat) (v : Int32) (ha : a < 12) (hb : b < 8) (h2 : ¬ mIn v 0 255 = 0) : Ct E yX5_set wsX5_set ({ frames := 2, cells := 0, slots := 0, locals := 42 }) [.ref y, .int (nI a), .int (nI b), .int v] [(y, .inr (5, [.int thr, .ref y1, .int col, .int car, .int tur, .int pre, .ref y2, .int mb, .ref y3, .ref y4, .ref y5, .int off, .ref y6, .ref y7, .int wov, .int km, .int ko, .ref y8, .ref y9])), (y1, .inl (E.2.2, 96, .inl f))] (some (.int (f (12 * b + a)))) [(y, .inr (5, [.int 0, .ref y1, .int col, .int car, .int tur, .int pre, .ref y2, .int mb, .ref y3, .ref y4, .ref y5, .int off, .ref y6, .ref y7, .int wov, .int km, .int ko, .ref y8, .ref y9])), (y1, .inl (E.2.2, 96, .inl (upd f (12 * b + a) v)))] := by
  refine Ct.of (cc := cX5_set) (maxL := 5) (ret := (some .int)) (own := RX5) (L := [(0, .ref y), (1, .int (nI a)), (2, .int (nI b)), (3, .int v)]) (by decide) rfl rfl rfl (Nat.le_of_ble_eq_true rfl) rfl ?_
  intro X F hQ
  have i5 : ∀ w ∈ u_ws RX5 TX5 19, w ∈ wsX5_set := gsub [20, 21, 22, 23, 24, 25, 26, 27, 28, 29, 30, 31, 32, 33, 34, 35, 36, 37, 38] rfl
  refine g_aload_n F dX5_set_0 rfl 0 rfl ?_
  refine g_iconst (v := 0) F dX5_set_1 (by decide) ?_
  refine g_put (ws' := [(y, .inr (5, [.int 0, .ref y1, .int col, .int car, .int tur, .int pre, .ref y2, .int mb, .ref y3, .ref y4, .ref y5, .int off, .ref y6, .ref y7, .int wov, .int km, .int ko, .ref y8, .ref y9])), (y1, .inl (E.2.2, 96, .inl f))]) F dX5_set_2 0 rfl rfl i5 tyX5 tyX5_ok nmX5 0 (by decide) rfl (rfl) (rfl) (Nat.le_of_ble_eq_true rfl) (List.mem_of_getElem? (i := 1) rfl) rfl ?_
  refine g_iload_n F dX5_set_5 rfl 1 rfl ?_
  refine g_callS (ws' := [(y, .inr (5, [.int 0, .ref y1, .int col, .int car, .int tur, .int pre, .ref y2, .int mb, .ref y3, .ref y4, .ref y5, .int off, .ref y6, .ref y7, .int wov, .int km, .int ko, .ref y8, .ref y9])), (y1, .inl (E.2.2, 96, .inl f))]) F dX5_set_6 (c_X5_isX E (nI a) ) rfl gX5_set_X5_isX kS_X5_isX ⟨by decide, by decide⟩ [] rfl (by decide +kernel) rfl rfl (Nat.le_of_ble_eq_true rfl) ⟨by decide, by decide⟩ ?_
  refine g_topr (y := 1) (mIn_nI (n := 11) (by omega) (by omega)) ?_
  refine g_if_eq_f (tgt := 19) F dX5_set_9 (by decide) (by decide) ?_
  refine g_iload_n F dX5_set_12 rfl 2 rfl ?_
  refine g_callS (ws' := [(y, .inr (5, [.int 0, .ref y1, .int col, .int car, .int tur, .int pre, .ref y2, .int mb, .ref y3, .ref y4, .ref y5, .int off, .ref y6, .ref y7, .int wov, .int km, .int ko, .ref y8, .ref y9])), (y1, .inl (E.2.2, 96, .inl f))]) F dX5_set_13 (c_X5_isY E (nI b) ) rfl gX5_set_X5_isY kS_X5_isY ⟨by decide, by decide⟩ [] rfl (by decide +kernel) rfl rfl (Nat.le_of_ble_eq_true rfl) ⟨by decide, by decide⟩ ?_
  refine g_topr (y := 1) (mIn_nI (n := 7) (by omega) (by omega)) ?_
  refine g_if_ne_t (tgt := 25) F dX5_set_16 (by decide) (by decide) ?_
  refine g_iload_n F dX5_set_25 rfl 3 rfl ?_
  refine g_iconst (v := 0) F dX5_set_26 (by decide) ?_
  refine g_sipush (v := 255) F dX5_set_27 (by decide) ?_
  refine g_callS (ws' := [(y, .inr (5, [.int 0, .ref y1, .int col, .int car, .int tur, .int pre, .ref y2, .int mb, .ref y3, .ref y4, .ref y5, .int off, .ref y6, .ref y7, .int wov, .int km, .int ko, .ref y8, .ref y9])), (y1, .inl (E.2.2, 96, .inl f))]) F dX5_set_30 (c_X5_isIn E v 0 255 ) rfl gX5_set_X5_isIn kS_X5_isIn ⟨by decide, by decide⟩ [] rfl (by decide +kernel) rfl rfl (Nat.le_of_ble_eq_true rfl) ⟨by decide, by decide⟩ ?_
  refine g_if_ne_t (tgt := 42) F dX5_set_33 (by decide) (h2) ?_
  refine g_aload_n F dX5_set_42 rfl 0 rfl ?_
  refine g_get F dX5_set_43 0 rfl rfl i5 1 (by decide) rfl (List.mem_of_getElem? (i := 2) rfl) ?_
  refine g_iload_n F dX5_set_46 rfl 1 rfl ?_
  refine g_iload_n F dX5_set_47 rfl 2 rfl ?_
  refine g_callS (ws' := [(y, .inr (5, [.int 0, .ref y1, .int col, .int car, .int tur, .int pre, .ref y2, .int mb, .ref y3, .ref y4, .ref y5, .int off, .ref y6, .ref y7, .int wov, .int km, .int ko, .ref y8, .ref y9])), (y1, .inl (E.2.2, 96, .inl f))]) F dX5_set_48 (c_X5_at E (nI a) (nI b) ) rfl gX5_set_X5_at kS_X5_at ⟨by decide, by decide⟩ [] rfl (by decide +kernel) rfl rfl (Nat.le_of_ble_eq_true rfl) ⟨by decide, by decide⟩ ?_
  refine g_topr (y := nI (12 * b + a)) (by rw [show (12 : Int32) = nI 12 from rfl, pk_mul, nI_add]) ?_
  refine g_ialdN (k := 12 * b + a) F dX5_set_51 1 rfl (by omega) (by first | decide | omega) ?_
  refine g_istore (L' := [(0, .ref y), (1, .int (nI a)), (2, .int (nI b)), (3, .int v), (4, .int (f (12 * b + a)))]) F dX5_set_52 (by decide) [1, 2, 3, 4, 0] rfl ?_
  refine g_aload_n F dX5_set_54 rfl 0 rfl ?_
  refine g_get F dX5_set_55 0 rfl rfl i5 1 (by decide) rfl (List.mem_of_getElem? (i := 2) rfl) ?_
  refine g_iload_n F dX5_set_58 rfl 1 rfl ?_
  refine g_iload_n F dX5_set_59 rfl 2 rfl ?_
  refine g_callS (ws' := [(y, .inr (5, [.int 0, .ref y1, .int col, .int car, .int tur, .int pre, .ref y2, .int mb, .ref y3, .ref y4, .ref y5, .int off, .ref y6, .ref y7, .int wov, .int km, .int ko, .ref y8, .ref y9])), (y1, .inl (E.2.2, 96, .inl f))]) F dX5_set_60 (c_X5_at E (nI a) (nI b) ) rfl gX5_set_X5_at kS_X5_at ⟨by decide, by decide⟩ [] rfl (by decide +kernel) rfl rfl (Nat.le_of_ble_eq_true rfl) ⟨by decide, by decide⟩ ?_
  refine g_topr (y := nI (12 * b + a)) (by rw [show (12 : Int32) = nI 12 from rfl, pk_mul, nI_add]) ?_
  refine g_iload_n F dX5_set_63 rfl 3 rfl ?_
  refine g_iastN (k := 12 * b + a) (ws' := [(y, .inr (5, [.int 0, .ref y1, .int col, .int car, .int tur, .int pre, .ref y2, .int mb, .ref y3, .ref y4, .ref y5, .int off, .ref y6, .ref y7, .int wov, .int km, .int ko, .ref y8, .ref y9])), (y1, .inl (E.2.2, 96, .inl (upd f (12 * b + a) v)))]) F dX5_set_64 1 rfl (by omega) (by first | decide | omega) rfl ?_
  refine g_iload F dX5_set_65 4 rfl ?_
  exact g_iret F hQ dX5_set_67 (rfl) (rfl)

set_option maxHeartbeats 4000000 in
set_option maxRecDepth 100000 in
theorem c_X5_set_1 (E : gE) (y : Nat) (y1 : Nat) (y2 : Nat) (y3 : Nat) (y4 : Nat) (y5 : Nat) (y6 : Nat) (y7 : Nat) (y8 : Nat) (y9 : Nat) (thr : Int32) (col : Int32) (car : Int32) (tur : Int32) (pre : Int32) (mb : Int32) (off : Int32) (wov : Int32) (km : Int32) (ko : Int32) (a : Int32) (b : Int32) (v : Int32) (h : mIn a 0 11 = 0 ∨ mIn b 0 7 = 0) : Ct E yX5_set wsX5_set ({ frames := 2, cells := 0, slots := 0, locals := 42 }) [.ref y, .int a, .int b, .int v] [(y, .inr (5, [.int thr, .ref y1, .int col, .int car, .int tur, .int pre, .ref y2, .int mb, .ref y3, .ref y4, .ref y5, .int off, .ref y6, .ref y7, .int wov, .int km, .int ko, .ref y8, .ref y9]))] (some (.int 0)) [(y, .inr (5, [.int 1, .ref y1, .int col, .int car, .int tur, .int pre, .ref y2, .int mb, .ref y3, .ref y4, .ref y5, .int off, .ref y6, .ref y7, .int wov, .int km, .int ko, .ref y8, .ref y9]))] := by
  refine Ct.of (cc := cX5_set) (maxL := 5) (ret := (some .int)) (own := RX5) (L := [(0, .ref y), (1, .int a), (2, .int b), (3, .int v)]) (by decide) rfl rfl rfl (Nat.le_of_ble_eq_true rfl) rfl ?_
  intro X F hQ
  have i5 : ∀ w ∈ u_ws RX5 TX5 19, w ∈ wsX5_set := gsub [20, 21, 22, 23, 24, 25, 26, 27, 28, 29, 30, 31, 32, 33, 34, 35, 36, 37, 38] rfl
  refine g_aload_n F dX5_set_0 rfl 0 rfl ?_
  refine g_iconst (v := 0) F dX5_set_1 (by decide) ?_
  refine g_put (ws' := [(y, .inr (5, [.int 0, .ref y1, .int col, .int car, .int tur, .int pre, .ref y2, .int mb, .ref y3, .ref y4, .ref y5, .int off, .ref y6, .ref y7, .int wov, .int km, .int ko, .ref y8, .ref y9]))]) F dX5_set_2 0 rfl rfl i5 tyX5 tyX5_ok nmX5 0 (by decide) rfl (rfl) (rfl) (Nat.le_of_ble_eq_true rfl) (List.mem_of_getElem? (i := 1) rfl) rfl ?_
  refine g_iload_n F dX5_set_5 rfl 1 rfl ?_
  refine g_callS (ws' := [(y, .inr (5, [.int 0, .ref y1, .int col, .int car, .int tur, .int pre, .ref y2, .int mb, .ref y3, .ref y4, .ref y5, .int off, .ref y6, .ref y7, .int wov, .int km, .int ko, .ref y8, .ref y9]))]) F dX5_set_6 (c_X5_isX E a ) rfl gX5_set_X5_isX kS_X5_isX ⟨by decide, by decide⟩ [] rfl (by decide +kernel) rfl rfl (Nat.le_of_ble_eq_true rfl) ⟨by decide, by decide⟩ ?_
  refine g_if_eq (tgt := 19) F dX5_set_9 (by decide) (fun k9 => ?_) (fun k9 => ?_)
  · skip
    refine g_aload_n F dX5_set_19 rfl 0 rfl ?_
    refine g_iconst (v := 1) F dX5_set_20 (by decide) ?_
    refine g_callV (ws' := [(y, .inr (5, [.int 1, .ref y1, .int col, .int car, .int tur, .int pre, .ref y2, .int mb, .ref y3, .ref y4, .ref y5, .int off, .ref y6, .ref y7, .int wov, .int km, .int ko, .ref y8, .ref y9]))]) F dX5_set_21 (c_X5_no E y y1 y2 y3 y4 y5 y6 y7 y8 y9 0 col car tur pre mb off wov km ko 1 ) rfl gX5_set_X5_no 0 rfl rfl kV_X5_no ⟨by decide, by decide⟩ [0] rfl (by decide +kernel) rfl rfl (Nat.le_of_ble_eq_true rfl) ⟨by decide, by decide⟩ ?_
    exact g_iret F hQ dX5_set_24 (rfl) (rfl)
  · skip
    refine g_iload_n F dX5_set_12 rfl 2 rfl ?_
    refine g_callS (ws' := [(y, .inr (5, [.int 0, .ref y1, .int col, .int car, .int tur, .int pre, .ref y2, .int mb, .ref y3, .ref y4, .ref y5, .int off, .ref y6, .ref y7, .int wov, .int km, .int ko, .ref y8, .ref y9]))]) F dX5_set_13 (c_X5_isY E b ) rfl gX5_set_X5_isY kS_X5_isY ⟨by decide, by decide⟩ [] rfl (by decide +kernel) rfl rfl (Nat.le_of_ble_eq_true rfl) ⟨by decide, by decide⟩ ?_
    refine g_if_ne_f (tgt := 25) F dX5_set_16 (by decide) (fun q => q (h.resolve_left k9)) ?_
    refine g_aload_n F dX5_set_19 rfl 0 rfl ?_
    refine g_iconst (v := 1) F dX5_set_20 (by decide) ?_
    refine g_callV (ws' := [(y, .inr (5, [.int 1, .ref y1, .int col, .int car, .int tur, .int pre, .ref y2, .int mb, .ref y3, .ref y4, .ref y5, .int off, .ref y6, .ref y7, .int wov, .int km, .int ko, .ref y8, .ref y9]))]) F dX5_set_21 (c_X5_no E y y1 y2 y3 y4 y5 y6 y7 y8 y9 0 col car tur pre mb off wov km ko 1 ) rfl gX5_set_X5_no 0 rfl rfl kV_X5_no ⟨by decide, by decide⟩ [0] rfl (by decide +kernel) rfl rfl (Nat.le_of_ble_eq_true rfl) ⟨by decide, by decide⟩ ?_
    exact g_iret F hQ dX5_set_24 (rfl) (rfl)

set_option maxHeartbeats 4000000 in
set_option maxRecDepth 100000 in
theorem c_X5_set_2 (E : gE) (y : Nat) (y1 : Nat) (y2 : Nat) (y3 : Nat) (y4 : Nat) (y5 : Nat) (y6 : Nat) (y7 : Nat) (y8 : Nat) (y9 : Nat) (thr : Int32) (col : Int32) (car : Int32) (tur : Int32) (pre : Int32) (mb : Int32) (off : Int32) (wov : Int32) (km : Int32) (ko : Int32) (a : Int32) (b : Int32) (v : Int32) (h0 : ¬ mIn a 0 11 = 0) (h1 : ¬ mIn b 0 7 = 0) (h2 : mIn v 0 255 = 0) : Ct E yX5_set wsX5_set ({ frames := 2, cells := 0, slots := 0, locals := 42 }) [.ref y, .int a, .int b, .int v] [(y, .inr (5, [.int thr, .ref y1, .int col, .int car, .int tur, .int pre, .ref y2, .int mb, .ref y3, .ref y4, .ref y5, .int off, .ref y6, .ref y7, .int wov, .int km, .int ko, .ref y8, .ref y9]))] (some (.int 0)) [(y, .inr (5, [.int 2, .ref y1, .int col, .int car, .int tur, .int pre, .ref y2, .int mb, .ref y3, .ref y4, .ref y5, .int off, .ref y6, .ref y7, .int wov, .int km, .int ko, .ref y8, .ref y9]))] := by
  refine Ct.of (cc := cX5_set) (maxL := 5) (ret := (some .int)) (own := RX5) (L := [(0, .ref y), (1, .int a), (2, .int b), (3, .int v)]) (by decide) rfl rfl rfl (Nat.le_of_ble_eq_true rfl) rfl ?_
  intro X F hQ
  have i5 : ∀ w ∈ u_ws RX5 TX5 19, w ∈ wsX5_set := gsub [20, 21, 22, 23, 24, 25, 26, 27, 28, 29, 30, 31, 32, 33, 34, 35, 36, 37, 38] rfl
  refine g_aload_n F dX5_set_0 rfl 0 rfl ?_
  refine g_iconst (v := 0) F dX5_set_1 (by decide) ?_
  refine g_put (ws' := [(y, .inr (5, [.int 0, .ref y1, .int col, .int car, .int tur, .int pre, .ref y2, .int mb, .ref y3, .ref y4, .ref y5, .int off, .ref y6, .ref y7, .int wov, .int km, .int ko, .ref y8, .ref y9]))]) F dX5_set_2 0 rfl rfl i5 tyX5 tyX5_ok nmX5 0 (by decide) rfl (rfl) (rfl) (Nat.le_of_ble_eq_true rfl) (List.mem_of_getElem? (i := 1) rfl) rfl ?_
  refine g_iload_n F dX5_set_5 rfl 1 rfl ?_
  refine g_callS (ws' := [(y, .inr (5, [.int 0, .ref y1, .int col, .int car, .int tur, .int pre, .ref y2, .int mb, .ref y3, .ref y4, .ref y5, .int off, .ref y6, .ref y7, .int wov, .int km, .int ko, .ref y8, .ref y9]))]) F dX5_set_6 (c_X5_isX E a ) rfl gX5_set_X5_isX kS_X5_isX ⟨by decide, by decide⟩ [] rfl (by decide +kernel) rfl rfl (Nat.le_of_ble_eq_true rfl) ⟨by decide, by decide⟩ ?_
  refine g_if_eq_f (tgt := 19) F dX5_set_9 (by decide) (h0) ?_
  refine g_iload_n F dX5_set_12 rfl 2 rfl ?_
  refine g_callS (ws' := [(y, .inr (5, [.int 0, .ref y1, .int col, .int car, .int tur, .int pre, .ref y2, .int mb, .ref y3, .ref y4, .ref y5, .int off, .ref y6, .ref y7, .int wov, .int km, .int ko, .ref y8, .ref y9]))]) F dX5_set_13 (c_X5_isY E b ) rfl gX5_set_X5_isY kS_X5_isY ⟨by decide, by decide⟩ [] rfl (by decide +kernel) rfl rfl (Nat.le_of_ble_eq_true rfl) ⟨by decide, by decide⟩ ?_
  refine g_if_ne_t (tgt := 25) F dX5_set_16 (by decide) (h1) ?_
  refine g_iload_n F dX5_set_25 rfl 3 rfl ?_
  refine g_iconst (v := 0) F dX5_set_26 (by decide) ?_
  refine g_sipush (v := 255) F dX5_set_27 (by decide) ?_
  refine g_callS (ws' := [(y, .inr (5, [.int 0, .ref y1, .int col, .int car, .int tur, .int pre, .ref y2, .int mb, .ref y3, .ref y4, .ref y5, .int off, .ref y6, .ref y7, .int wov, .int km, .int ko, .ref y8, .ref y9]))]) F dX5_set_30 (c_X5_isIn E v 0 255 ) rfl gX5_set_X5_isIn kS_X5_isIn ⟨by decide, by decide⟩ [] rfl (by decide +kernel) rfl rfl (Nat.le_of_ble_eq_true rfl) ⟨by decide, by decide⟩ ?_
  refine g_if_ne_f (tgt := 42) F dX5_set_33 (by decide) (fun q => q h2) ?_
  refine g_aload_n F dX5_set_36 rfl 0 rfl ?_
  refine g_iconst (v := 2) F dX5_set_37 (by decide) ?_
  refine g_callV (ws' := [(y, .inr (5, [.int 2, .ref y1, .int col, .int car, .int tur, .int pre, .ref y2, .int mb, .ref y3, .ref y4, .ref y5, .int off, .ref y6, .ref y7, .int wov, .int km, .int ko, .ref y8, .ref y9]))]) F dX5_set_38 (c_X5_no E y y1 y2 y3 y4 y5 y6 y7 y8 y9 0 col car tur pre mb off wov km ko 2 ) rfl gX5_set_X5_no 0 rfl rfl kV_X5_no ⟨by decide, by decide⟩ [0] rfl (by decide +kernel) rfl rfl (Nat.le_of_ble_eq_true rfl) ⟨by decide, by decide⟩ ?_
  exact g_iret F hQ dX5_set_41 (rfl) (rfl)

set_option maxHeartbeats 4000000 in
set_option maxRecDepth 100000 in
theorem c_X5_row (E : gE) (y : Nat) (y1 : Nat) (y2 : Nat) (y3 : Nat) (y4 : Nat) (y5 : Nat) (y6 : Nat) (y7 : Nat) (y8 : Nat) (y9 : Nat) (f : AF) (thr : Int32) (col : Int32) (car : Int32) (tur : Int32) (pre : Int32) (mb : Int32) (off : Int32) (wov : Int32) (km : Int32) (ko : Int32) (r : Nat) (a : Int32) (b : Int32) (hr : r < 8) (h1 : ¬ mIn a 0 255 = 0) (h2 : ¬ mIn b (-60) 60 = 0) : Ct E yX5_row wsX5_row ({ frames := 2, cells := 0, slots := 0, locals := 42 }) [.ref y, .int (nI r), .int a, .int b] [(y, .inr (5, [.int thr, .ref y1, .int col, .int car, .int tur, .int pre, .ref y2, .int mb, .ref y3, .ref y4, .ref y5, .int off, .ref y6, .ref y7, .int wov, .int km, .int ko, .ref y8, .ref y9])), (y1, .inl (E.2.2, 96, .inl f))] (some (.int (mRowF f r a b 12 (12 * r + 11)))) [(y, .inr (5, [.int 0, .ref y1, .int col, .int car, .int tur, .int pre, .ref y2, .int mb, .ref y3, .ref y4, .ref y5, .int off, .ref y6, .ref y7, .int wov, .int km, .int ko, .ref y8, .ref y9])), (y1, .inl (E.2.2, 96, .inl (mRowF f r a b 12)))] := by
  refine Ct.of (cc := cX5_row) (maxL := 5) (ret := (some .int)) (own := RX5) (L := [(0, .ref y), (1, .int (nI r)), (2, .int a), (3, .int b)]) (by decide) rfl rfl rfl (Nat.le_of_ble_eq_true rfl) rfl ?_
  intro X F hQ
  have i5 : ∀ w ∈ u_ws RX5 TX5 19, w ∈ wsX5_row := gsub [24, 25, 26, 27, 28, 29, 30, 31, 32, 33, 34, 35, 36, 37, 38, 39, 40, 41, 42] rfl
  refine g_aload_n F dX5_row_0 rfl 0 rfl ?_
  refine g_iconst (v := 0) F dX5_row_1 (by decide) ?_
  refine g_put (ws' := [(y, .inr (5, [.int 0, .ref y1, .int col, .int car, .int tur, .int pre, .ref y2, .int mb, .ref y3, .ref y4, .ref y5, .int off, .ref y6, .ref y7, .int wov, .int km, .int ko, .ref y8, .ref y9])), (y1, .inl (E.2.2, 96, .inl f))]) F dX5_row_2 0 rfl rfl i5 tyX5 tyX5_ok nmX5 0 (by decide) rfl (rfl) (rfl) (Nat.le_of_ble_eq_true rfl) (List.mem_of_getElem? (i := 1) rfl) rfl ?_
  refine g_iload_n F dX5_row_5 rfl 1 rfl ?_
  refine g_callS (ws' := [(y, .inr (5, [.int 0, .ref y1, .int col, .int car, .int tur, .int pre, .ref y2, .int mb, .ref y3, .ref y4, .ref y5, .int off, .ref y6, .ref y7, .int wov, .int km, .int ko, .ref y8, .ref y9])), (y1, .inl (E.2.2, 96, .inl f))]) F dX5_row_6 (c_X5_isY E (nI r) ) rfl gX5_row_X5_isY kS_X5_isY ⟨by decide, by decide⟩ [] rfl (by decide +kernel) rfl rfl (Nat.le_of_ble_eq_true rfl) ⟨by decide, by decide⟩ ?_
  refine g_topr (y := 1) (mIn_nI (n := 7) (by omega) (by omega)) ?_
  refine g_if_ne_t (tgt := 18) F dX5_row_9 (by decide) (by decide) ?_
  refine g_iload_n F dX5_row_18 rfl 2 rfl ?_
  refine g_iconst (v := 0) F dX5_row_19 (by decide) ?_
  refine g_sipush (v := 255) F dX5_row_20 (by decide) ?_
  refine g_callS (ws' := [(y, .inr (5, [.int 0, .ref y1, .int col, .int car, .int tur, .int pre, .ref y2, .int mb, .ref y3, .ref y4, .ref y5, .int off, .ref y6, .ref y7, .int wov, .int km, .int ko, .ref y8, .ref y9])), (y1, .inl (E.2.2, 96, .inl f))]) F dX5_row_23 (c_X5_isIn E a 0 255 ) rfl gX5_row_X5_isIn kS_X5_isIn ⟨by decide, by decide⟩ [] rfl (by decide +kernel) rfl rfl (Nat.le_of_ble_eq_true rfl) ⟨by decide, by decide⟩ ?_
  refine g_if_eq_f (tgt := 40) F dX5_row_26 (by decide) (h1) ?_
  refine g_iload_n F dX5_row_29 rfl 3 rfl ?_
  refine g_bipush (v := (-60)) F dX5_row_30 (by decide) ?_
  refine g_bipush (v := 60) F dX5_row_32 (by decide) ?_
  refine g_callS (ws' := [(y, .inr (5, [.int 0, .ref y1, .int col, .int car, .int tur, .int pre, .ref y2, .int mb, .ref y3, .ref y4, .ref y5, .int off, .ref y6, .ref y7, .int wov, .int km, .int ko, .ref y8, .ref y9])), (y1, .inl (E.2.2, 96, .inl f))]) F dX5_row_34 (c_X5_isIn E b (-60) 60 ) rfl gX5_row_X5_isIn kS_X5_isIn ⟨by decide, by decide⟩ [] rfl (by decide +kernel) rfl rfl (Nat.le_of_ble_eq_true rfl) ⟨by decide, by decide⟩ ?_
  refine g_if_ne_t (tgt := 46) F dX5_row_37 (by decide) (h2) ?_
  refine g_iconst (v := 0) F dX5_row_46 (by decide) ?_
  refine g_istore (L' := [(0, .ref y), (1, .int (nI r)), (2, .int a), (3, .int b), (4, .int 0)]) F dX5_row_47 (by decide) [1, 2, 3, 4, 0] rfl ?_
  have lp49 : ∀ (n49 i49 : Nat), i49 + n49 = 12 → G E X 0 0 49 [(0, .ref y), (1, .int (nI r)), (2, .int a), (3, .int b), (4, .int (nI i49))] [] [(y, .inr (5, [.int 0, .ref y1, .int col, .int car, .int tur, .int pre, .ref y2, .int mb, .ref y3, .ref y4, .ref y5, .int off, .ref y6, .ref y7, .int wov, .int km, .int ko, .ref y8, .ref y9])), (y1, .inl (E.2.2, 96, .inl (mRowF f r a b i49)))] := by
    intro n49
    induction n49 with
    | zero =>
      intro i49 hi49
      have he49 : i49 = 12 := by omega
      rw [he49]
      refine g_iload F dX5_row_49 4 rfl ?_
      refine g_bipush (v := 12) F dX5_row_51 (by decide) ?_
      refine g_icmp_ge_t (tgt := 89) F dX5_row_53 (by decide) (by decide) ?_
      refine g_aload_n F dX5_row_89 rfl 0 rfl ?_
      refine g_get F dX5_row_90 0 rfl rfl i5 1 (by decide) rfl (List.mem_of_getElem? (i := 2) rfl) ?_
      refine g_bipush (v := 11) F dX5_row_93 (by decide) ?_
      refine g_iload_n F dX5_row_95 rfl 1 rfl ?_
      refine g_callS (ws' := [(y, .inr (5, [.int 0, .ref y1, .int col, .int car, .int tur, .int pre, .ref y2, .int mb, .ref y3, .ref y4, .ref y5, .int off, .ref y6, .ref y7, .int wov, .int km, .int ko, .ref y8, .ref y9])), (y1, .inl (E.2.2, 96, .inl (mRowF f r a b 12)))]) F dX5_row_96 (c_X5_at E 11 (nI r) ) rfl gX5_row_X5_at kS_X5_at ⟨by decide, by decide⟩ [] rfl (by decide +kernel) rfl rfl (Nat.le_of_ble_eq_true rfl) ⟨by decide, by decide⟩ ?_
      refine g_topr (y := nI (12 * r + 11)) (by rw [show (12 : Int32) = nI 12 from rfl, pk_mul]; exact nI_add _ 11) ?_
      refine g_ialdN (k := 12 * r + 11) F dX5_row_99 1 rfl (by omega) (by first | decide | omega) ?_
      exact g_iret F hQ dX5_row_100 (rfl) (rfl)
    | succ n49 ih49 =>
      intro i49 hi49
      have hl49 : i49 < 12 := by omega
      refine g_iload F dX5_row_49 4 rfl ?_
      refine g_bipush (v := 12) F dX5_row_51 (by decide) ?_
      refine g_icmp_ge_f (tgt := 89) F dX5_row_53 (by decide) (nle_nI (n := 12) hl49 (by omega)) ?_
      refine g_aload_n F dX5_row_56 rfl 0 rfl ?_
      refine g_get F dX5_row_57 0 rfl rfl i5 1 (by decide) rfl (List.mem_of_getElem? (i := 2) rfl) ?_
      refine g_iload F dX5_row_60 4 rfl ?_
      refine g_iload_n F dX5_row_62 rfl 1 rfl ?_
      refine g_callS (ws' := [(y, .inr (5, [.int 0, .ref y1, .int col, .int car, .int tur, .int pre, .ref y2, .int mb, .ref y3, .ref y4, .ref y5, .int off, .ref y6, .ref y7, .int wov, .int km, .int ko, .ref y8, .ref y9])), (y1, .inl (E.2.2, 96, .inl (mRowF f r a b i49)))]) F dX5_row_63 (c_X5_at E (nI i49) (nI r) ) rfl gX5_row_X5_at kS_X5_at ⟨by decide, by decide⟩ [] rfl (by decide +kernel) rfl rfl (Nat.le_of_ble_eq_true rfl) ⟨by decide, by decide⟩ ?_
      refine g_topr (y := nI (12 * r + i49)) (by rw [show (12 : Int32) = nI 12 from rfl, pk_mul, nI_add]) ?_
      refine g_iconst (v := 0) F dX5_row_66 (by decide) ?_
      refine g_sipush (v := 255) F dX5_row_67 (by decide) ?_
      refine g_iload_n F dX5_row_70 rfl 2 rfl ?_
      refine g_iload_n F dX5_row_71 rfl 3 rfl ?_
      refine g_iload F dX5_row_72 4 rfl ?_
      refine g_imul F dX5_row_74 ?_
      refine g_iadd F dX5_row_75 ?_
      refine g_min F dX5_row_76 (List.mem_of_getElem? (i := 3) rfl) (List.mem_of_getElem? (i := 4) rfl) (List.mem_of_getElem? (i := 5) rfl) (List.mem_of_getElem? (i := 6) rfl) (by decide) (Nat.le_of_ble_eq_true rfl) (by decide) (by decide) ?_
      refine g_max F dX5_row_79 (List.mem_of_getElem? (i := 7) rfl) (List.mem_of_getElem? (i := 8) rfl) (List.mem_of_getElem? (i := 5) rfl) (List.mem_of_getElem? (i := 9) rfl) (by decide) (Nat.le_of_ble_eq_true rfl) (by decide) (by decide) ?_
      refine g_iastN (k := 12 * r + i49) (ws' := [(y, .inr (5, [.int 0, .ref y1, .int col, .int car, .int tur, .int pre, .ref y2, .int mb, .ref y3, .ref y4, .ref y5, .int off, .ref y6, .ref y7, .int wov, .int km, .int ko, .ref y8, .ref y9])), (y1, .inl (E.2.2, 96, .inl (upd (mRowF f r a b i49) (12 * r + i49) (sMax 0 (sMin 255 (a + (b * (nI i49))))))))]) F dX5_row_82 1 rfl (by omega) (by first | decide | omega) rfl ?_
      refine g_iinc (L' := [(0, .ref y), (1, .int (nI r)), (2, .int a), (3, .int b), (4, .int (nI (i49 + 1)))]) (v := nI (i49 + 1)) F dX5_row_83 4 rfl (nI_1 _) (by decide) [1, 2, 3, 4, 0] rfl ?_
      refine g_goto (tgt := 49) F dX5_row_86 (by decide) ?_
      exact ih49 (i49 + 1) (by omega)
  exact lp49 12 0 (by omega)

set_option maxHeartbeats 4000000 in
set_option maxRecDepth 100000 in
theorem c_X5_row_1 (E : gE) (y : Nat) (y1 : Nat) (y2 : Nat) (y3 : Nat) (y4 : Nat) (y5 : Nat) (y6 : Nat) (y7 : Nat) (y8 : Nat) (y9 : Nat) (thr : Int32) (col : Int32) (car : Int32) (tur : Int32) (pre : Int32) (mb : Int32) (off : Int32) (wov : Int32) (km : Int32) (ko : Int32) (r : Int32) (a : Int32) (b : Int32) (h0 : mIn r 0 7 = 0) : Ct E yX5_row wsX5_row ({ frames := 2, cells := 0, slots := 0, locals := 42 }) [.ref y, .int r, .int a, .int b] [(y, .inr (5, [.int thr, .ref y1, .int col, .int car, .int tur, .int pre, .ref y2, .int mb, .ref y3, .ref y4, .ref y5, .int off, .ref y6, .ref y7, .int wov, .int km, .int ko, .ref y8, .ref y9]))] (some (.int 0)) [(y, .inr (5, [.int 1, .ref y1, .int col, .int car, .int tur, .int pre, .ref y2, .int mb, .ref y3, .ref y4, .ref y5, .int off, .ref y6, .ref y7, .int wov, .int km, .int ko, .ref y8, .ref y9]))] := by
  refine Ct.of (cc := cX5_row) (maxL := 5) (ret := (some .int)) (own := RX5) (L := [(0, .ref y), (1, .int r), (2, .int a), (3, .int b)]) (by decide) rfl rfl rfl (Nat.le_of_ble_eq_true rfl) rfl ?_
  intro X F hQ
  have i5 : ∀ w ∈ u_ws RX5 TX5 19, w ∈ wsX5_row := gsub [24, 25, 26, 27, 28, 29, 30, 31, 32, 33, 34, 35, 36, 37, 38, 39, 40, 41, 42] rfl
  refine g_aload_n F dX5_row_0 rfl 0 rfl ?_
  refine g_iconst (v := 0) F dX5_row_1 (by decide) ?_
  refine g_put (ws' := [(y, .inr (5, [.int 0, .ref y1, .int col, .int car, .int tur, .int pre, .ref y2, .int mb, .ref y3, .ref y4, .ref y5, .int off, .ref y6, .ref y7, .int wov, .int km, .int ko, .ref y8, .ref y9]))]) F dX5_row_2 0 rfl rfl i5 tyX5 tyX5_ok nmX5 0 (by decide) rfl (rfl) (rfl) (Nat.le_of_ble_eq_true rfl) (List.mem_of_getElem? (i := 1) rfl) rfl ?_
  refine g_iload_n F dX5_row_5 rfl 1 rfl ?_
  refine g_callS (ws' := [(y, .inr (5, [.int 0, .ref y1, .int col, .int car, .int tur, .int pre, .ref y2, .int mb, .ref y3, .ref y4, .ref y5, .int off, .ref y6, .ref y7, .int wov, .int km, .int ko, .ref y8, .ref y9]))]) F dX5_row_6 (c_X5_isY E r ) rfl gX5_row_X5_isY kS_X5_isY ⟨by decide, by decide⟩ [] rfl (by decide +kernel) rfl rfl (Nat.le_of_ble_eq_true rfl) ⟨by decide, by decide⟩ ?_
  refine g_if_ne_f (tgt := 18) F dX5_row_9 (by decide) (fun q => q h0) ?_
  refine g_aload_n F dX5_row_12 rfl 0 rfl ?_
  refine g_iconst (v := 1) F dX5_row_13 (by decide) ?_
  refine g_callV (ws' := [(y, .inr (5, [.int 1, .ref y1, .int col, .int car, .int tur, .int pre, .ref y2, .int mb, .ref y3, .ref y4, .ref y5, .int off, .ref y6, .ref y7, .int wov, .int km, .int ko, .ref y8, .ref y9]))]) F dX5_row_14 (c_X5_no E y y1 y2 y3 y4 y5 y6 y7 y8 y9 0 col car tur pre mb off wov km ko 1 ) rfl gX5_row_X5_no 0 rfl rfl kV_X5_no ⟨by decide, by decide⟩ [0] rfl (by decide +kernel) rfl rfl (Nat.le_of_ble_eq_true rfl) ⟨by decide, by decide⟩ ?_
  exact g_iret F hQ dX5_row_17 (rfl) (rfl)

set_option maxHeartbeats 4000000 in
set_option maxRecDepth 100000 in
theorem c_X5_row_2 (E : gE) (y : Nat) (y1 : Nat) (y2 : Nat) (y3 : Nat) (y4 : Nat) (y5 : Nat) (y6 : Nat) (y7 : Nat) (y8 : Nat) (y9 : Nat) (thr : Int32) (col : Int32) (car : Int32) (tur : Int32) (pre : Int32) (mb : Int32) (off : Int32) (wov : Int32) (km : Int32) (ko : Int32) (r : Int32) (a : Int32) (b : Int32) (h0 : ¬ mIn r 0 7 = 0) (h : mIn a 0 255 = 0 ∨ mIn b (-60) 60 = 0) : Ct E yX5_row wsX5_row ({ frames := 2, cells := 0, slots := 0, locals := 42 }) [.ref y, .int r, .int a, .int b] [(y, .inr (5, [.int thr, .ref y1, .int col, .int car, .int tur, .int pre, .ref y2, .int mb, .ref y3, .ref y4, .ref y5, .int off, .ref y6, .ref y7, .int wov, .int km, .int ko, .ref y8, .ref y9]))] (some (.int 0)) [(y, .inr (5, [.int 2, .ref y1, .int col, .int car, .int tur, .int pre, .ref y2, .int mb, .ref y3, .ref y4, .ref y5, .int off, .ref y6, .ref y7, .int wov, .int km, .int ko, .ref y8, .ref y9]))] := by
  refine Ct.of (cc := cX5_row) (maxL := 5) (ret := (some .int)) (own := RX5) (L := [(0, .ref y), (1, .int r), (2, .int a), (3, .int b)]) (by decide) rfl rfl rfl (Nat.le_of_ble_eq_true rfl) rfl ?_
  intro X F hQ
  have i5 : ∀ w ∈ u_ws RX5 TX5 19, w ∈ wsX5_row := gsub [24, 25, 26, 27, 28, 29, 30, 31, 32, 33, 34, 35, 36, 37, 38, 39, 40, 41, 42] rfl
  refine g_aload_n F dX5_row_0 rfl 0 rfl ?_
  refine g_iconst (v := 0) F dX5_row_1 (by decide) ?_
  refine g_put (ws' := [(y, .inr (5, [.int 0, .ref y1, .int col, .int car, .int tur, .int pre, .ref y2, .int mb, .ref y3, .ref y4, .ref y5, .int off, .ref y6, .ref y7, .int wov, .int km, .int ko, .ref y8, .ref y9]))]) F dX5_row_2 0 rfl rfl i5 tyX5 tyX5_ok nmX5 0 (by decide) rfl (rfl) (rfl) (Nat.le_of_ble_eq_true rfl) (List.mem_of_getElem? (i := 1) rfl) rfl ?_
  refine g_iload_n F dX5_row_5 rfl 1 rfl ?_
  refine g_callS (ws' := [(y, .inr (5, [.int 0, .ref y1, .int col, .int car, .int tur, .int pre, .ref y2, .int mb, .ref y3, .ref y4, .ref y5, .int off, .ref y6, .ref y7, .int wov, .int km, .int ko, .ref y8, .ref y9]))]) F dX5_row_6 (c_X5_isY E r ) rfl gX5_row_X5_isY kS_X5_isY ⟨by decide, by decide⟩ [] rfl (by decide +kernel) rfl rfl (Nat.le_of_ble_eq_true rfl) ⟨by decide, by decide⟩ ?_
  refine g_if_ne_t (tgt := 18) F dX5_row_9 (by decide) (h0) ?_
  refine g_iload_n F dX5_row_18 rfl 2 rfl ?_
  refine g_iconst (v := 0) F dX5_row_19 (by decide) ?_
  refine g_sipush (v := 255) F dX5_row_20 (by decide) ?_
  refine g_callS (ws' := [(y, .inr (5, [.int 0, .ref y1, .int col, .int car, .int tur, .int pre, .ref y2, .int mb, .ref y3, .ref y4, .ref y5, .int off, .ref y6, .ref y7, .int wov, .int km, .int ko, .ref y8, .ref y9]))]) F dX5_row_23 (c_X5_isIn E a 0 255 ) rfl gX5_row_X5_isIn kS_X5_isIn ⟨by decide, by decide⟩ [] rfl (by decide +kernel) rfl rfl (Nat.le_of_ble_eq_true rfl) ⟨by decide, by decide⟩ ?_
  refine g_if_eq (tgt := 40) F dX5_row_26 (by decide) (fun k26 => ?_) (fun k26 => ?_)
  · skip
    refine g_aload_n F dX5_row_40 rfl 0 rfl ?_
    refine g_iconst (v := 2) F dX5_row_41 (by decide) ?_
    refine g_callV (ws' := [(y, .inr (5, [.int 2, .ref y1, .int col, .int car, .int tur, .int pre, .ref y2, .int mb, .ref y3, .ref y4, .ref y5, .int off, .ref y6, .ref y7, .int wov, .int km, .int ko, .ref y8, .ref y9]))]) F dX5_row_42 (c_X5_no E y y1 y2 y3 y4 y5 y6 y7 y8 y9 0 col car tur pre mb off wov km ko 2 ) rfl gX5_row_X5_no 0 rfl rfl kV_X5_no ⟨by decide, by decide⟩ [0] rfl (by decide +kernel) rfl rfl (Nat.le_of_ble_eq_true rfl) ⟨by decide, by decide⟩ ?_
    exact g_iret F hQ dX5_row_45 (rfl) (rfl)
  · skip
    refine g_iload_n F dX5_row_29 rfl 3 rfl ?_
    refine g_bipush (v := (-60)) F dX5_row_30 (by decide) ?_
    refine g_bipush (v := 60) F dX5_row_32 (by decide) ?_
    refine g_callS (ws' := [(y, .inr (5, [.int 0, .ref y1, .int col, .int car, .int tur, .int pre, .ref y2, .int mb, .ref y3, .ref y4, .ref y5, .int off, .ref y6, .ref y7, .int wov, .int km, .int ko, .ref y8, .ref y9]))]) F dX5_row_34 (c_X5_isIn E b (-60) 60 ) rfl gX5_row_X5_isIn kS_X5_isIn ⟨by decide, by decide⟩ [] rfl (by decide +kernel) rfl rfl (Nat.le_of_ble_eq_true rfl) ⟨by decide, by decide⟩ ?_
    refine g_if_ne_f (tgt := 46) F dX5_row_37 (by decide) (fun q => q (h.resolve_left k26)) ?_
    refine g_aload_n F dX5_row_40 rfl 0 rfl ?_
    refine g_iconst (v := 2) F dX5_row_41 (by decide) ?_
    refine g_callV (ws' := [(y, .inr (5, [.int 2, .ref y1, .int col, .int car, .int tur, .int pre, .ref y2, .int mb, .ref y3, .ref y4, .ref y5, .int off, .ref y6, .ref y7, .int wov, .int km, .int ko, .ref y8, .ref y9]))]) F dX5_row_42 (c_X5_no E y y1 y2 y3 y4 y5 y6 y7 y8 y9 0 col car tur pre mb off wov km ko 2 ) rfl gX5_row_X5_no 0 rfl rfl kV_X5_no ⟨by decide, by decide⟩ [0] rfl (by decide +kernel) rfl rfl (Nat.le_of_ble_eq_true rfl) ⟨by decide, by decide⟩ ?_
    exact g_iret F hQ dX5_row_45 (rfl) (rfl)

set_option maxHeartbeats 4000000 in
set_option maxRecDepth 100000 in
theorem c_X5_like (E : gE) (y : Nat) (y1 : Nat) (y2 : Nat) (y3 : Nat) (y4 : Nat) (y5 : Nat) (y6 : Nat) (y7 : Nat) (y8 : Nat) (y9 : Nat) (f : AF) (thr : Int32) (col : Int32) (car : Int32) (tur : Int32) (pre : Int32) (mb : Int32) (off : Int32) (wov : Int32) (km : Int32) (ko : Int32) (r : Nat) (o : Nat) (hr : r < 8) (ho : o < 8) : Ct E yX5_like wsX5_like ({ frames := 2, cells := 0, slots := 0, locals := 42 }) [.ref y, .int (nI r), .int (nI o)] [(y, .inr (5, [.int thr, .ref y1, .int col, .int car, .int tur, .int pre, .ref y2, .int mb, .ref y3, .ref y4, .ref y5, .int off, .ref y6, .ref y7, .int wov, .int km, .int ko, .ref y8, .ref y9])), (y1, .inl (E.2.2, 96, .inl f))] (some (.int ((mLk f r o 12).2))) [(y, .inr (5, [.int 0, .ref y1, .int col, .int car, .int tur, .int pre, .ref y2, .int mb, .ref y3, .ref y4, .ref y5, .int off, .ref y6, .ref y7, .int wov, .int km, .int ko, .ref y8, .ref y9])), (y1, .inl (E.2.2, 96, .inl ((mLk f r o 12).1)))] := by
  refine Ct.of (cc := cX5_like) (maxL := 5) (ret := (some .int)) (own := RX5) (L := [(0, .ref y), (1, .int (nI r)), (2, .int (nI o))]) (by decide) rfl rfl rfl (Nat.le_of_ble_eq_true rfl) rfl ?_
  intro X F hQ
  have i5 : ∀ w ∈ u_ws RX5 TX5 19, w ∈ wsX5_like := gsub [17, 18, 19, 20, 21, 22, 23, 24, 25, 26, 27, 28, 29, 30, 31, 32, 33, 34, 35] rfl
  refine g_aload_n F dX5_like_0 rfl 0 rfl ?_
  refine g_iconst (v := 0) F dX5_like_1 (by decide) ?_
  refine g_put (ws' := [(y, .inr (5, [.int 0, .ref y1, .int col, .int car, .int tur, .int pre, .ref y2, .int mb, .ref y3, .ref y4, .ref y5, .int off, .ref y6, .ref y7, .int wov, .int km, .int ko, .ref y8, .ref y9])), (y1, .inl (E.2.2, 96, .inl f))]) F dX5_like_2 0 rfl rfl i5 tyX5 tyX5_ok nmX5 0 (by decide) rfl (rfl) (rfl) (Nat.le_of_ble_eq_true rfl) (List.mem_of_getElem? (i := 1) rfl) rfl ?_
  refine g_iload_n F dX5_like_5 rfl 1 rfl ?_
  refine g_callS (ws' := [(y, .inr (5, [.int 0, .ref y1, .int col, .int car, .int tur, .int pre, .ref y2, .int mb, .ref y3, .ref y4, .ref y5, .int off, .ref y6, .ref y7, .int wov, .int km, .int ko, .ref y8, .ref y9])), (y1, .inl (E.2.2, 96, .inl f))]) F dX5_like_6 (c_X5_isY E (nI r) ) rfl gX5_like_X5_isY kS_X5_isY ⟨by decide, by decide⟩ [] rfl (by decide +kernel) rfl rfl (Nat.le_of_ble_eq_true rfl) ⟨by decide, by decide⟩ ?_
  refine g_topr (y := 1) (mIn_nI (n := 7) (by omega) (by omega)) ?_
  refine g_if_eq_f (tgt := 19) F dX5_like_9 (by decide) (by decide) ?_
  refine g_iload_n F dX5_like_12 rfl 2 rfl ?_
  refine g_callS (ws' := [(y, .inr (5, [.int 0, .ref y1, .int col, .int car, .int tur, .int pre, .ref y2, .int mb, .ref y3, .ref y4, .ref y5, .int off, .ref y6, .ref y7, .int wov, .int km, .int ko, .ref y8, .ref y9])), (y1, .inl (E.2.2, 96, .inl f))]) F dX5_like_13 (c_X5_isY E (nI o) ) rfl gX5_like_X5_isY kS_X5_isY ⟨by decide, by decide⟩ [] rfl (by decide +kernel) rfl rfl (Nat.le_of_ble_eq_true rfl) ⟨by decide, by decide⟩ ?_
  refine g_topr (y := 1) (mIn_nI (n := 7) (by omega) (by omega)) ?_
  refine g_if_ne_t (tgt := 25) F dX5_like_16 (by decide) (by decide) ?_
  refine g_iconst (v := 0) F dX5_like_25 (by decide) ?_
  refine g_istore_n (L' := [(0, .ref y), (1, .int (nI r)), (2, .int (nI o)), (3, .int 0)]) F dX5_like_26 rfl (by decide) [1, 2, 3, 0] rfl ?_
  refine g_iconst (v := 0) F dX5_like_27 (by decide) ?_
  refine g_istore (L' := [(0, .ref y), (1, .int (nI r)), (2, .int (nI o)), (3, .int 0), (4, .int 0)]) F dX5_like_28 (by decide) [1, 2, 3, 4, 0] rfl ?_
  have lp30 : ∀ (n30 i30 : Nat), i30 + n30 = 12 → G E X 0 0 30 [(0, .ref y), (1, .int (nI r)), (2, .int (nI o)), (3, .int ((mLk f r o i30).2)), (4, .int (nI i30))] [] [(y, .inr (5, [.int 0, .ref y1, .int col, .int car, .int tur, .int pre, .ref y2, .int mb, .ref y3, .ref y4, .ref y5, .int off, .ref y6, .ref y7, .int wov, .int km, .int ko, .ref y8, .ref y9])), (y1, .inl (E.2.2, 96, .inl ((mLk f r o i30).1)))] := by
    intro n30
    induction n30 with
    | zero =>
      intro i30 hi30
      have he30 : i30 = 12 := by omega
      rw [he30]
      refine g_iload F dX5_like_30 4 rfl ?_
      refine g_bipush (v := 12) F dX5_like_32 (by decide) ?_
      refine g_icmp_ge_t (tgt := 98) F dX5_like_34 (by decide) (by decide) ?_
      refine g_iload_n F dX5_like_98 rfl 3 rfl ?_
      exact g_iret F hQ dX5_like_99 (rfl) (rfl)
    | succ n30 ih30 =>
      intro i30 hi30
      have hl30 : i30 < 12 := by omega
      refine g_iload F dX5_like_30 4 rfl ?_
      refine g_bipush (v := 12) F dX5_like_32 (by decide) ?_
      refine g_icmp_ge_f (tgt := 98) F dX5_like_34 (by decide) (nle_nI (n := 12) hl30 (by omega)) ?_
      refine g_iload_n F dX5_like_37 rfl 3 rfl ?_
      refine g_aload_n F dX5_like_38 rfl 0 rfl ?_
      refine g_get F dX5_like_39 0 rfl rfl i5 1 (by decide) rfl (List.mem_of_getElem? (i := 2) rfl) ?_
      refine g_iload F dX5_like_42 4 rfl ?_
      refine g_iload_n F dX5_like_44 rfl 1 rfl ?_
      refine g_callS (ws' := [(y, .inr (5, [.int 0, .ref y1, .int col, .int car, .int tur, .int pre, .ref y2, .int mb, .ref y3, .ref y4, .ref y5, .int off, .ref y6, .ref y7, .int wov, .int km, .int ko, .ref y8, .ref y9])), (y1, .inl (E.2.2, 96, .inl ((mLk f r o i30).1)))]) F dX5_like_45 (c_X5_at E (nI i30) (nI r) ) rfl gX5_like_X5_at kS_X5_at ⟨by decide, by decide⟩ [] rfl (by decide +kernel) rfl rfl (Nat.le_of_ble_eq_true rfl) ⟨by decide, by decide⟩ ?_
      refine g_topr (y := nI (12 * r + i30)) (by rw [show (12 : Int32) = nI 12 from rfl, pk_mul, nI_add]) ?_
      refine g_ialdN (k := 12 * r + i30) F dX5_like_48 1 rfl (by omega) (by first | decide | omega) ?_
      refine g_aload_n F dX5_like_49 rfl 0 rfl ?_
      refine g_get F dX5_like_50 0 rfl rfl i5 1 (by decide) rfl (List.mem_of_getElem? (i := 2) rfl) ?_
      refine g_iload F dX5_like_53 4 rfl ?_
      refine g_iload_n F dX5_like_55 rfl 2 rfl ?_
      refine g_callS (ws' := [(y, .inr (5, [.int 0, .ref y1, .int col, .int car, .int tur, .int pre, .ref y2, .int mb, .ref y3, .ref y4, .ref y5, .int off, .ref y6, .ref y7, .int wov, .int km, .int ko, .ref y8, .ref y9])), (y1, .inl (E.2.2, 96, .inl ((mLk f r o i30).1)))]) F dX5_like_56 (c_X5_at E (nI i30) (nI o) ) rfl gX5_like_X5_at kS_X5_at ⟨by decide, by decide⟩ [] rfl (by decide +kernel) rfl rfl (Nat.le_of_ble_eq_true rfl) ⟨by decide, by decide⟩ ?_
      refine g_topr (y := nI (12 * o + i30)) (by rw [show (12 : Int32) = nI 12 from rfl, pk_mul, nI_add]) ?_
      refine g_ialdN (k := 12 * o + i30) F dX5_like_59 1 rfl (by omega) (by first | decide | omega) ?_
      have jn68 : G E X 0 0 68 [(0, .ref y), (1, .int (nI r)), (2, .int (nI o)), (3, .int ((mLk f r o i30).2)), (4, .int (nI i30))] [.int (if ¬ (mLk f r o i30).1 (12 * r + i30) = (mLk f r o i30).1 (12 * o + i30) then 1 else 0), .int ((mLk f r o i30).2)] [(y, .inr (5, [.int 0, .ref y1, .int col, .int car, .int tur, .int pre, .ref y2, .int mb, .ref y3, .ref y4, .ref y5, .int off, .ref y6, .ref y7, .int wov, .int km, .int ko, .ref y8, .ref y9])), (y1, .inl (E.2.2, 96, .inl ((mLk f r o i30).1)))] := by
        refine g_iadd F dX5_like_68 ?_
        refine g_istore_n (L' := [(0, .ref y), (1, .int (nI r)), (2, .int (nI o)), (3, .int (((mLk f r o i30).2) + (if ¬ (mLk f r o i30).1 (12 * r + i30) = (mLk f r o i30).1 (12 * o + i30) then 1 else 0))), (4, .int (nI i30))]) F dX5_like_69 rfl (by decide) [1, 2, 3, 0, 4] rfl ?_
        refine g_aload_n F dX5_like_70 rfl 0 rfl ?_
        refine g_get F dX5_like_71 0 rfl rfl i5 1 (by decide) rfl (List.mem_of_getElem? (i := 2) rfl) ?_
        refine g_iload F dX5_like_74 4 rfl ?_
        refine g_iload_n F dX5_like_76 rfl 1 rfl ?_
        refine g_callS (ws' := [(y, .inr (5, [.int 0, .ref y1, .int col, .int car, .int tur, .int pre, .ref y2, .int mb, .ref y3, .ref y4, .ref y5, .int off, .ref y6, .ref y7, .int wov, .int km, .int ko, .ref y8, .ref y9])), (y1, .inl (E.2.2, 96, .inl ((mLk f r o i30).1)))]) F dX5_like_77 (c_X5_at E (nI i30) (nI r) ) rfl gX5_like_X5_at kS_X5_at ⟨by decide, by decide⟩ [] rfl (by decide +kernel) rfl rfl (Nat.le_of_ble_eq_true rfl) ⟨by decide, by decide⟩ ?_
        refine g_topr (y := nI (12 * r + i30)) (by rw [show (12 : Int32) = nI 12 from rfl, pk_mul, nI_add]) ?_
        refine g_aload_n F dX5_like_80 rfl 0 rfl ?_
        refine g_get F dX5_like_81 0 rfl rfl i5 1 (by decide) rfl (List.mem_of_getElem? (i := 2) rfl) ?_
        refine g_iload F dX5_like_84 4 rfl ?_
        refine g_iload_n F dX5_like_86 rfl 2 rfl ?_
        refine g_callS (ws' := [(y, .inr (5, [.int 0, .ref y1, .int col, .int car, .int tur, .int pre, .ref y2, .int mb, .ref y3, .ref y4, .ref y5, .int off, .ref y6, .ref y7, .int wov, .int km, .int ko, .ref y8, .ref y9])), (y1, .inl (E.2.2, 96, .inl ((mLk f r o i30).1)))]) F dX5_like_87 (c_X5_at E (nI i30) (nI o) ) rfl gX5_like_X5_at kS_X5_at ⟨by decide, by decide⟩ [] rfl (by decide +kernel) rfl rfl (Nat.le_of_ble_eq_true rfl) ⟨by decide, by decide⟩ ?_
        refine g_topr (y := nI (12 * o + i30)) (by rw [show (12 : Int32) = nI 12 from rfl, pk_mul, nI_add]) ?_
        refine g_ialdN (k := 12 * o + i30) F dX5_like_90 1 rfl (by omega) (by first | decide | omega) ?_
        refine g_iastN (k := 12 * r + i30) (ws' := [(y, .inr (5, [.int 0, .ref y1, .int col, .int car, .int tur, .int pre, .ref y2, .int mb, .ref y3, .ref y4, .ref y5, .int off, .ref y6, .ref y7, .int wov, .int km, .int ko, .ref y8, .ref y9])), (y1, .inl (E.2.2, 96, .inl (upd ((mLk f r o i30).1) (12 * r + i30) (((mLk f r o i30).1) (12 * o + i30)))))]) F dX5_like_91 1 rfl (by omega) (by first | decide | omega) rfl ?_
        refine g_iinc (L' := [(0, .ref y), (1, .int (nI r)), (2, .int (nI o)), (3, .int (((mLk f r o i30).2) + (if ¬ (mLk f r o i30).1 (12 * r + i30) = (mLk f r o i30).1 (12 * o + i30) then 1 else 0))), (4, .int (nI (i30 + 1)))]) (v := nI (i30 + 1)) F dX5_like_92 4 rfl (nI_1 _) (by decide) [1, 2, 3, 4, 0] rfl ?_
        refine g_goto (tgt := 30) F dX5_like_95 (by decide) ?_
        exact ih30 (i30 + 1) (by omega)
      refine g_icmp_ne (tgt := 67) F dX5_like_60 (by decide) (fun k60 => ?_) (fun k60 => ?_)
      · skip
        refine g_iconst (v := 1) F dX5_like_67 (by decide) ?_
        exact g_topr (by simp [k60]) jn68
      · skip
        refine g_iconst (v := 0) F dX5_like_63 (by decide) ?_
        refine g_goto (tgt := 68) F dX5_like_64 (by decide) ?_
        exact g_topr (by simp [k60]) jn68
  exact lp30 12 0 (by omega)

set_option maxHeartbeats 4000000 in
set_option maxRecDepth 100000 in
theorem c_X5_like_1 (E : gE) (y : Nat) (y1 : Nat) (y2 : Nat) (y3 : Nat) (y4 : Nat) (y5 : Nat) (y6 : Nat) (y7 : Nat) (y8 : Nat) (y9 : Nat) (thr : Int32) (col : Int32) (car : Int32) (tur : Int32) (pre : Int32) (mb : Int32) (off : Int32) (wov : Int32) (km : Int32) (ko : Int32) (r : Int32) (o : Int32) (h : mIn r 0 7 = 0 ∨ mIn o 0 7 = 0) : Ct E yX5_like wsX5_like ({ frames := 2, cells := 0, slots := 0, locals := 42 }) [.ref y, .int r, .int o] [(y, .inr (5, [.int thr, .ref y1, .int col, .int car, .int tur, .int pre, .ref y2, .int mb, .ref y3, .ref y4, .ref y5, .int off, .ref y6, .ref y7, .int wov, .int km, .int ko, .ref y8, .ref y9]))] (some (.int 0)) [(y, .inr (5, [.int 1, .ref y1, .int col, .int car, .int tur, .int pre, .ref y2, .int mb, .ref y3, .ref y4, .ref y5, .int off, .ref y6, .ref y7, .int wov, .int km, .int ko, .ref y8, .ref y9]))] := by
  refine Ct.of (cc := cX5_like) (maxL := 5) (ret := (some .int)) (own := RX5) (L := [(0, .ref y), (1, .int r), (2, .int o)]) (by decide) rfl rfl rfl (Nat.le_of_ble_eq_true rfl) rfl ?_
  intro X F hQ
  have i5 : ∀ w ∈ u_ws RX5 TX5 19, w ∈ wsX5_like := gsub [17, 18, 19, 20, 21, 22, 23, 24, 25, 26, 27, 28, 29, 30, 31, 32, 33, 34, 35] rfl
  refine g_aload_n F dX5_like_0 rfl 0 rfl ?_
  refine g_iconst (v := 0) F dX5_like_1 (by decide) ?_
  refine g_put (ws' := [(y, .inr (5, [.int 0, .ref y1, .int col, .int car, .int tur, .int pre, .ref y2, .int mb, .ref y3, .ref y4, .ref y5, .int off, .ref y6, .ref y7, .int wov, .int km, .int ko, .ref y8, .ref y9]))]) F dX5_like_2 0 rfl rfl i5 tyX5 tyX5_ok nmX5 0 (by decide) rfl (rfl) (rfl) (Nat.le_of_ble_eq_true rfl) (List.mem_of_getElem? (i := 1) rfl) rfl ?_
  refine g_iload_n F dX5_like_5 rfl 1 rfl ?_
  refine g_callS (ws' := [(y, .inr (5, [.int 0, .ref y1, .int col, .int car, .int tur, .int pre, .ref y2, .int mb, .ref y3, .ref y4, .ref y5, .int off, .ref y6, .ref y7, .int wov, .int km, .int ko, .ref y8, .ref y9]))]) F dX5_like_6 (c_X5_isY E r ) rfl gX5_like_X5_isY kS_X5_isY ⟨by decide, by decide⟩ [] rfl (by decide +kernel) rfl rfl (Nat.le_of_ble_eq_true rfl) ⟨by decide, by decide⟩ ?_
  refine g_if_eq (tgt := 19) F dX5_like_9 (by decide) (fun k9 => ?_) (fun k9 => ?_)
  · skip
    refine g_aload_n F dX5_like_19 rfl 0 rfl ?_
    refine g_iconst (v := 1) F dX5_like_20 (by decide) ?_
    refine g_callV (ws' := [(y, .inr (5, [.int 1, .ref y1, .int col, .int car, .int tur, .int pre, .ref y2, .int mb, .ref y3, .ref y4, .ref y5, .int off, .ref y6, .ref y7, .int wov, .int km, .int ko, .ref y8, .ref y9]))]) F dX5_like_21 (c_X5_no E y y1 y2 y3 y4 y5 y6 y7 y8 y9 0 col car tur pre mb off wov km ko 1 ) rfl gX5_like_X5_no 0 rfl rfl kV_X5_no ⟨by decide, by decide⟩ [0] rfl (by decide +kernel) rfl rfl (Nat.le_of_ble_eq_true rfl) ⟨by decide, by decide⟩ ?_
    exact g_iret F hQ dX5_like_24 (rfl) (rfl)
  · skip
    refine g_iload_n F dX5_like_12 rfl 2 rfl ?_
    refine g_callS (ws' := [(y, .inr (5, [.int 0, .ref y1, .int col, .int car, .int tur, .int pre, .ref y2, .int mb, .ref y3, .ref y4, .ref y5, .int off, .ref y6, .ref y7, .int wov, .int km, .int ko, .ref y8, .ref y9]))]) F dX5_like_13 (c_X5_isY E o ) rfl gX5_like_X5_isY kS_X5_isY ⟨by decide, by decide⟩ [] rfl (by decide +kernel) rfl rfl (Nat.le_of_ble_eq_true rfl) ⟨by decide, by decide⟩ ?_
    refine g_if_ne_f (tgt := 25) F dX5_like_16 (by decide) (fun q => q (h.resolve_left k9)) ?_
    refine g_aload_n F dX5_like_19 rfl 0 rfl ?_
    refine g_iconst (v := 1) F dX5_like_20 (by decide) ?_
    refine g_callV (ws' := [(y, .inr (5, [.int 1, .ref y1, .int col, .int car, .int tur, .int pre, .ref y2, .int mb, .ref y3, .ref y4, .ref y5, .int off, .ref y6, .ref y7, .int wov, .int km, .int ko, .ref y8, .ref y9]))]) F dX5_like_21 (c_X5_no E y y1 y2 y3 y4 y5 y6 y7 y8 y9 0 col car tur pre mb off wov km ko 1 ) rfl gX5_like_X5_no 0 rfl rfl kV_X5_no ⟨by decide, by decide⟩ [0] rfl (by decide +kernel) rfl rfl (Nat.le_of_ble_eq_true rfl) ⟨by decide, by decide⟩ ?_
    exact g_iret F hQ dX5_like_24 (rfl) (rfl)

set_option maxHeartbeats 4000000 in
set_option maxRecDepth 100000 in
theorem c_X5_setColours (E : gE) (y : Nat) (y1 : Nat) (y2 : Nat) (y3 : Nat) (y4 : Nat) (y5 : Nat) (y6 : Nat) (y7 : Nat) (y8 : Nat) (y9 : Nat) (thr : Int32) (col : Int32) (car : Int32) (tur : Int32) (pre : Int32) (mb : Int32) (off : Int32) (wov : Int32) (km : Int32) (ko : Int32) (n : Int32) (h0 : ¬ mIn n 2 6 = 0) : Ct E yX5_setColours wsX5_setColours ({ frames := 1, cells := 0, slots := 0, locals := 22 }) [.ref y, .int n] [(y, .inr (5, [.int thr, .ref y1, .int col, .int car, .int tur, .int pre, .ref y2, .int mb, .ref y3, .ref y4, .ref y5, .int off, .ref y6, .ref y7, .int wov, .int km, .int ko, .ref y8, .ref y9]))] (some (.int col)) [(y, .inr (5, [.int 0, .ref y1, .int n, .int car, .int tur, .int pre, .ref y2, .int mb, .ref y3, .ref y4, .ref y5, .int off, .ref y6, .ref y7, .int wov, .int km, .int ko, .ref y8, .ref y9]))] := by
  refine Ct.of (cc := cX5_setColours) (maxL := 3) (ret := (some .int)) (own := RX5) (L := [(0, .ref y), (1, .int n)]) (by decide) rfl rfl rfl (Nat.le_of_ble_eq_true rfl) rfl ?_
  intro X F hQ
  have i5 : ∀ w ∈ u_ws RX5 TX5 19, w ∈ wsX5_setColours := gsub [11, 12, 13, 14, 15, 16, 17, 18, 19, 20, 21, 22, 23, 24, 25, 26, 27, 28, 29] rfl
  refine g_aload_n F dX5_setColours_0 rfl 0 rfl ?_
  refine g_iconst (v := 0) F dX5_setColours_1 (by decide) ?_
  refine g_put (ws' := [(y, .inr (5, [.int 0, .ref y1, .int col, .int car, .int tur, .int pre, .ref y2, .int mb, .ref y3, .ref y4, .ref y5, .int off, .ref y6, .ref y7, .int wov, .int km, .int ko, .ref y8, .ref y9]))]) F dX5_setColours_2 0 rfl rfl i5 tyX5 tyX5_ok nmX5 0 (by decide) rfl (rfl) (rfl) (Nat.le_of_ble_eq_true rfl) (List.mem_of_getElem? (i := 1) rfl) rfl ?_
  refine g_iload_n F dX5_setColours_5 rfl 1 rfl ?_
  refine g_iconst (v := 2) F dX5_setColours_6 (by decide) ?_
  refine g_bipush (v := 6) F dX5_setColours_7 (by decide) ?_
  refine g_callS (ws' := [(y, .inr (5, [.int 0, .ref y1, .int col, .int car, .int tur, .int pre, .ref y2, .int mb, .ref y3, .ref y4, .ref y5, .int off, .ref y6, .ref y7, .int wov, .int km, .int ko, .ref y8, .ref y9]))]) F dX5_setColours_9 (c_X5_isIn E n 2 6 ) rfl gX5_setColours_X5_isIn kS_X5_isIn ⟨by decide, by decide⟩ [] rfl (by decide +kernel) rfl rfl (Nat.le_of_ble_eq_true rfl) ⟨by decide, by decide⟩ ?_
  refine g_if_ne_t (tgt := 21) F dX5_setColours_12 (by decide) (h0) ?_
  refine g_aload_n F dX5_setColours_21 rfl 0 rfl ?_
  refine g_get F dX5_setColours_22 0 rfl rfl i5 2 (by decide) rfl (List.mem_of_getElem? (i := 2) rfl) ?_
  refine g_istore_n (L' := [(0, .ref y), (1, .int n), (2, .int col)]) F dX5_setColours_25 rfl (by decide) [1, 2, 0] rfl ?_
  refine g_aload_n F dX5_setColours_26 rfl 0 rfl ?_
  refine g_iload_n F dX5_setColours_27 rfl 1 rfl ?_
  refine g_put (ws' := [(y, .inr (5, [.int 0, .ref y1, .int n, .int car, .int tur, .int pre, .ref y2, .int mb, .ref y3, .ref y4, .ref y5, .int off, .ref y6, .ref y7, .int wov, .int km, .int ko, .ref y8, .ref y9]))]) F dX5_setColours_28 0 rfl rfl i5 tyX5 tyX5_ok nmX5 2 (by decide) rfl (rfl) (rfl) (Nat.le_of_ble_eq_true rfl) (List.mem_of_getElem? (i := 2) rfl) rfl ?_
  refine g_iload_n F dX5_setColours_31 rfl 2 rfl ?_
  exact g_iret F hQ dX5_setColours_32 (rfl) (rfl)

set_option maxHeartbeats 4000000 in
set_option maxRecDepth 100000 in
theorem c_X5_setColours_1 (E : gE) (y : Nat) (y1 : Nat) (y2 : Nat) (y3 : Nat) (y4 : Nat) (y5 : Nat) (y6 : Nat) (y7 : Nat) (y8 : Nat) (y9 : Nat) (thr : Int32) (col : Int32) (car : Int32) (tur : Int32) (pre : Int32) (mb : Int32) (off : Int32) (wov : Int32) (km : Int32) (ko : Int32) (n : Int32) (h0 : mIn n 2 6 = 0) : Ct E yX5_setColours wsX5_setColours ({ frames := 1, cells := 0, slots := 0, locals := 22 }) [.ref y, .int n] [(y, .inr (5, [.int thr, .ref y1, .int col, .int car, .int tur, .int pre, .ref y2, .int mb, .ref y3, .ref y4, .ref y5, .int off, .ref y6, .ref y7, .int wov, .int km, .int ko, .ref y8, .ref y9]))] (some (.int 0)) [(y, .inr (5, [.int 1, .ref y1, .int col, .int car, .int tur, .int pre, .ref y2, .int mb, .ref y3, .ref y4, .ref y5, .int off, .ref y6, .ref y7, .int wov, .int km, .int ko, .ref y8, .ref y9]))] := by
  refine Ct.of (cc := cX5_setColours) (maxL := 3) (ret := (some .int)) (own := RX5) (L := [(0, .ref y), (1, .int n)]) (by decide) rfl rfl rfl (Nat.le_of_ble_eq_true rfl) rfl ?_
  intro X F hQ
  have i5 : ∀ w ∈ u_ws RX5 TX5 19, w ∈ wsX5_setColours := gsub [11, 12, 13, 14, 15, 16, 17, 18, 19, 20, 21, 22, 23, 24, 25, 26, 27, 28, 29] rfl
  refine g_aload_n F dX5_setColours_0 rfl 0 rfl ?_
  refine g_iconst (v := 0) F dX5_setColours_1 (by decide) ?_
  refine g_put (ws' := [(y, .inr (5, [.int 0, .ref y1, .int col, .int car, .int tur, .int pre, .ref y2, .int mb, .ref y3, .ref y4, .ref y5, .int off, .ref y6, .ref y7, .int wov, .int km, .int ko, .ref y8, .ref y9]))]) F dX5_setColours_2 0 rfl rfl i5 tyX5 tyX5_ok nmX5 0 (by decide) rfl (rfl) (rfl) (Nat.le_of_ble_eq_true rfl) (List.mem_of_getElem? (i := 1) rfl) rfl ?_
  refine g_iload_n F dX5_setColours_5 rfl 1 rfl ?_
  refine g_iconst (v := 2) F dX5_setColours_6 (by decide) ?_
  refine g_bipush (v := 6) F dX5_setColours_7 (by decide) ?_
  refine g_callS (ws' := [(y, .inr (5, [.int 0, .ref y1, .int col, .int car, .int tur, .int pre, .ref y2, .int mb, .ref y3, .ref y4, .ref y5, .int off, .ref y6, .ref y7, .int wov, .int km, .int ko, .ref y8, .ref y9]))]) F dX5_setColours_9 (c_X5_isIn E n 2 6 ) rfl gX5_setColours_X5_isIn kS_X5_isIn ⟨by decide, by decide⟩ [] rfl (by decide +kernel) rfl rfl (Nat.le_of_ble_eq_true rfl) ⟨by decide, by decide⟩ ?_
  refine g_if_ne_f (tgt := 21) F dX5_setColours_12 (by decide) (fun q => q h0) ?_
  refine g_aload_n F dX5_setColours_15 rfl 0 rfl ?_
  refine g_iconst (v := 1) F dX5_setColours_16 (by decide) ?_
  refine g_callV (ws' := [(y, .inr (5, [.int 1, .ref y1, .int col, .int car, .int tur, .int pre, .ref y2, .int mb, .ref y3, .ref y4, .ref y5, .int off, .ref y6, .ref y7, .int wov, .int km, .int ko, .ref y8, .ref y9]))]) F dX5_setColours_17 (c_X5_no E y y1 y2 y3 y4 y5 y6 y7 y8 y9 0 col car tur pre mb off wov km ko 1 ) rfl gX5_setColours_X5_no 0 rfl rfl kV_X5_no ⟨by decide, by decide⟩ [0] rfl (by decide +kernel) rfl rfl (Nat.le_of_ble_eq_true rfl) ⟨by decide, by decide⟩ ?_
  exact g_iret F hQ dX5_setColours_20 (rfl) (rfl)

set_option maxHeartbeats 4000000 in
set_option maxRecDepth 100000 in
theorem c_X5_setCarry (E : gE) (y : Nat) (y1 : Nat) (y2 : Nat) (y3 : Nat) (y4 : Nat) (y5 : Nat) (y6 : Nat) (y7 : Nat) (y8 : Nat) (y9 : Nat) (thr : Int32) (col : Int32) (car : Int32) (tur : Int32) (pre : Int32) (mb : Int32) (off : Int32) (wov : Int32) (km : Int32) (ko : Int32) (n : Int32) (h0 : ¬ mIn n 0 2 = 0) : Ct E yX5_setCarry wsX5_setCarry ({ frames := 1, cells := 0, slots := 0, locals := 22 }) [.ref y, .int n] [(y, .inr (5, [.int thr, .ref y1, .int col, .int car, .int tur, .int pre, .ref y2, .int mb, .ref y3, .ref y4, .ref y5, .int off, .ref y6, .ref y7, .int wov, .int km, .int ko, .ref y8, .ref y9]))] (some (.int car)) [(y, .inr (5, [.int 0, .ref y1, .int col, .int n, .int tur, .int pre, .ref y2, .int mb, .ref y3, .ref y4, .ref y5, .int off, .ref y6, .ref y7, .int wov, .int km, .int ko, .ref y8, .ref y9]))] := by
  refine Ct.of (cc := cX5_setCarry) (maxL := 3) (ret := (some .int)) (own := RX5) (L := [(0, .ref y), (1, .int n)]) (by decide) rfl rfl rfl (Nat.le_of_ble_eq_true rfl) rfl ?_
  intro X F hQ
  have i5 : ∀ w ∈ u_ws RX5 TX5 19, w ∈ wsX5_setCarry := gsub [11, 12, 13, 14, 15, 16, 17, 18, 19, 20, 21, 22, 23, 24, 25, 26, 27, 28, 29] rfl
  refine g_aload_n F dX5_setCarry_0 rfl 0 rfl ?_
  refine g_iconst (v := 0) F dX5_setCarry_1 (by decide) ?_
  refine g_put (ws' := [(y, .inr (5, [.int 0, .ref y1, .int col, .int car, .int tur, .int pre, .ref y2, .int mb, .ref y3, .ref y4, .ref y5, .int off, .ref y6, .ref y7, .int wov, .int km, .int ko, .ref y8, .ref y9]))]) F dX5_setCarry_2 0 rfl rfl i5 tyX5 tyX5_ok nmX5 0 (by decide) rfl (rfl) (rfl) (Nat.le_of_ble_eq_true rfl) (List.mem_of_getElem? (i := 1) rfl) rfl ?_
  refine g_iload_n F dX5_setCarry_5 rfl 1 rfl ?_
  refine g_iconst (v := 0) F dX5_setCarry_6 (by decide) ?_
  refine g_iconst (v := 2) F dX5_setCarry_7 (by decide) ?_
  refine g_callS (ws' := [(y, .inr (5, [.int 0, .ref y1, .int col, .int car, .int tur, .int pre, .ref y2, .int mb, .ref y3, .ref y4, .ref y5, .int off, .ref y6, .ref y7, .int wov, .int km, .int ko, .ref y8, .ref y9]))]) F dX5_setCarry_8 (c_X5_isIn E n 0 2 ) rfl gX5_setCarry_X5_isIn kS_X5_isIn ⟨by decide, by decide⟩ [] rfl (by decide +kernel) rfl rfl (Nat.le_of_ble_eq_true rfl) ⟨by decide, by decide⟩ ?_
  refine g_if_ne_t (tgt := 20) F dX5_setCarry_11 (by decide) (h0) ?_
  refine g_aload_n F dX5_setCarry_20 rfl 0 rfl ?_
  refine g_get F dX5_setCarry_21 0 rfl rfl i5 3 (by decide) rfl (List.mem_of_getElem? (i := 2) rfl) ?_
  refine g_istore_n (L' := [(0, .ref y), (1, .int n), (2, .int car)]) F dX5_setCarry_24 rfl (by decide) [1, 2, 0] rfl ?_
  refine g_aload_n F dX5_setCarry_25 rfl 0 rfl ?_
  refine g_iload_n F dX5_setCarry_26 rfl 1 rfl ?_
  refine g_put (ws' := [(y, .inr (5, [.int 0, .ref y1, .int col, .int n, .int tur, .int pre, .ref y2, .int mb, .ref y3, .ref y4, .ref y5, .int off, .ref y6, .ref y7, .int wov, .int km, .int ko, .ref y8, .ref y9]))]) F dX5_setCarry_27 0 rfl rfl i5 tyX5 tyX5_ok nmX5 3 (by decide) rfl (rfl) (rfl) (Nat.le_of_ble_eq_true rfl) (List.mem_of_getElem? (i := 2) rfl) rfl ?_
  refine g_iload_n F dX5_setCarry_30 rfl 2 rfl ?_
  exact g_iret F hQ dX5_setCarry_31 (rfl) (rfl)

set_option maxHeartbeats 4000000 in
set_option maxRecDepth 100000 in
theorem c_X5_setCarry_1 (E : gE) (y : Nat) (y1 : Nat) (y2 : Nat) (y3 : Nat) (y4 : Nat) (y5 : Nat) (y6 : Nat) (y7 : Nat) (y8 : Nat) (y9 : Nat) (thr : Int32) (col : Int32) (car : Int32) (tur : Int32) (pre : Int32) (mb : Int32) (off : Int32) (wov : Int32) (km : Int32) (ko : Int32) (n : Int32) (h0 : mIn n 0 2 = 0) : Ct E yX5_setCarry wsX5_setCarry ({ frames := 1, cells := 0, slots := 0, locals := 22 }) [.ref y, .int n] [(y, .inr (5, [.int thr, .ref y1, .int col, .int car, .int tur, .int pre, .ref y2, .int mb, .ref y3, .ref y4, .ref y5, .int off, .ref y6, .ref y7, .int wov, .int km, .int ko, .ref y8, .ref y9]))] (some (.int 0)) [(y, .inr (5, [.int 1, .ref y1, .int col, .int car, .int tur, .int pre, .ref y2, .int mb, .ref y3, .ref y4, .ref y5, .int off, .ref y6, .ref y7, .int wov, .int km, .int ko, .ref y8, .ref y9]))] := by
  refine Ct.of (cc := cX5_setCarry) (maxL := 3) (ret := (some .int)) (own := RX5) (L := [(0, .ref y), (1, .int n)]) (by decide) rfl rfl rfl (Nat.le_of_ble_eq_true rfl) rfl ?_
  intro X F hQ
  have i5 : ∀ w ∈ u_ws RX5 TX5 19, w ∈ wsX5_setCarry := gsub [11, 12, 13, 14, 15, 16, 17, 18, 19, 20, 21, 22, 23, 24, 25, 26, 27, 28, 29] rfl
  refine g_aload_n F dX5_setCarry_0 rfl 0 rfl ?_
  refine g_iconst (v := 0) F dX5_setCarry_1 (by decide) ?_
  refine g_put (ws' := [(y, .inr (5, [.int 0, .ref y1, .int col, .int car, .int tur, .int pre, .ref y2, .int mb, .ref y3, .ref y4, .ref y5, .int off, .ref y6, .ref y7, .int wov, .int km, .int ko, .ref y8, .ref y9]))]) F dX5_setCarry_2 0 rfl rfl i5 tyX5 tyX5_ok nmX5 0 (by decide) rfl (rfl) (rfl) (Nat.le_of_ble_eq_true rfl) (List.mem_of_getElem? (i := 1) rfl) rfl ?_
  refine g_iload_n F dX5_setCarry_5 rfl 1 rfl ?_
  refine g_iconst (v := 0) F dX5_setCarry_6 (by decide) ?_
  refine g_iconst (v := 2) F dX5_setCarry_7 (by decide) ?_
  refine g_callS (ws' := [(y, .inr (5, [.int 0, .ref y1, .int col, .int car, .int tur, .int pre, .ref y2, .int mb, .ref y3, .ref y4, .ref y5, .int off, .ref y6, .ref y7, .int wov, .int km, .int ko, .ref y8, .ref y9]))]) F dX5_setCarry_8 (c_X5_isIn E n 0 2 ) rfl gX5_setCarry_X5_isIn kS_X5_isIn ⟨by decide, by decide⟩ [] rfl (by decide +kernel) rfl rfl (Nat.le_of_ble_eq_true rfl) ⟨by decide, by decide⟩ ?_
  refine g_if_ne_f (tgt := 20) F dX5_setCarry_11 (by decide) (fun q => q h0) ?_
  refine g_aload_n F dX5_setCarry_14 rfl 0 rfl ?_
  refine g_iconst (v := 1) F dX5_setCarry_15 (by decide) ?_
  refine g_callV (ws' := [(y, .inr (5, [.int 1, .ref y1, .int col, .int car, .int tur, .int pre, .ref y2, .int mb, .ref y3, .ref y4, .ref y5, .int off, .ref y6, .ref y7, .int wov, .int km, .int ko, .ref y8, .ref y9]))]) F dX5_setCarry_16 (c_X5_no E y y1 y2 y3 y4 y5 y6 y7 y8 y9 0 col car tur pre mb off wov km ko 1 ) rfl gX5_setCarry_X5_no 0 rfl rfl kV_X5_no ⟨by decide, by decide⟩ [0] rfl (by decide +kernel) rfl rfl (Nat.le_of_ble_eq_true rfl) ⟨by decide, by decide⟩ ?_
  exact g_iret F hQ dX5_setCarry_19 (rfl) (rfl)

set_option maxHeartbeats 4000000 in
set_option maxRecDepth 100000 in
theorem c_X5_setTurning (E : gE) (y : Nat) (y1 : Nat) (y2 : Nat) (y3 : Nat) (y4 : Nat) (y5 : Nat) (y6 : Nat) (y7 : Nat) (y8 : Nat) (y9 : Nat) (thr : Int32) (col : Int32) (car : Int32) (tur : Int32) (pre : Int32) (mb : Int32) (off : Int32) (wov : Int32) (km : Int32) (ko : Int32) (n : Int32) (ht : tur = 0 ∨ tur = 1) (hn : n = 0 ∨ n = 1) : Ct E yX5_setTurning wsX5_setTurning ({ frames := 0, cells := 0, slots := 0, locals := 0 }) [.ref y, .int n] [(y, .inr (5, [.int thr, .ref y1, .int col, .int car, .int tur, .int pre, .ref y2, .int mb, .ref y3, .ref y4, .ref y5, .int off, .ref y6, .ref y7, .int wov, .int km, .int ko, .ref y8, .ref y9]))] (some (.int tur)) [(y, .inr (5, [.int 0, .ref y1, .int col, .int car, .int n, .int pre, .ref y2, .int mb, .ref y3, .ref y4, .ref y5, .int off, .ref y6, .ref y7, .int wov, .int km, .int ko, .ref y8, .ref y9]))] := by
  refine Ct.of (cc := cX5_setTurning) (maxL := 3) (ret := (some .boolean)) (own := RX5) (L := [(0, .ref y), (1, .int n)]) (by decide) rfl rfl rfl (Nat.le_of_ble_eq_true rfl) rfl ?_
  intro X F hQ
  have i5 : ∀ w ∈ u_ws RX5 TX5 19, w ∈ wsX5_setTurning := gsub [3, 4, 5, 6, 7, 8, 9, 10, 11, 12, 13, 14, 15, 16, 17, 18, 19, 20, 21] rfl
  refine g_aload_n F dX5_setTurning_0 rfl 0 rfl ?_
  refine g_iconst (v := 0) F dX5_setTurning_1 (by decide) ?_
  refine g_put (ws' := [(y, .inr (5, [.int 0, .ref y1, .int col, .int car, .int tur, .int pre, .ref y2, .int mb, .ref y3, .ref y4, .ref y5, .int off, .ref y6, .ref y7, .int wov, .int km, .int ko, .ref y8, .ref y9]))]) F dX5_setTurning_2 0 rfl rfl i5 tyX5 tyX5_ok nmX5 0 (by decide) rfl (rfl) (rfl) (Nat.le_of_ble_eq_true rfl) (List.mem_of_getElem? (i := 1) rfl) rfl ?_
  refine g_aload_n F dX5_setTurning_5 rfl 0 rfl ?_
  refine g_get F dX5_setTurning_6 0 rfl rfl i5 4 (by decide) rfl (List.mem_of_getElem? (i := 2) rfl) ?_
  refine g_istore_n (L' := [(0, .ref y), (1, .int n), (2, .int tur)]) F dX5_setTurning_9 rfl (by decide) [1, 2, 0] rfl ?_
  refine g_aload_n F dX5_setTurning_10 rfl 0 rfl ?_
  refine g_iload_n F dX5_setTurning_11 rfl 1 rfl ?_
  refine g_put (ws' := [(y, .inr (5, [.int 0, .ref y1, .int col, .int car, .int n, .int pre, .ref y2, .int mb, .ref y3, .ref y4, .ref y5, .int off, .ref y6, .ref y7, .int wov, .int km, .int ko, .ref y8, .ref y9]))]) F dX5_setTurning_12 0 rfl rfl i5 tyX5 tyX5_ok nmX5 4 (by decide) rfl (by rcases hn with rfl | rfl <;> rfl) (by rcases hn with rfl | rfl <;> rfl) (Nat.le_of_ble_eq_true rfl) (List.mem_of_getElem? (i := 2) rfl) rfl ?_
  refine g_iload_n F dX5_setTurning_15 rfl 2 rfl ?_
  exact g_zret F hQ dX5_setTurning_16 (ht) (rfl) (rfl)

set_option maxHeartbeats 4000000 in
set_option maxRecDepth 100000 in
theorem c_X5_setPressing (E : gE) (y : Nat) (y1 : Nat) (y2 : Nat) (y3 : Nat) (y4 : Nat) (y5 : Nat) (y6 : Nat) (y7 : Nat) (y8 : Nat) (y9 : Nat) (thr : Int32) (col : Int32) (car : Int32) (tur : Int32) (pre : Int32) (mb : Int32) (off : Int32) (wov : Int32) (km : Int32) (ko : Int32) (n : Int32) (ht : pre = 0 ∨ pre = 1) (hn : n = 0 ∨ n = 1) : Ct E yX5_setPressing wsX5_setPressing ({ frames := 0, cells := 0, slots := 0, locals := 0 }) [.ref y, .int n] [(y, .inr (5, [.int thr, .ref y1, .int col, .int car, .int tur, .int pre, .ref y2, .int mb, .ref y3, .ref y4, .ref y5, .int off, .ref y6, .ref y7, .int wov, .int km, .int ko, .ref y8, .ref y9]))] (some (.int pre)) [(y, .inr (5, [.int 0, .ref y1, .int col, .int car, .int tur, .int n, .ref y2, .int mb, .ref y3, .ref y4, .ref y5, .int off, .ref y6, .ref y7, .int wov, .int km, .int ko, .ref y8, .ref y9]))] := by
  refine Ct.of (cc := cX5_setPressing) (maxL := 3) (ret := (some .boolean)) (own := RX5) (L := [(0, .ref y), (1, .int n)]) (by decide) rfl rfl rfl (Nat.le_of_ble_eq_true rfl) rfl ?_
  intro X F hQ
  have i5 : ∀ w ∈ u_ws RX5 TX5 19, w ∈ wsX5_setPressing := gsub [3, 4, 5, 6, 7, 8, 9, 10, 11, 12, 13, 14, 15, 16, 17, 18, 19, 20, 21] rfl
  refine g_aload_n F dX5_setPressing_0 rfl 0 rfl ?_
  refine g_iconst (v := 0) F dX5_setPressing_1 (by decide) ?_
  refine g_put (ws' := [(y, .inr (5, [.int 0, .ref y1, .int col, .int car, .int tur, .int pre, .ref y2, .int mb, .ref y3, .ref y4, .ref y5, .int off, .ref y6, .ref y7, .int wov, .int km, .int ko, .ref y8, .ref y9]))]) F dX5_setPressing_2 0 rfl rfl i5 tyX5 tyX5_ok nmX5 0 (by decide) rfl (rfl) (rfl) (Nat.le_of_ble_eq_true rfl) (List.mem_of_getElem? (i := 1) rfl) rfl ?_
  refine g_aload_n F dX5_setPressing_5 rfl 0 rfl ?_
  refine g_get F dX5_setPressing_6 0 rfl rfl i5 5 (by decide) rfl (List.mem_of_getElem? (i := 2) rfl) ?_
  refine g_istore_n (L' := [(0, .ref y), (1, .int n), (2, .int pre)]) F dX5_setPressing_9 rfl (by decide) [1, 2, 0] rfl ?_
  refine g_aload_n F dX5_setPressing_10 rfl 0 rfl ?_
  refine g_iload_n F dX5_setPressing_11 rfl 1 rfl ?_
  refine g_put (ws' := [(y, .inr (5, [.int 0, .ref y1, .int col, .int car, .int tur, .int n, .ref y2, .int mb, .ref y3, .ref y4, .ref y5, .int off, .ref y6, .ref y7, .int wov, .int km, .int ko, .ref y8, .ref y9]))]) F dX5_setPressing_12 0 rfl rfl i5 tyX5 tyX5_ok nmX5 5 (by decide) rfl (by rcases hn with rfl | rfl <;> rfl) (by rcases hn with rfl | rfl <;> rfl) (Nat.le_of_ble_eq_true rfl) (List.mem_of_getElem? (i := 2) rfl) rfl ?_
  refine g_iload_n F dX5_setPressing_15 rfl 2 rfl ?_
  exact g_zret F hQ dX5_setPressing_16 (ht) (rfl) (rfl)

set_option maxHeartbeats 4000000 in
set_option maxRecDepth 100000 in
theorem c_X5_wind (E : gE) (y : Nat) (y1 : Nat) (y2 : Nat) (y3 : Nat) (y4 : Nat) (y5 : Nat) (y6 : Nat) (y7 : Nat) (y8 : Nat) (y9 : Nat) (th : AF) (thr : Int32) (col : Int32) (car : Int32) (tur : Int32) (pre : Int32) (mb : Int32) (off : Int32) (wov : Int32) (km : Int32) (ko : Int32) (c : Nat) (n : Int32) (hc : c < 6) (h0 : ¬ mIn n 1 99 = 0) : Ct E yX5_wind wsX5_wind ({ frames := 2, cells := 0, slots := 0, locals := 42 }) [.ref y, .int (nI c), .int n] [(y, .inr (5, [.int thr, .ref y1, .int col, .int car, .int tur, .int pre, .ref y2, .int mb, .ref y3, .ref y4, .ref y5, .int off, .ref y6, .ref y7, .int wov, .int km, .int ko, .ref y8, .ref y9])), (y2, .inl (E.2.2, 6, .inl th))] (some (.int (upd th c (sMin 999 (th c + n)) c))) [(y, .inr (5, [.int 0, .ref y1, .int col, .int car, .int tur, .int pre, .ref y2, .int mb, .ref y3, .ref y4, .ref y5, .int off, .ref y6, .ref y7, .int wov, .int km, .int ko, .ref y8, .ref y9])), (y2, .inl (E.2.2, 6, .inl (upd th c (sMin 999 (th c + n)))))] := by
  refine Ct.of (cc := cX5_wind) (maxL := 3) (ret := (some .int)) (own := RX5) (L := [(0, .ref y), (1, .int (nI c)), (2, .int n)]) (by decide) rfl rfl rfl (Nat.le_of_ble_eq_true rfl) rfl ?_
  intro X F hQ
  have i5 : ∀ w ∈ u_ws RX5 TX5 19, w ∈ wsX5_wind := gsub [18, 19, 20, 21, 22, 23, 24, 25, 26, 27, 28, 29, 30, 31, 32, 33, 34, 35, 36] rfl
  refine g_aload_n F dX5_wind_0 rfl 0 rfl ?_
  refine g_iconst (v := 0) F dX5_wind_1 (by decide) ?_
  refine g_put (ws' := [(y, .inr (5, [.int 0, .ref y1, .int col, .int car, .int tur, .int pre, .ref y2, .int mb, .ref y3, .ref y4, .ref y5, .int off, .ref y6, .ref y7, .int wov, .int km, .int ko, .ref y8, .ref y9])), (y2, .inl (E.2.2, 6, .inl th))]) F dX5_wind_2 0 rfl rfl i5 tyX5 tyX5_ok nmX5 0 (by decide) rfl (rfl) (rfl) (Nat.le_of_ble_eq_true rfl) (List.mem_of_getElem? (i := 1) rfl) rfl ?_
  refine g_iload_n F dX5_wind_5 rfl 1 rfl ?_
  refine g_callS (ws' := [(y, .inr (5, [.int 0, .ref y1, .int col, .int car, .int tur, .int pre, .ref y2, .int mb, .ref y3, .ref y4, .ref y5, .int off, .ref y6, .ref y7, .int wov, .int km, .int ko, .ref y8, .ref y9])), (y2, .inl (E.2.2, 6, .inl th))]) F dX5_wind_6 (c_X5_isSpool E (nI c) ) rfl gX5_wind_X5_isSpool kS_X5_isSpool ⟨by decide, by decide⟩ [] rfl (by decide +kernel) rfl rfl (Nat.le_of_ble_eq_true rfl) ⟨by decide, by decide⟩ ?_
  refine g_topr (y := 1) (mIn_nI (n := 5) (by omega) (by omega)) ?_
  refine g_if_ne_t (tgt := 18) F dX5_wind_9 (by decide) (by decide) ?_
  refine g_iload_n F dX5_wind_18 rfl 2 rfl ?_
  refine g_iconst (v := 1) F dX5_wind_19 (by decide) ?_
  refine g_bipush (v := 99) F dX5_wind_20 (by decide) ?_
  refine g_callS (ws' := [(y, .inr (5, [.int 0, .ref y1, .int col, .int car, .int tur, .int pre, .ref y2, .int mb, .ref y3, .ref y4, .ref y5, .int off, .ref y6, .ref y7, .int wov, .int km, .int ko, .ref y8, .ref y9])), (y2, .inl (E.2.2, 6, .inl th))]) F dX5_wind_22 (c_X5_isIn E n 1 99 ) rfl gX5_wind_X5_isIn kS_X5_isIn ⟨by decide, by decide⟩ [] rfl (by decide +kernel) rfl rfl (Nat.le_of_ble_eq_true rfl) ⟨by decide, by decide⟩ ?_
  refine g_if_ne_t (tgt := 34) F dX5_wind_25 (by decide) (h0) ?_
  refine g_aload_n F dX5_wind_34 rfl 0 rfl ?_
  refine g_get F dX5_wind_35 0 rfl rfl i5 6 (by decide) rfl (List.mem_of_getElem? (i := 2) rfl) ?_
  refine g_iload_n F dX5_wind_38 rfl 1 rfl ?_
  refine g_sipush (v := 999) F dX5_wind_39 (by decide) ?_
  refine g_aload_n F dX5_wind_42 rfl 0 rfl ?_
  refine g_get F dX5_wind_43 0 rfl rfl i5 6 (by decide) rfl (List.mem_of_getElem? (i := 2) rfl) ?_
  refine g_iload_n F dX5_wind_46 rfl 1 rfl ?_
  refine g_ialdN (k := c) F dX5_wind_47 1 rfl (by omega) (by first | decide | omega) ?_
  refine g_iload_n F dX5_wind_48 rfl 2 rfl ?_
  refine g_iadd F dX5_wind_49 ?_
  refine g_min F dX5_wind_50 (List.mem_of_getElem? (i := 3) rfl) (List.mem_of_getElem? (i := 4) rfl) (List.mem_of_getElem? (i := 5) rfl) (List.mem_of_getElem? (i := 6) rfl) (by decide) (Nat.le_of_ble_eq_true rfl) (by decide) (by decide) ?_
  refine g_iastN (k := c) (ws' := [(y, .inr (5, [.int 0, .ref y1, .int col, .int car, .int tur, .int pre, .ref y2, .int mb, .ref y3, .ref y4, .ref y5, .int off, .ref y6, .ref y7, .int wov, .int km, .int ko, .ref y8, .ref y9])), (y2, .inl (E.2.2, 6, .inl (upd th c (sMin 999 ((th c) + n)))))]) F dX5_wind_53 1 rfl (by omega) (by first | decide | omega) rfl ?_
  refine g_aload_n F dX5_wind_54 rfl 0 rfl ?_
  refine g_get F dX5_wind_55 0 rfl rfl i5 6 (by decide) rfl (List.mem_of_getElem? (i := 2) rfl) ?_
  refine g_iload_n F dX5_wind_58 rfl 1 rfl ?_
  refine g_ialdN (k := c) F dX5_wind_59 1 rfl (by omega) (by first | decide | omega) ?_
  exact g_iret F hQ dX5_wind_60 (rfl) (rfl)

set_option maxHeartbeats 4000000 in
set_option maxRecDepth 100000 in
theorem c_X5_wind_1 (E : gE) (y : Nat) (y1 : Nat) (y2 : Nat) (y3 : Nat) (y4 : Nat) (y5 : Nat) (y6 : Nat) (y7 : Nat) (y8 : Nat) (y9 : Nat) (thr : Int32) (col : Int32) (car : Int32) (tur : Int32) (pre : Int32) (mb : Int32) (off : Int32) (wov : Int32) (km : Int32) (ko : Int32) (c : Int32) (n : Int32) (h0 : mIn c 0 5 = 0) : Ct E yX5_wind wsX5_wind ({ frames := 2, cells := 0, slots := 0, locals := 42 }) [.ref y, .int c, .int n] [(y, .inr (5, [.int thr, .ref y1, .int col, .int car, .int tur, .int pre, .ref y2, .int mb, .ref y3, .ref y4, .ref y5, .int off, .ref y6, .ref y7, .int wov, .int km, .int ko, .ref y8, .ref y9]))] (some (.int 0)) [(y, .inr (5, [.int 1, .ref y1, .int col, .int car, .int tur, .int pre, .ref y2, .int mb, .ref y3, .ref y4, .ref y5, .int off, .ref y6, .ref y7, .int wov, .int km, .int ko, .ref y8, .ref y9]))] := by
  refine Ct.of (cc := cX5_wind) (maxL := 3) (ret := (some .int)) (own := RX5) (L := [(0, .ref y), (1, .int c), (2, .int n)]) (by decide) rfl rfl rfl (Nat.le_of_ble_eq_true rfl) rfl ?_
  intro X F hQ
  have i5 : ∀ w ∈ u_ws RX5 TX5 19, w ∈ wsX5_wind := gsub [18, 19, 20, 21, 22, 23, 24, 25, 26, 27, 28, 29, 30, 31, 32, 33, 34, 35, 36] rfl
  refine g_aload_n F dX5_wind_0 rfl 0 rfl ?_
  refine g_iconst (v := 0) F dX5_wind_1 (by decide) ?_
  refine g_put (ws' := [(y, .inr (5, [.int 0, .ref y1, .int col, .int car, .int tur, .int pre, .ref y2, .int mb, .ref y3, .ref y4, .ref y5, .int off, .ref y6, .ref y7, .int wov, .int km, .int ko, .ref y8, .ref y9]))]) F dX5_wind_2 0 rfl rfl i5 tyX5 tyX5_ok nmX5 0 (by decide) rfl (rfl) (rfl) (Nat.le_of_ble_eq_true rfl) (List.mem_of_getElem? (i := 1) rfl) rfl ?_
  refine g_iload_n F dX5_wind_5 rfl 1 rfl ?_
  refine g_callS (ws' := [(y, .inr (5, [.int 0, .ref y1, .int col, .int car, .int tur, .int pre, .ref y2, .int mb, .ref y3, .ref y4, .ref y5, .int off, .ref y6, .ref y7, .int wov, .int km, .int ko, .ref y8, .ref y9]))]) F dX5_wind_6 (c_X5_isSpool E c ) rfl gX5_wind_X5_isSpool kS_X5_isSpool ⟨by decide, by decide⟩ [] rfl (by decide +kernel) rfl rfl (Nat.le_of_ble_eq_true rfl) ⟨by decide, by decide⟩ ?_
  refine g_if_ne_f (tgt := 18) F dX5_wind_9 (by decide) (fun q => q h0) ?_
  refine g_aload_n F dX5_wind_12 rfl 0 rfl ?_
  refine g_iconst (v := 1) F dX5_wind_13 (by decide) ?_
  refine g_callV (ws' := [(y, .inr (5, [.int 1, .ref y1, .int col, .int car, .int tur, .int pre, .ref y2, .int mb, .ref y3, .ref y4, .ref y5, .int off, .ref y6, .ref y7, .int wov, .int km, .int ko, .ref y8, .ref y9]))]) F dX5_wind_14 (c_X5_no E y y1 y2 y3 y4 y5 y6 y7 y8 y9 0 col car tur pre mb off wov km ko 1 ) rfl gX5_wind_X5_no 0 rfl rfl kV_X5_no ⟨by decide, by decide⟩ [0] rfl (by decide +kernel) rfl rfl (Nat.le_of_ble_eq_true rfl) ⟨by decide, by decide⟩ ?_
  exact g_iret F hQ dX5_wind_17 (rfl) (rfl)

set_option maxHeartbeats 4000000 in
set_option maxRecDepth 100000 in
theorem c_X5_wind_2 (E : gE) (y : Nat) (y1 : Nat) (y2 : Nat) (y3 : Nat) (y4 : Nat) (y5 : Nat) (y6 : Nat) (y7 : Nat) (y8 : Nat) (y9 : Nat) (thr : Int32) (col : Int32) (car : Int32) (tur : Int32) (pre : Int32) (mb : Int32) (off : Int32) (wov : Int32) (km : Int32) (ko : Int32) (c : Int32) (n : Int32) (h0 : ¬ mIn c 0 5 = 0) (h1 : mIn n 1 99 = 0) : Ct E yX5_wind wsX5_wind ({ frames := 2, cells := 0, slots := 0, locals := 42 }) [.ref y, .int c, .int n] [(y, .inr (5, [.int thr, .ref y1, .int col, .int car, .int tur, .int pre, .ref y2, .int mb, .ref y3, .ref y4, .ref y5, .int off, .ref y6, .ref y7, .int wov, .int km, .int ko, .ref y8, .ref y9]))] (some (.int 0)) [(y, .inr (5, [.int 2, .ref y1, .int col, .int car, .int tur, .int pre, .ref y2, .int mb, .ref y3, .ref y4, .ref y5, .int off, .ref y6, .ref y7, .int wov, .int km, .int ko, .ref y8, .ref y9]))] := by
  refine Ct.of (cc := cX5_wind) (maxL := 3) (ret := (some .int)) (own := RX5) (L := [(0, .ref y), (1, .int c), (2, .int n)]) (by decide) rfl rfl rfl (Nat.le_of_ble_eq_true rfl) rfl ?_
  intro X F hQ
  have i5 : ∀ w ∈ u_ws RX5 TX5 19, w ∈ wsX5_wind := gsub [18, 19, 20, 21, 22, 23, 24, 25, 26, 27, 28, 29, 30, 31, 32, 33, 34, 35, 36] rfl
  refine g_aload_n F dX5_wind_0 rfl 0 rfl ?_
  refine g_iconst (v := 0) F dX5_wind_1 (by decide) ?_
  refine g_put (ws' := [(y, .inr (5, [.int 0, .ref y1, .int col, .int car, .int tur, .int pre, .ref y2, .int mb, .ref y3, .ref y4, .ref y5, .int off, .ref y6, .ref y7, .int wov, .int km, .int ko, .ref y8, .ref y9]))]) F dX5_wind_2 0 rfl rfl i5 tyX5 tyX5_ok nmX5 0 (by decide) rfl (rfl) (rfl) (Nat.le_of_ble_eq_true rfl) (List.mem_of_getElem? (i := 1) rfl) rfl ?_
  refine g_iload_n F dX5_wind_5 rfl 1 rfl ?_
  refine g_callS (ws' := [(y, .inr (5, [.int 0, .ref y1, .int col, .int car, .int tur, .int pre, .ref y2, .int mb, .ref y3, .ref y4, .ref y5, .int off, .ref y6, .ref y7, .int wov, .int km, .int ko, .ref y8, .ref y9]))]) F dX5_wind_6 (c_X5_isSpool E c ) rfl gX5_wind_X5_isSpool kS_X5_isSpool ⟨by decide, by decide⟩ [] rfl (by decide +kernel) rfl rfl (Nat.le_of_ble_eq_true rfl) ⟨by decide, by decide⟩ ?_
  refine g_if_ne_t (tgt := 18) F dX5_wind_9 (by decide) (h0) ?_
  refine g_iload_n F dX5_wind_18 rfl 2 rfl ?_
  refine g_iconst (v := 1) F dX5_wind_19 (by decide) ?_
  refine g_bipush (v := 99) F dX5_wind_20 (by decide) ?_
  refine g_callS (ws' := [(y, .inr (5, [.int 0, .ref y1, .int col, .int car, .int tur, .int pre, .ref y2, .int mb, .ref y3, .ref y4, .ref y5, .int off, .ref y6, .ref y7, .int wov, .int km, .int ko, .ref y8, .ref y9]))]) F dX5_wind_22 (c_X5_isIn E n 1 99 ) rfl gX5_wind_X5_isIn kS_X5_isIn ⟨by decide, by decide⟩ [] rfl (by decide +kernel) rfl rfl (Nat.le_of_ble_eq_true rfl) ⟨by decide, by decide⟩ ?_
  refine g_if_ne_f (tgt := 34) F dX5_wind_25 (by decide) (fun q => q h1) ?_
  refine g_aload_n F dX5_wind_28 rfl 0 rfl ?_
  refine g_iconst (v := 2) F dX5_wind_29 (by decide) ?_
  refine g_callV (ws' := [(y, .inr (5, [.int 2, .ref y1, .int col, .int car, .int tur, .int pre, .ref y2, .int mb, .ref y3, .ref y4, .ref y5, .int off, .ref y6, .ref y7, .int wov, .int km, .int ko, .ref y8, .ref y9]))]) F dX5_wind_30 (c_X5_no E y y1 y2 y3 y4 y5 y6 y7 y8 y9 0 col car tur pre mb off wov km ko 2 ) rfl gX5_wind_X5_no 0 rfl rfl kV_X5_no ⟨by decide, by decide⟩ [0] rfl (by decide +kernel) rfl rfl (Nat.le_of_ble_eq_true rfl) ⟨by decide, by decide⟩ ?_
  exact g_iret F hQ dX5_wind_33 (rfl) (rfl)

set_option maxHeartbeats 4000000 in
set_option maxRecDepth 100000 in
theorem c_X5_shade (E : gE) (y : Nat) (y1 : Nat) (y2 : Nat) (y3 : Nat) (y4 : Nat) (y5 : Nat) (y6 : Nat) (y7 : Nat) (y8 : Nat) (y9 : Nat) (f : AF) (thr : Int32) (col : Int32) (car : Int32) (tur : Int32) (pre : Int32) (mb : Int32) (off : Int32) (wov : Int32) (km : Int32) (ko : Int32) (a : Nat) (b : Nat) (ha : a < 12) (hb : b < 8) : Ct E yX5_shade wsX5_shade ({ frames := 2, cells := 0, slots := 0, locals := 42 }) [.ref y, .int (nI a), .int (nI b)] [(y, .inr (5, [.int thr, .ref y1, .int col, .int car, .int tur, .int pre, .ref y2, .int mb, .ref y3, .ref y4, .ref y5, .int off, .ref y6, .ref y7, .int wov, .int km, .int ko, .ref y8, .ref y9])), (y1, .inl (E.2.2, 96, .inl f))] (some (.int (f (12 * b + a)))) [(y, .inr (5, [.int 0, .ref y1, .int col, .int car, .int tur, .int pre, .ref y2, .int mb, .ref y3, .ref y4, .ref y5, .int off, .ref y6, .ref y7, .int wov, .int km, .int ko, .ref y8, .ref y9])), (y1, .inl (E.2.2, 96, .inl f))] := by
  refine Ct.of (cc := cX5_shade) (maxL := 3) (ret := (some .int)) (own := RX5) (L := [(0, .ref y), (1, .int (nI a)), (2, .int (nI b))]) (by decide) rfl rfl rfl (Nat.le_of_ble_eq_true rfl) rfl ?_
  intro X F hQ
  have i5 : ∀ w ∈ u_ws RX5 TX5 19, w ∈ wsX5_shade := gsub [20, 21, 22, 23, 24, 25, 26, 27, 28, 29, 30, 31, 32, 33, 34, 35, 36, 37, 38] rfl
  refine g_aload_n F dX5_shade_0 rfl 0 rfl ?_
  refine g_iconst (v := 0) F dX5_shade_1 (by decide) ?_
  refine g_put (ws' := [(y, .inr (5, [.int 0, .ref y1, .int col, .int car, .int tur, .int pre, .ref y2, .int mb, .ref y3, .ref y4, .ref y5, .int off, .ref y6, .ref y7, .int wov, .int km, .int ko, .ref y8, .ref y9])), (y1, .inl (E.2.2, 96, .inl f))]) F dX5_shade_2 0 rfl rfl i5 tyX5 tyX5_ok nmX5 0 (by decide) rfl (rfl) (rfl) (Nat.le_of_ble_eq_true rfl) (List.mem_of_getElem? (i := 1) rfl) rfl ?_
  refine g_iload_n F dX5_shade_5 rfl 1 rfl ?_
  refine g_callS (ws' := [(y, .inr (5, [.int 0, .ref y1, .int col, .int car, .int tur, .int pre, .ref y2, .int mb, .ref y3, .ref y4, .ref y5, .int off, .ref y6, .ref y7, .int wov, .int km, .int ko, .ref y8, .ref y9])), (y1, .inl (E.2.2, 96, .inl f))]) F dX5_shade_6 (c_X5_isX E (nI a) ) rfl gX5_shade_X5_isX kS_X5_isX ⟨by decide, by decide⟩ [] rfl (by decide +kernel) rfl rfl (Nat.le_of_ble_eq_true rfl) ⟨by decide, by decide⟩ ?_
  refine g_topr (y := 1) (mIn_nI (n := 11) (by omega) (by omega)) ?_
  refine g_if_eq_f (tgt := 32) F dX5_shade_9 (by decide) (by decide) ?_
  refine g_iload_n F dX5_shade_12 rfl 2 rfl ?_
  refine g_callS (ws' := [(y, .inr (5, [.int 0, .ref y1, .int col, .int car, .int tur, .int pre, .ref y2, .int mb, .ref y3, .ref y4, .ref y5, .int off, .ref y6, .ref y7, .int wov, .int km, .int ko, .ref y8, .ref y9])), (y1, .inl (E.2.2, 96, .inl f))]) F dX5_shade_13 (c_X5_isY E (nI b) ) rfl gX5_shade_X5_isY kS_X5_isY ⟨by decide, by decide⟩ [] rfl (by decide +kernel) rfl rfl (Nat.le_of_ble_eq_true rfl) ⟨by decide, by decide⟩ ?_
  refine g_topr (y := 1) (mIn_nI (n := 7) (by omega) (by omega)) ?_
  refine g_if_eq_f (tgt := 32) F dX5_shade_16 (by decide) (by decide) ?_
  refine g_aload_n F dX5_shade_19 rfl 0 rfl ?_
  refine g_get F dX5_shade_20 0 rfl rfl i5 1 (by decide) rfl (List.mem_of_getElem? (i := 2) rfl) ?_
  refine g_iload_n F dX5_shade_23 rfl 1 rfl ?_
  refine g_iload_n F dX5_shade_24 rfl 2 rfl ?_
  refine g_callS (ws' := [(y, .inr (5, [.int 0, .ref y1, .int col, .int car, .int tur, .int pre, .ref y2, .int mb, .ref y3, .ref y4, .ref y5, .int off, .ref y6, .ref y7, .int wov, .int km, .int ko, .ref y8, .ref y9])), (y1, .inl (E.2.2, 96, .inl f))]) F dX5_shade_25 (c_X5_at E (nI a) (nI b) ) rfl gX5_shade_X5_at kS_X5_at ⟨by decide, by decide⟩ [] rfl (by decide +kernel) rfl rfl (Nat.le_of_ble_eq_true rfl) ⟨by decide, by decide⟩ ?_
  refine g_topr (y := nI (12 * b + a)) (by rw [show (12 : Int32) = nI 12 from rfl, pk_mul, nI_add]) ?_
  refine g_ialdN (k := 12 * b + a) F dX5_shade_28 1 rfl (by omega) (by first | decide | omega) ?_
  refine g_goto (tgt := 37) F dX5_shade_29 (by decide) ?_
  exact g_iret F hQ dX5_shade_37 (rfl) (rfl)

set_option maxHeartbeats 4000000 in
set_option maxRecDepth 100000 in
theorem c_X5_shade_1 (E : gE) (y : Nat) (y1 : Nat) (y2 : Nat) (y3 : Nat) (y4 : Nat) (y5 : Nat) (y6 : Nat) (y7 : Nat) (y8 : Nat) (y9 : Nat) (f : AF) (thr : Int32) (col : Int32) (car : Int32) (tur : Int32) (pre : Int32) (mb : Int32) (off : Int32) (wov : Int32) (km : Int32) (ko : Int32) (a : Int32) (b : Int32) (h : mIn a 0 11 = 0 ∨ mIn b 0 7 = 0) : Ct E yX5_shade wsX5_shade ({ frames := 2, cells := 0, slots := 0, locals := 42 }) [.ref y, .int a, .int b] [(y, .inr (5, [.int thr, .ref y1, .int col, .int car, .int tur, .int pre, .ref y2, .int mb, .ref y3, .ref y4, .ref y5, .int off, .ref y6, .ref y7, .int wov, .int km, .int ko, .ref y8, .ref y9])), (y1, .inl (E.2.2, 96, .inl f))] (some (.int 0)) [(y, .inr (5, [.int 1, .ref y1, .int col, .int car, .int tur, .int pre, .ref y2, .int mb, .ref y3, .ref y4, .ref y5, .int off, .ref y6, .ref y7, .int wov, .int km, .int ko, .ref y8, .ref y9])), (y1, .inl (E.2.2, 96, .inl f))] := by
  refine Ct.of (cc := cX5_shade) (maxL := 3) (ret := (some .int)) (own := RX5) (L := [(0, .ref y), (1, .int a), (2, .int b)]) (by decide) rfl rfl rfl (Nat.le_of_ble_eq_true rfl) rfl ?_
  intro X F hQ
  have i5 : ∀ w ∈ u_ws RX5 TX5 19, w ∈ wsX5_shade := gsub [20, 21, 22, 23, 24, 25, 26, 27, 28, 29, 30, 31, 32, 33, 34, 35, 36, 37, 38] rfl
  refine g_aload_n F dX5_shade_0 rfl 0 rfl ?_
  refine g_iconst (v := 0) F dX5_shade_1 (by decide) ?_
  refine g_put (ws' := [(y, .inr (5, [.int 0, .ref y1, .int col, .int car, .int tur, .int pre, .ref y2, .int mb, .ref y3, .ref y4, .ref y5, .int off, .ref y6, .ref y7, .int wov, .int km, .int ko, .ref y8, .ref y9])), (y1, .inl (E.2.2, 96, .inl f))]) F dX5_shade_2 0 rfl rfl i5 tyX5 tyX5_ok nmX5 0 (by decide) rfl (rfl) (rfl) (Nat.le_of_ble_eq_true rfl) (List.mem_of_getElem? (i := 1) rfl) rfl ?_
  refine g_iload_n F dX5_shade_5 rfl 1 rfl ?_
  refine g_callS (ws' := [(y, .inr (5, [.int 0, .ref y1, .int col, .int car, .int tur, .int pre, .ref y2, .int mb, .ref y3, .ref y4, .ref y5, .int off, .ref y6, .ref y7, .int wov, .int km, .int ko, .ref y8, .ref y9])), (y1, .inl (E.2.2, 96, .inl f))]) F dX5_shade_6 (c_X5_isX E a ) rfl gX5_shade_X5_isX kS_X5_isX ⟨by decide, by decide⟩ [] rfl (by decide +kernel) rfl rfl (Nat.le_of_ble_eq_true rfl) ⟨by decide, by decide⟩ ?_
  refine g_if_eq (tgt := 32) F dX5_shade_9 (by decide) (fun k9 => ?_) (fun k9 => ?_)
  · skip
    refine g_aload_n F dX5_shade_32 rfl 0 rfl ?_
    refine g_iconst (v := 1) F dX5_shade_33 (by decide) ?_
    refine g_callV (ws' := [(y, .inr (5, [.int 1, .ref y1, .int col, .int car, .int tur, .int pre, .ref y2, .int mb, .ref y3, .ref y4, .ref y5, .int off, .ref y6, .ref y7, .int wov, .int km, .int ko, .ref y8, .ref y9])), (y1, .inl (E.2.2, 96, .inl f))]) F dX5_shade_34 (c_X5_no E y y1 y2 y3 y4 y5 y6 y7 y8 y9 0 col car tur pre mb off wov km ko 1 ) rfl gX5_shade_X5_no 0 rfl rfl kV_X5_no ⟨by decide, by decide⟩ [0] rfl (by decide +kernel) rfl rfl (Nat.le_of_ble_eq_true rfl) ⟨by decide, by decide⟩ ?_
    exact g_iret F hQ dX5_shade_37 (rfl) (rfl)
  · skip
    refine g_iload_n F dX5_shade_12 rfl 2 rfl ?_
    refine g_callS (ws' := [(y, .inr (5, [.int 0, .ref y1, .int col, .int car, .int tur, .int pre, .ref y2, .int mb, .ref y3, .ref y4, .ref y5, .int off, .ref y6, .ref y7, .int wov, .int km, .int ko, .ref y8, .ref y9])), (y1, .inl (E.2.2, 96, .inl f))]) F dX5_shade_13 (c_X5_isY E b ) rfl gX5_shade_X5_isY kS_X5_isY ⟨by decide, by decide⟩ [] rfl (by decide +kernel) rfl rfl (Nat.le_of_ble_eq_true rfl) ⟨by decide, by decide⟩ ?_
    refine g_if_eq_t (tgt := 32) F dX5_shade_16 (by decide) (h.resolve_left k9) ?_
    refine g_aload_n F dX5_shade_32 rfl 0 rfl ?_
    refine g_iconst (v := 1) F dX5_shade_33 (by decide) ?_
    refine g_callV (ws' := [(y, .inr (5, [.int 1, .ref y1, .int col, .int car, .int tur, .int pre, .ref y2, .int mb, .ref y3, .ref y4, .ref y5, .int off, .ref y6, .ref y7, .int wov, .int km, .int ko, .ref y8, .ref y9])), (y1, .inl (E.2.2, 96, .inl f))]) F dX5_shade_34 (c_X5_no E y y1 y2 y3 y4 y5 y6 y7 y8 y9 0 col car tur pre mb off wov km ko 1 ) rfl gX5_shade_X5_no 0 rfl rfl kV_X5_no ⟨by decide, by decide⟩ [0] rfl (by decide +kernel) rfl rfl (Nat.le_of_ble_eq_true rfl) ⟨by decide, by decide⟩ ?_
    exact g_iret F hQ dX5_shade_37 (rfl) (rfl)

set_option maxHeartbeats 4000000 in
set_option maxRecDepth 100000 in
theorem c_X5_cell (E : gE) (y : Nat) (y1 : Nat) (y2 : Nat) (y3 : Nat) (y4 : Nat) (y5 : Nat) (y6 : Nat) (y7 : Nat) (y8 : Nat) (y9 : Nat) (kk : AF) (thr : Int32) (col : Int32) (car : Int32) (tur : Int32) (pre : Int32) (mb : Int32) (off : Int32) (wov : Int32) (km : Int32) (ko : Int32) (a : Nat) (b : Nat) (ha : a < 12) (hb : b < 8) (hw : ¬ wov ≤ 0) : Ct E yX5_cell wsX5_cell ({ frames := 2, cells := 0, slots := 0, locals := 42 }) [.ref y, .int (nI a), .int (nI b)] [(y, .inr (5, [.int thr, .ref y1, .int col, .int car, .int tur, .int pre, .ref y2, .int mb, .ref y3, .ref y4, .ref y5, .int off, .ref y6, .ref y7, .int wov, .int km, .int ko, .ref y8, .ref y9])), (y9, .inl (E.2.2, 96, .inl kk))] (some (.int (kk (12 * b + a)))) [(y, .inr (5, [.int 0, .ref y1, .int col, .int car, .int tur, .int pre, .ref y2, .int mb, .ref y3, .ref y4, .ref y5, .int off, .ref y6, .ref y7, .int wov, .int km, .int ko, .ref y8, .ref y9])), (y9, .inl (E.2.2, 96, .inl kk))] := by
  refine Ct.of (cc := cX5_cell) (maxL := 3) (ret := (some .int)) (own := RX5) (L := [(0, .ref y), (1, .int (nI a)), (2, .int (nI b))]) (by decide) rfl rfl rfl (Nat.le_of_ble_eq_true rfl) rfl ?_
  intro X F hQ
  have i5 : ∀ w ∈ u_ws RX5 TX5 19, w ∈ wsX5_cell := gsub [21, 22, 23, 24, 25, 26, 27, 28, 29, 30, 31, 32, 33, 34, 35, 36, 37, 38, 39] rfl
  refine g_aload_n F dX5_cell_0 rfl 0 rfl ?_
  refine g_iconst (v := 0) F dX5_cell_1 (by decide) ?_
  refine g_put (ws' := [(y, .inr (5, [.int 0, .ref y1, .int col, .int car, .int tur, .int pre, .ref y2, .int mb, .ref y3, .ref y4, .ref y5, .int off, .ref y6, .ref y7, .int wov, .int km, .int ko, .ref y8, .ref y9])), (y9, .inl (E.2.2, 96, .inl kk))]) F dX5_cell_2 0 rfl rfl i5 tyX5 tyX5_ok nmX5 0 (by decide) rfl (rfl) (rfl) (Nat.le_of_ble_eq_true rfl) (List.mem_of_getElem? (i := 1) rfl) rfl ?_
  refine g_iload_n F dX5_cell_5 rfl 1 rfl ?_
  refine g_callS (ws' := [(y, .inr (5, [.int 0, .ref y1, .int col, .int car, .int tur, .int pre, .ref y2, .int mb, .ref y3, .ref y4, .ref y5, .int off, .ref y6, .ref y7, .int wov, .int km, .int ko, .ref y8, .ref y9])), (y9, .inl (E.2.2, 96, .inl kk))]) F dX5_cell_6 (c_X5_isX E (nI a) ) rfl gX5_cell_X5_isX kS_X5_isX ⟨by decide, by decide⟩ [] rfl (by decide +kernel) rfl rfl (Nat.le_of_ble_eq_true rfl) ⟨by decide, by decide⟩ ?_
  refine g_topr (y := 1) (mIn_nI (n := 11) (by omega) (by omega)) ?_
  refine g_if_eq_f (tgt := 19) F dX5_cell_9 (by decide) (by decide) ?_
  refine g_iload_n F dX5_cell_12 rfl 2 rfl ?_
  refine g_callS (ws' := [(y, .inr (5, [.int 0, .ref y1, .int col, .int car, .int tur, .int pre, .ref y2, .int mb, .ref y3, .ref y4, .ref y5, .int off, .ref y6, .ref y7, .int wov, .int km, .int ko, .ref y8, .ref y9])), (y9, .inl (E.2.2, 96, .inl kk))]) F dX5_cell_13 (c_X5_isY E (nI b) ) rfl gX5_cell_X5_isY kS_X5_isY ⟨by decide, by decide⟩ [] rfl (by decide +kernel) rfl rfl (Nat.le_of_ble_eq_true rfl) ⟨by decide, by decide⟩ ?_
  refine g_topr (y := 1) (mIn_nI (n := 7) (by omega) (by omega)) ?_
  refine g_if_ne_t (tgt := 25) F dX5_cell_16 (by decide) (by decide) ?_
  refine g_aload_n F dX5_cell_25 rfl 0 rfl ?_
  refine g_get F dX5_cell_26 0 rfl rfl i5 14 (by decide) rfl (List.mem_of_getElem? (i := 2) rfl) ?_
  refine g_if_le_f (tgt := 45) F dX5_cell_29 (by decide) (hw) ?_
  refine g_aload_n F dX5_cell_32 rfl 0 rfl ?_
  refine g_get F dX5_cell_33 0 rfl rfl i5 18 (by decide) rfl (List.mem_of_getElem? (i := 3) rfl) ?_
  refine g_iload_n F dX5_cell_36 rfl 1 rfl ?_
  refine g_iload_n F dX5_cell_37 rfl 2 rfl ?_
  refine g_callS (ws' := [(y, .inr (5, [.int 0, .ref y1, .int col, .int car, .int tur, .int pre, .ref y2, .int mb, .ref y3, .ref y4, .ref y5, .int off, .ref y6, .ref y7, .int wov, .int km, .int ko, .ref y8, .ref y9])), (y9, .inl (E.2.2, 96, .inl kk))]) F dX5_cell_38 (c_X5_at E (nI a) (nI b) ) rfl gX5_cell_X5_at kS_X5_at ⟨by decide, by decide⟩ [] rfl (by decide +kernel) rfl rfl (Nat.le_of_ble_eq_true rfl) ⟨by decide, by decide⟩ ?_
  refine g_topr (y := nI (12 * b + a)) (by rw [show (12 : Int32) = nI 12 from rfl, pk_mul, nI_add]) ?_
  refine g_ialdN (k := 12 * b + a) F dX5_cell_41 1 rfl (by omega) (by first | decide | omega) ?_
  refine g_goto (tgt := 50) F dX5_cell_42 (by decide) ?_
  exact g_iret F hQ dX5_cell_50 (rfl) (rfl)

set_option maxHeartbeats 4000000 in
set_option maxRecDepth 100000 in
theorem c_X5_cell_1 (E : gE) (y : Nat) (y1 : Nat) (y2 : Nat) (y3 : Nat) (y4 : Nat) (y5 : Nat) (y6 : Nat) (y7 : Nat) (y8 : Nat) (y9 : Nat) (thr : Int32) (col : Int32) (car : Int32) (tur : Int32) (pre : Int32) (mb : Int32) (off : Int32) (wov : Int32) (km : Int32) (ko : Int32) (a : Int32) (b : Int32) (h : mIn a 0 11 = 0 ∨ mIn b 0 7 = 0) : Ct E yX5_cell wsX5_cell ({ frames := 2, cells := 0, slots := 0, locals := 42 }) [.ref y, .int a, .int b] [(y, .inr (5, [.int thr, .ref y1, .int col, .int car, .int tur, .int pre, .ref y2, .int mb, .ref y3, .ref y4, .ref y5, .int off, .ref y6, .ref y7, .int wov, .int km, .int ko, .ref y8, .ref y9]))] (some (.int 0)) [(y, .inr (5, [.int 1, .ref y1, .int col, .int car, .int tur, .int pre, .ref y2, .int mb, .ref y3, .ref y4, .ref y5, .int off, .ref y6, .ref y7, .int wov, .int km, .int ko, .ref y8, .ref y9]))] := by
  refine Ct.of (cc := cX5_cell) (maxL := 3) (ret := (some .int)) (own := RX5) (L := [(0, .ref y), (1, .int a), (2, .int b)]) (by decide) rfl rfl rfl (Nat.le_of_ble_eq_true rfl) rfl ?_
  intro X F hQ
  have i5 : ∀ w ∈ u_ws RX5 TX5 19, w ∈ wsX5_cell := gsub [21, 22, 23, 24, 25, 26, 27, 28, 29, 30, 31, 32, 33, 34, 35, 36, 37, 38, 39] rfl
  refine g_aload_n F dX5_cell_0 rfl 0 rfl ?_
  refine g_iconst (v := 0) F dX5_cell_1 (by decide) ?_
  refine g_put (ws' := [(y, .inr (5, [.int 0, .ref y1, .int col, .int car, .int tur, .int pre, .ref y2, .int mb, .ref y3, .ref y4, .ref y5, .int off, .ref y6, .ref y7, .int wov, .int km, .int ko, .ref y8, .ref y9]))]) F dX5_cell_2 0 rfl rfl i5 tyX5 tyX5_ok nmX5 0 (by decide) rfl (rfl) (rfl) (Nat.le_of_ble_eq_true rfl) (List.mem_of_getElem? (i := 1) rfl) rfl ?_
  refine g_iload_n F dX5_cell_5 rfl 1 rfl ?_
  refine g_callS (ws' := [(y, .inr (5, [.int 0, .ref y1, .int col, .int car, .int tur, .int pre, .ref y2, .int mb, .ref y3, .ref y4, .ref y5, .int off, .ref y6, .ref y7, .int wov, .int km, .int ko, .ref y8, .ref y9]))]) F dX5_cell_6 (c_X5_isX E a ) rfl gX5_cell_X5_isX kS_X5_isX ⟨by decide, by decide⟩ [] rfl (by decide +kernel) rfl rfl (Nat.le_of_ble_eq_true rfl) ⟨by decide, by decide⟩ ?_
  refine g_if_eq (tgt := 19) F dX5_cell_9 (by decide) (fun k9 => ?_) (fun k9 => ?_)
  · skip
    refine g_aload_n F dX5_cell_19 rfl 0 rfl ?_
    refine g_iconst (v := 1) F dX5_cell_20 (by decide) ?_
    refine g_callV (ws' := [(y, .inr (5, [.int 1, .ref y1, .int col, .int car, .int tur, .int pre, .ref y2, .int mb, .ref y3, .ref y4, .ref y5, .int off, .ref y6, .ref y7, .int wov, .int km, .int ko, .ref y8, .ref y9]))]) F dX5_cell_21 (c_X5_no E y y1 y2 y3 y4 y5 y6 y7 y8 y9 0 col car tur pre mb off wov km ko 1 ) rfl gX5_cell_X5_no 0 rfl rfl kV_X5_no ⟨by decide, by decide⟩ [0] rfl (by decide +kernel) rfl rfl (Nat.le_of_ble_eq_true rfl) ⟨by decide, by decide⟩ ?_
    exact g_iret F hQ dX5_cell_24 (rfl) (rfl)
  · skip
    refine g_iload_n F dX5_cell_12 rfl 2 rfl ?_
    refine g_callS (ws' := [(y, .inr (5, [.int 0, .ref y1, .int col, .int car, .int tur, .int pre, .ref y2, .int mb, .ref y3, .ref y4, .ref y5, .int off, .ref y6, .ref y7, .int wov, .int km, .int ko, .ref y8, .ref y9]))]) F dX5_cell_13 (c_X5_isY E b ) rfl gX5_cell_X5_isY kS_X5_isY ⟨by decide, by decide⟩ [] rfl (by decide +kernel) rfl rfl (Nat.le_of_ble_eq_true rfl) ⟨by decide, by decide⟩ ?_
    refine g_if_ne_f (tgt := 25) F dX5_cell_16 (by decide) (fun q => q (h.resolve_left k9)) ?_
    refine g_aload_n F dX5_cell_19 rfl 0 rfl ?_
    refine g_iconst (v := 1) F dX5_cell_20 (by decide) ?_
    refine g_callV (ws' := [(y, .inr (5, [.int 1, .ref y1, .int col, .int car, .int tur, .int pre, .ref y2, .int mb, .ref y3, .ref y4, .ref y5, .int off, .ref y6, .ref y7, .int wov, .int km, .int ko, .ref y8, .ref y9]))]) F dX5_cell_21 (c_X5_no E y y1 y2 y3 y4 y5 y6 y7 y8 y9 0 col car tur pre mb off wov km ko 1 ) rfl gX5_cell_X5_no 0 rfl rfl kV_X5_no ⟨by decide, by decide⟩ [0] rfl (by decide +kernel) rfl rfl (Nat.le_of_ble_eq_true rfl) ⟨by decide, by decide⟩ ?_
    exact g_iret F hQ dX5_cell_24 (rfl) (rfl)

set_option maxHeartbeats 4000000 in
set_option maxRecDepth 100000 in
theorem c_X5_cell_2 (E : gE) (y : Nat) (y1 : Nat) (y2 : Nat) (y3 : Nat) (y4 : Nat) (y5 : Nat) (y6 : Nat) (y7 : Nat) (y8 : Nat) (y9 : Nat) (thr : Int32) (col : Int32) (car : Int32) (tur : Int32) (pre : Int32) (mb : Int32) (off : Int32) (wov : Int32) (km : Int32) (ko : Int32) (a : Int32) (b : Int32) (h0 : ¬ mIn a 0 11 = 0) (h1 : ¬ mIn b 0 7 = 0) (hw : wov ≤ 0) : Ct E yX5_cell wsX5_cell ({ frames := 2, cells := 0, slots := 0, locals := 42 }) [.ref y, .int a, .int b] [(y, .inr (5, [.int thr, .ref y1, .int col, .int car, .int tur, .int pre, .ref y2, .int mb, .ref y3, .ref y4, .ref y5, .int off, .ref y6, .ref y7, .int wov, .int km, .int ko, .ref y8, .ref y9]))] (some (.int 0)) [(y, .inr (5, [.int 2, .ref y1, .int col, .int car, .int tur, .int pre, .ref y2, .int mb, .ref y3, .ref y4, .ref y5, .int off, .ref y6, .ref y7, .int wov, .int km, .int ko, .ref y8, .ref y9]))] := by
  refine Ct.of (cc := cX5_cell) (maxL := 3) (ret := (some .int)) (own := RX5) (L := [(0, .ref y), (1, .int a), (2, .int b)]) (by decide) rfl rfl rfl (Nat.le_of_ble_eq_true rfl) rfl ?_
  intro X F hQ
  have i5 : ∀ w ∈ u_ws RX5 TX5 19, w ∈ wsX5_cell := gsub [21, 22, 23, 24, 25, 26, 27, 28, 29, 30, 31, 32, 33, 34, 35, 36, 37, 38, 39] rfl
  refine g_aload_n F dX5_cell_0 rfl 0 rfl ?_
  refine g_iconst (v := 0) F dX5_cell_1 (by decide) ?_
  refine g_put (ws' := [(y, .inr (5, [.int 0, .ref y1, .int col, .int car, .int tur, .int pre, .ref y2, .int mb, .ref y3, .ref y4, .ref y5, .int off, .ref y6, .ref y7, .int wov, .int km, .int ko, .ref y8, .ref y9]))]) F dX5_cell_2 0 rfl rfl i5 tyX5 tyX5_ok nmX5 0 (by decide) rfl (rfl) (rfl) (Nat.le_of_ble_eq_true rfl) (List.mem_of_getElem? (i := 1) rfl) rfl ?_
  refine g_iload_n F dX5_cell_5 rfl 1 rfl ?_
  refine g_callS (ws' := [(y, .inr (5, [.int 0, .ref y1, .int col, .int car, .int tur, .int pre, .ref y2, .int mb, .ref y3, .ref y4, .ref y5, .int off, .ref y6, .ref y7, .int wov, .int km, .int ko, .ref y8, .ref y9]))]) F dX5_cell_6 (c_X5_isX E a ) rfl gX5_cell_X5_isX kS_X5_isX ⟨by decide, by decide⟩ [] rfl (by decide +kernel) rfl rfl (Nat.le_of_ble_eq_true rfl) ⟨by decide, by decide⟩ ?_
  refine g_if_eq_f (tgt := 19) F dX5_cell_9 (by decide) (h0) ?_
  refine g_iload_n F dX5_cell_12 rfl 2 rfl ?_
  refine g_callS (ws' := [(y, .inr (5, [.int 0, .ref y1, .int col, .int car, .int tur, .int pre, .ref y2, .int mb, .ref y3, .ref y4, .ref y5, .int off, .ref y6, .ref y7, .int wov, .int km, .int ko, .ref y8, .ref y9]))]) F dX5_cell_13 (c_X5_isY E b ) rfl gX5_cell_X5_isY kS_X5_isY ⟨by decide, by decide⟩ [] rfl (by decide +kernel) rfl rfl (Nat.le_of_ble_eq_true rfl) ⟨by decide, by decide⟩ ?_
  refine g_if_ne_t (tgt := 25) F dX5_cell_16 (by decide) (h1) ?_
  refine g_aload_n F dX5_cell_25 rfl 0 rfl ?_
  refine g_get F dX5_cell_26 0 rfl rfl i5 14 (by decide) rfl (List.mem_of_getElem? (i := 2) rfl) ?_
  refine g_if_le_t (tgt := 45) F dX5_cell_29 (by decide) (hw) ?_
  refine g_aload_n F dX5_cell_45 rfl 0 rfl ?_
  refine g_iconst (v := 2) F dX5_cell_46 (by decide) ?_
  refine g_callV (ws' := [(y, .inr (5, [.int 2, .ref y1, .int col, .int car, .int tur, .int pre, .ref y2, .int mb, .ref y3, .ref y4, .ref y5, .int off, .ref y6, .ref y7, .int wov, .int km, .int ko, .ref y8, .ref y9]))]) F dX5_cell_47 (c_X5_no E y y1 y2 y3 y4 y5 y6 y7 y8 y9 0 col car tur pre mb off wov km ko 2 ) rfl gX5_cell_X5_no 0 rfl rfl kV_X5_no ⟨by decide, by decide⟩ [0] rfl (by decide +kernel) rfl rfl (Nat.le_of_ble_eq_true rfl) ⟨by decide, by decide⟩ ?_
  exact g_iret F hQ dX5_cell_50 (rfl) (rfl)

set_option maxHeartbeats 4000000 in
set_option maxRecDepth 100000 in
theorem c_X5_knots (E : gE) (y : Nat) (y1 : Nat) (y2 : Nat) (y3 : Nat) (y4 : Nat) (y5 : Nat) (y6 : Nat) (y7 : Nat) (y8 : Nat) (y9 : Nat) (kk : AF) (thr : Int32) (col : Int32) (car : Int32) (tur : Int32) (pre : Int32) (mb : Int32) (off : Int32) (wov : Int32) (km : Int32) (ko : Int32) (r : Nat) (hr : r < 8) (hw : ¬ wov ≤ 0) : Ct E yX5_knots wsX5_knots ({ frames := 4, cells := 0, slots := 0, locals := 89 }) [.ref y, .int (nI r)] [(y, .inr (5, [.int thr, .ref y1, .int col, .int car, .int tur, .int pre, .ref y2, .int mb, .ref y3, .ref y4, .ref y5, .int off, .ref y6, .ref y7, .int wov, .int km, .int ko, .ref y8, .ref y9])), (y9, .inl (E.2.2, 96, .inl kk))] (some (.int (mKn kk pre r))) [(y, .inr (5, [.int 0, .ref y1, .int col, .int car, .int tur, .int pre, .ref y2, .int mb, .ref y3, .ref y4, .ref y5, .int off, .ref y6, .ref y7, .int wov, .int km, .int ko, .ref y8, .ref y9])), (y9, .inl (E.2.2, 96, .inl kk))] := by
  refine Ct.of (cc := cX5_knots) (maxL := 2) (ret := (some .int)) (own := RX5) (L := [(0, .ref y), (1, .int (nI r))]) (by decide) rfl rfl rfl (Nat.le_of_ble_eq_true rfl) rfl ?_
  intro X F hQ
  have i5 : ∀ w ∈ u_ws RX5 TX5 19, w ∈ wsX5_knots := gsub [32, 33, 34, 35, 36, 37, 38, 39, 40, 41, 42, 43, 44, 45, 46, 47, 48, 49, 50] rfl
  refine g_aload_n F dX5_knots_0 rfl 0 rfl ?_
  refine g_iconst (v := 0) F dX5_knots_1 (by decide) ?_
  refine g_put (ws' := [(y, .inr (5, [.int 0, .ref y1, .int col, .int car, .int tur, .int pre, .ref y2, .int mb, .ref y3, .ref y4, .ref y5, .int off, .ref y6, .ref y7, .int wov, .int km, .int ko, .ref y8, .ref y9])), (y9, .inl (E.2.2, 96, .inl kk))]) F dX5_knots_2 0 rfl rfl i5 tyX5 tyX5_ok nmX5 0 (by decide) rfl (rfl) (rfl) (Nat.le_of_ble_eq_true rfl) (List.mem_of_getElem? (i := 1) rfl) rfl ?_
  refine g_iload_n F dX5_knots_5 rfl 1 rfl ?_
  refine g_callS (ws' := [(y, .inr (5, [.int 0, .ref y1, .int col, .int car, .int tur, .int pre, .ref y2, .int mb, .ref y3, .ref y4, .ref y5, .int off, .ref y6, .ref y7, .int wov, .int km, .int ko, .ref y8, .ref y9])), (y9, .inl (E.2.2, 96, .inl kk))]) F dX5_knots_6 (c_X5_isY E (nI r) ) rfl gX5_knots_X5_isY kS_X5_isY ⟨by decide, by decide⟩ [] rfl (by decide +kernel) rfl rfl (Nat.le_of_ble_eq_true rfl) ⟨by decide, by decide⟩ ?_
  refine g_topr (y := 1) (mIn_nI (n := 7) (by omega) (by omega)) ?_
  refine g_if_ne_t (tgt := 18) F dX5_knots_9 (by decide) (by decide) ?_
  refine g_aload_n F dX5_knots_18 rfl 0 rfl ?_
  refine g_get F dX5_knots_19 0 rfl rfl i5 14 (by decide) rfl (List.mem_of_getElem? (i := 2) rfl) ?_
  refine g_if_le_f (tgt := 37) F dX5_knots_22 (by decide) (hw) ?_
  refine g_aload_n F dX5_knots_25 rfl 0 rfl ?_
  refine g_aload_n F dX5_knots_26 rfl 0 rfl ?_
  refine g_get F dX5_knots_27 0 rfl rfl i5 18 (by decide) rfl (List.mem_of_getElem? (i := 3) rfl) ?_
  refine g_iload_n F dX5_knots_30 rfl 1 rfl ?_
  refine g_callV (ws' := [(y, .inr (5, [.int 0, .ref y1, .int col, .int car, .int tur, .int pre, .ref y2, .int mb, .ref y3, .ref y4, .ref y5, .int off, .ref y6, .ref y7, .int wov, .int km, .int ko, .ref y8, .ref y9])), (y9, .inl (E.2.2, 96, .inl kk))]) F dX5_knots_31 (c_X5_knotsOf E y y1 y2 y3 y4 y5 y6 y7 y8 y9 y9 kk 0 col car tur pre mb off wov km ko r (by first | assumption | decide | omega)) rfl gX5_knots_X5_knotsOf 0 rfl rfl kV_X5_knotsOf ⟨by decide, by decide⟩ [0, 1] rfl (by decide +kernel) rfl rfl (Nat.le_of_ble_eq_true rfl) ⟨by decide, by decide⟩ ?_
  refine g_goto (tgt := 42) F dX5_knots_34 (by decide) ?_
  exact g_iret F hQ dX5_knots_42 (rfl) (rfl)

set_option maxHeartbeats 4000000 in
set_option maxRecDepth 100000 in
theorem c_X5_knots_1 (E : gE) (y : Nat) (y1 : Nat) (y2 : Nat) (y3 : Nat) (y4 : Nat) (y5 : Nat) (y6 : Nat) (y7 : Nat) (y8 : Nat) (y9 : Nat) (thr : Int32) (col : Int32) (car : Int32) (tur : Int32) (pre : Int32) (mb : Int32) (off : Int32) (wov : Int32) (km : Int32) (ko : Int32) (r : Int32) (h0 : mIn r 0 7 = 0) : Ct E yX5_knots wsX5_knots ({ frames := 4, cells := 0, slots := 0, locals := 89 }) [.ref y, .int r] [(y, .inr (5, [.int thr, .ref y1, .int col, .int car, .int tur, .int pre, .ref y2, .int mb, .ref y3, .ref y4, .ref y5, .int off, .ref y6, .ref y7, .int wov, .int km, .int ko, .ref y8, .ref y9]))] (some (.int 0)) [(y, .inr (5, [.int 1, .ref y1, .int col, .int car, .int tur, .int pre, .ref y2, .int mb, .ref y3, .ref y4, .ref y5, .int off, .ref y6, .ref y7, .int wov, .int km, .int ko, .ref y8, .ref y9]))] := by
  refine Ct.of (cc := cX5_knots) (maxL := 2) (ret := (some .int)) (own := RX5) (L := [(0, .ref y), (1, .int r)]) (by decide) rfl rfl rfl (Nat.le_of_ble_eq_true rfl) rfl ?_
  intro X F hQ
  have i5 : ∀ w ∈ u_ws RX5 TX5 19, w ∈ wsX5_knots := gsub [32, 33, 34, 35, 36, 37, 38, 39, 40, 41, 42, 43, 44, 45, 46, 47, 48, 49, 50] rfl
  refine g_aload_n F dX5_knots_0 rfl 0 rfl ?_
  refine g_iconst (v := 0) F dX5_knots_1 (by decide) ?_
  refine g_put (ws' := [(y, .inr (5, [.int 0, .ref y1, .int col, .int car, .int tur, .int pre, .ref y2, .int mb, .ref y3, .ref y4, .ref y5, .int off, .ref y6, .ref y7, .int wov, .int km, .int ko, .ref y8, .ref y9]))]) F dX5_knots_2 0 rfl rfl i5 tyX5 tyX5_ok nmX5 0 (by decide) rfl (rfl) (rfl) (Nat.le_of_ble_eq_true rfl) (List.mem_of_getElem? (i := 1) rfl) rfl ?_
  refine g_iload_n F dX5_knots_5 rfl 1 rfl ?_
  refine g_callS (ws' := [(y, .inr (5, [.int 0, .ref y1, .int col, .int car, .int tur, .int pre, .ref y2, .int mb, .ref y3, .ref y4, .ref y5, .int off, .ref y6, .ref y7, .int wov, .int km, .int ko, .ref y8, .ref y9]))]) F dX5_knots_6 (c_X5_isY E r ) rfl gX5_knots_X5_isY kS_X5_isY ⟨by decide, by decide⟩ [] rfl (by decide +kernel) rfl rfl (Nat.le_of_ble_eq_true rfl) ⟨by decide, by decide⟩ ?_
  refine g_if_ne_f (tgt := 18) F dX5_knots_9 (by decide) (fun q => q h0) ?_
  refine g_aload_n F dX5_knots_12 rfl 0 rfl ?_
  refine g_iconst (v := 1) F dX5_knots_13 (by decide) ?_
  refine g_callV (ws' := [(y, .inr (5, [.int 1, .ref y1, .int col, .int car, .int tur, .int pre, .ref y2, .int mb, .ref y3, .ref y4, .ref y5, .int off, .ref y6, .ref y7, .int wov, .int km, .int ko, .ref y8, .ref y9]))]) F dX5_knots_14 (c_X5_no E y y1 y2 y3 y4 y5 y6 y7 y8 y9 0 col car tur pre mb off wov km ko 1 ) rfl gX5_knots_X5_no 0 rfl rfl kV_X5_no ⟨by decide, by decide⟩ [0] rfl (by decide +kernel) rfl rfl (Nat.le_of_ble_eq_true rfl) ⟨by decide, by decide⟩ ?_
  exact g_iret F hQ dX5_knots_17 (rfl) (rfl)

set_option maxHeartbeats 4000000 in
set_option maxRecDepth 100000 in
theorem c_X5_knots_2 (E : gE) (y : Nat) (y1 : Nat) (y2 : Nat) (y3 : Nat) (y4 : Nat) (y5 : Nat) (y6 : Nat) (y7 : Nat) (y8 : Nat) (y9 : Nat) (thr : Int32) (col : Int32) (car : Int32) (tur : Int32) (pre : Int32) (mb : Int32) (off : Int32) (wov : Int32) (km : Int32) (ko : Int32) (r : Int32) (h0 : ¬ mIn r 0 7 = 0) (hw : wov ≤ 0) : Ct E yX5_knots wsX5_knots ({ frames := 4, cells := 0, slots := 0, locals := 89 }) [.ref y, .int r] [(y, .inr (5, [.int thr, .ref y1, .int col, .int car, .int tur, .int pre, .ref y2, .int mb, .ref y3, .ref y4, .ref y5, .int off, .ref y6, .ref y7, .int wov, .int km, .int ko, .ref y8, .ref y9]))] (some (.int 0)) [(y, .inr (5, [.int 2, .ref y1, .int col, .int car, .int tur, .int pre, .ref y2, .int mb, .ref y3, .ref y4, .ref y5, .int off, .ref y6, .ref y7, .int wov, .int km, .int ko, .ref y8, .ref y9]))] := by
  refine Ct.of (cc := cX5_knots) (maxL := 2) (ret := (some .int)) (own := RX5) (L := [(0, .ref y), (1, .int r)]) (by decide) rfl rfl rfl (Nat.le_of_ble_eq_true rfl) rfl ?_
  intro X F hQ
  have i5 : ∀ w ∈ u_ws RX5 TX5 19, w ∈ wsX5_knots := gsub [32, 33, 34, 35, 36, 37, 38, 39, 40, 41, 42, 43, 44, 45, 46, 47, 48, 49, 50] rfl
  refine g_aload_n F dX5_knots_0 rfl 0 rfl ?_
  refine g_iconst (v := 0) F dX5_knots_1 (by decide) ?_
  refine g_put (ws' := [(y, .inr (5, [.int 0, .ref y1, .int col, .int car, .int tur, .int pre, .ref y2, .int mb, .ref y3, .ref y4, .ref y5, .int off, .ref y6, .ref y7, .int wov, .int km, .int ko, .ref y8, .ref y9]))]) F dX5_knots_2 0 rfl rfl i5 tyX5 tyX5_ok nmX5 0 (by decide) rfl (rfl) (rfl) (Nat.le_of_ble_eq_true rfl) (List.mem_of_getElem? (i := 1) rfl) rfl ?_
  refine g_iload_n F dX5_knots_5 rfl 1 rfl ?_
  refine g_callS (ws' := [(y, .inr (5, [.int 0, .ref y1, .int col, .int car, .int tur, .int pre, .ref y2, .int mb, .ref y3, .ref y4, .ref y5, .int off, .ref y6, .ref y7, .int wov, .int km, .int ko, .ref y8, .ref y9]))]) F dX5_knots_6 (c_X5_isY E r ) rfl gX5_knots_X5_isY kS_X5_isY ⟨by decide, by decide⟩ [] rfl (by decide +kernel) rfl rfl (Nat.le_of_ble_eq_true rfl) ⟨by decide, by decide⟩ ?_
  refine g_if_ne_t (tgt := 18) F dX5_knots_9 (by decide) (h0) ?_
  refine g_aload_n F dX5_knots_18 rfl 0 rfl ?_
  refine g_get F dX5_knots_19 0 rfl rfl i5 14 (by decide) rfl (List.mem_of_getElem? (i := 2) rfl) ?_
  refine g_if_le_t (tgt := 37) F dX5_knots_22 (by decide) (hw) ?_
  refine g_aload_n F dX5_knots_37 rfl 0 rfl ?_
  refine g_iconst (v := 2) F dX5_knots_38 (by decide) ?_
  refine g_callV (ws' := [(y, .inr (5, [.int 2, .ref y1, .int col, .int car, .int tur, .int pre, .ref y2, .int mb, .ref y3, .ref y4, .ref y5, .int off, .ref y6, .ref y7, .int wov, .int km, .int ko, .ref y8, .ref y9]))]) F dX5_knots_39 (c_X5_no E y y1 y2 y3 y4 y5 y6 y7 y8 y9 0 col car tur pre mb off wov km ko 2 ) rfl gX5_knots_X5_no 0 rfl rfl kV_X5_no ⟨by decide, by decide⟩ [0] rfl (by decide +kernel) rfl rfl (Nat.le_of_ble_eq_true rfl) ⟨by decide, by decide⟩ ?_
  exact g_iret F hQ dX5_knots_42 (rfl) (rfl)

set_option maxHeartbeats 4000000 in
set_option maxRecDepth 100000 in
theorem c_X5_paletteTold (E : gE) (y : Nat) (y1 : Nat) (y2 : Nat) (y3 : Nat) (y4 : Nat) (y5 : Nat) (y6 : Nat) (y7 : Nat) (y8 : Nat) (y9 : Nat) (f : AF) (th : AF) (pa : AF) (so : AF) (cl : AF) (he : AF) (be : AF) (kp : AF) (kk : AF) (thr : Int32) (car : Int32) (tur : Int32) (pre : Int32) (mb : Int32) (off : Int32) (wov : Int32) (km : Int32) (ko : Int32) (c : Nat) (m : Nat) (hc : c < 6) (h2 : 2 ≤ m) (h6 : m ≤ 6) : Ct E yX5_paletteTold wsX5_paletteTold ({ frames := 2, cells := 1, slots := 7, locals := 51 }) [.ref y, .int (nI c)] [(y, .inr (5, [.int thr, .ref y1, .int (nI m), .int car, .int tur, .int pre, .ref y2, .int mb, .ref y3, .ref y4, .ref y5, .int off, .ref y6, .ref y7, .int wov, .int km, .int ko, .ref y8, .ref y9])), (y1, .inl (E.2.2, 96, .inl f)), (y2, .inl (E.2.2, 6, .inl th)), (y3, .inl (E.2.2, 6, .inl pa)), (y4, .inl (E.2.2, 96, .inl so)), (y5, .inl (E.2.2, 96, .inl cl)), (y6, .inl (E.2.2, 12, .inl he)), (y7, .inl (E.2.2, 12, .inl be)), (y8, .inl (E.2.2, 6, .inl kp)), (y9, .inl (E.2.2, 96, .inl kk))] (some (.int (if nI (mFit f so m).2 ≤ nI c then (-1) else mPal f so pa m c))) [(y, .inr (5, [.int thr, .ref y1, .int (nI m), .int car, .int tur, .int pre, .ref y2, .int (nI (mFit f so m).2), .ref y3, .ref y4, .ref y5, .int off, .ref y6, .ref y7, .int wov, .int km, .int ko, .ref y8, .ref y9])), (y1, .inl (E.2.2, 96, .inl f)), (y2, .inl (E.2.2, 6, .inl th)), (y3, .inl (E.2.2, 6, .inl (mPal f so pa m))), (y4, .inl (E.2.2, 96, .inl (mSrt f so))), (y5, .inl (E.2.2, 96, .inl cl)), (y6, .inl (E.2.2, 12, .inl he)), (y7, .inl (E.2.2, 12, .inl be)), (y8, .inl (E.2.2, 6, .inl kp)), (y9, .inl (E.2.2, 96, .inl kk))] := by
  refine Ct.of (cc := cX5_paletteTold) (maxL := 2) (ret := (some .int)) (own := RX5) (L := [(0, .ref y), (1, .int (nI c))]) (by decide) rfl rfl rfl (Nat.le_of_ble_eq_true rfl) rfl ?_
  intro X F hQ
  have i5 : ∀ w ∈ u_ws RX5 TX5 19, w ∈ wsX5_paletteTold := gsub [20, 21, 22, 23, 24, 25, 26, 27, 28, 29, 30, 31, 32, 33, 34, 35, 36, 37, 38] rfl
  refine g_aload_n F dX5_paletteTold_0 rfl 0 rfl ?_
  refine g_aload_n F dX5_paletteTold_1 rfl 0 rfl ?_
  refine g_get F dX5_paletteTold_2 0 rfl rfl i5 2 (by decide) rfl (List.mem_of_getElem? (i := 1) rfl) ?_
  refine g_callV (ws' := [(y, .inr (5, [.int thr, .ref y1, .int (nI m), .int car, .int tur, .int pre, .ref y2, .int (nI (mFit f so m).2), .ref y3, .ref y4, .ref y5, .int off, .ref y6, .ref y7, .int wov, .int km, .int ko, .ref y8, .ref y9])), (y1, .inl (E.2.2, 96, .inl f)), (y2, .inl (E.2.2, 6, .inl th)), (y3, .inl (E.2.2, 6, .inl (mPal f so pa m))), (y4, .inl (E.2.2, 96, .inl (mSrt f so))), (y5, .inl (E.2.2, 96, .inl cl)), (y6, .inl (E.2.2, 12, .inl he)), (y7, .inl (E.2.2, 12, .inl be)), (y8, .inl (E.2.2, 6, .inl kp)), (y9, .inl (E.2.2, 96, .inl kk))]) F dX5_paletteTold_5 (c_X5_look E y y1 y2 y3 y4 y5 y6 y7 y8 y9 f th pa so cl he be kp kk thr (nI m) car tur pre mb off wov km ko m (by first | assumption | decide | omega) (by first | assumption | decide | omega)) rfl gX5_paletteTold_X5_look 0 rfl rfl kV_X5_look ⟨by decide, by decide⟩ [0, 1, 2, 3, 4, 5, 6, 7, 8, 9] rfl (by decide +kernel) rfl rfl (Nat.le_of_ble_eq_true rfl) ⟨by decide, by decide⟩ ?_
  refine g_iload_n F dX5_paletteTold_8 rfl 1 rfl ?_
  refine g_aload_n F dX5_paletteTold_9 rfl 0 rfl ?_
  refine g_get F dX5_paletteTold_10 0 rfl rfl i5 7 (by decide) rfl (List.mem_of_getElem? (i := 2) rfl) ?_
  refine g_icmp_ge (tgt := 25) F dX5_paletteTold_13 (by decide) (fun k13 => ?_) (fun k13 => ?_)
  · skip
    refine g_iconst (v := (-1)) F dX5_paletteTold_25 (by decide) ?_
    refine g_cs (cells' := 1) (slots' := 7) (by show 0 + 1 ≤ 1; omega) (by show 0 + 7 ≤ 7; omega) ?_
    exact g_iret F hQ dX5_paletteTold_26 (by simp only [k13, if_true, if_false]) (rfl)
  · skip
    refine g_aload_n F dX5_paletteTold_16 rfl 0 rfl ?_
    refine g_get F dX5_paletteTold_17 0 rfl rfl i5 8 (by decide) rfl (List.mem_of_getElem? (i := 3) rfl) ?_
    refine g_iload_n F dX5_paletteTold_20 rfl 1 rfl ?_
    refine g_ialdN (k := c) F dX5_paletteTold_21 3 rfl (by omega) (by first | decide | omega) ?_
    refine g_goto (tgt := 26) F dX5_paletteTold_22 (by decide) ?_
    refine g_cs (cells' := 1) (slots' := 7) (by show 0 + 1 ≤ 1; omega) (by show 0 + 7 ≤ 7; omega) ?_
    exact g_iret F hQ dX5_paletteTold_26 (by simp only [k13, if_true, if_false]) (rfl)

set_option maxHeartbeats 4000000 in
set_option maxRecDepth 100000 in
theorem c_X5_palette (E : gE) (y : Nat) (y1 : Nat) (y2 : Nat) (y3 : Nat) (y4 : Nat) (y5 : Nat) (y6 : Nat) (y7 : Nat) (y8 : Nat) (y9 : Nat) (f : AF) (th : AF) (pa : AF) (so : AF) (cl : AF) (he : AF) (be : AF) (kp : AF) (kk : AF) (thr : Int32) (car : Int32) (tur : Int32) (pre : Int32) (mb : Int32) (off : Int32) (wov : Int32) (km : Int32) (ko : Int32) (c : Nat) (m : Nat) (hc : c < 6) (h2 : 2 ≤ m) (h6 : m ≤ 6) : Ct E yX5_palette wsX5_palette ({ frames := 3, cells := 1, slots := 7, locals := 72 }) [.ref y, .int (nI c)] [(y, .inr (5, [.int thr, .ref y1, .int (nI m), .int car, .int tur, .int pre, .ref y2, .int mb, .ref y3, .ref y4, .ref y5, .int off, .ref y6, .ref y7, .int wov, .int km, .int ko, .ref y8, .ref y9])), (y1, .inl (E.2.2, 96, .inl f)), (y2, .inl (E.2.2, 6, .inl th)), (y3, .inl (E.2.2, 6, .inl pa)), (y4, .inl (E.2.2, 96, .inl so)), (y5, .inl (E.2.2, 96, .inl cl)), (y6, .inl (E.2.2, 12, .inl he)), (y7, .inl (E.2.2, 12, .inl be)), (y8, .inl (E.2.2, 6, .inl kp)), (y9, .inl (E.2.2, 96, .inl kk))] (some (.int (if nI (mFit f so m).2 ≤ nI c then (-1) else mPal f so pa m c))) [(y, .inr (5, [.int 0, .ref y1, .int (nI m), .int car, .int tur, .int pre, .ref y2, .int (nI (mFit f so m).2), .ref y3, .ref y4, .ref y5, .int off, .ref y6, .ref y7, .int wov, .int km, .int ko, .ref y8, .ref y9])), (y1, .inl (E.2.2, 96, .inl f)), (y2, .inl (E.2.2, 6, .inl th)), (y3, .inl (E.2.2, 6, .inl (mPal f so pa m))), (y4, .inl (E.2.2, 96, .inl (mSrt f so))), (y5, .inl (E.2.2, 96, .inl cl)), (y6, .inl (E.2.2, 12, .inl he)), (y7, .inl (E.2.2, 12, .inl be)), (y8, .inl (E.2.2, 6, .inl kp)), (y9, .inl (E.2.2, 96, .inl kk))] := by
  refine Ct.of (cc := cX5_palette) (maxL := 2) (ret := (some .int)) (own := RX5) (L := [(0, .ref y), (1, .int (nI c))]) (by decide) rfl rfl rfl (Nat.le_of_ble_eq_true rfl) rfl ?_
  intro X F hQ
  have i5 : ∀ w ∈ u_ws RX5 TX5 19, w ∈ wsX5_palette := gsub [35, 36, 37, 38, 39, 40, 41, 42, 43, 44, 45, 46, 47, 48, 49, 50, 51, 52, 53] rfl
  refine g_aload_n F dX5_palette_0 rfl 0 rfl ?_
  refine g_iconst (v := 0) F dX5_palette_1 (by decide) ?_
  refine g_put (ws' := [(y, .inr (5, [.int 0, .ref y1, .int (nI m), .int car, .int tur, .int pre, .ref y2, .int mb, .ref y3, .ref y4, .ref y5, .int off, .ref y6, .ref y7, .int wov, .int km, .int ko, .ref y8, .ref y9])), (y1, .inl (E.2.2, 96, .inl f)), (y2, .inl (E.2.2, 6, .inl th)), (y3, .inl (E.2.2, 6, .inl pa)), (y4, .inl (E.2.2, 96, .inl so)), (y5, .inl (E.2.2, 96, .inl cl)), (y6, .inl (E.2.2, 12, .inl he)), (y7, .inl (E.2.2, 12, .inl be)), (y8, .inl (E.2.2, 6, .inl kp)), (y9, .inl (E.2.2, 96, .inl kk))]) F dX5_palette_2 0 rfl rfl i5 tyX5 tyX5_ok nmX5 0 (by decide) rfl (rfl) (rfl) (Nat.le_of_ble_eq_true rfl) (List.mem_of_getElem? (i := 1) rfl) rfl ?_
  refine g_iload_n F dX5_palette_5 rfl 1 rfl ?_
  refine g_callS (ws' := [(y, .inr (5, [.int 0, .ref y1, .int (nI m), .int car, .int tur, .int pre, .ref y2, .int mb, .ref y3, .ref y4, .ref y5, .int off, .ref y6, .ref y7, .int wov, .int km, .int ko, .ref y8, .ref y9])), (y1, .inl (E.2.2, 96, .inl f)), (y2, .inl (E.2.2, 6, .inl th)), (y3, .inl (E.2.2, 6, .inl pa)), (y4, .inl (E.2.2, 96, .inl so)), (y5, .inl (E.2.2, 96, .inl cl)), (y6, .inl (E.2.2, 12, .inl he)), (y7, .inl (E.2.2, 12, .inl be)), (y8, .inl (E.2.2, 6, .inl kp)), (y9, .inl (E.2.2, 96, .inl kk))]) F dX5_palette_6 (c_X5_isSpool E (nI c) ) rfl gX5_palette_X5_isSpool kS_X5_isSpool ⟨by decide, by decide⟩ [] rfl (by decide +kernel) rfl rfl (Nat.le_of_ble_eq_true rfl) ⟨by decide, by decide⟩ ?_
  refine g_topr (y := 1) (mIn_nI (n := 5) (by omega) (by omega)) ?_
  refine g_if_eq_f (tgt := 20) F dX5_palette_9 (by decide) (by decide) ?_
  refine g_aload_n F dX5_palette_12 rfl 0 rfl ?_
  refine g_iload_n F dX5_palette_13 rfl 1 rfl ?_
  refine g_callV (ws' := [(y, .inr (5, [.int 0, .ref y1, .int (nI m), .int car, .int tur, .int pre, .ref y2, .int (nI (mFit f so m).2), .ref y3, .ref y4, .ref y5, .int off, .ref y6, .ref y7, .int wov, .int km, .int ko, .ref y8, .ref y9])), (y1, .inl (E.2.2, 96, .inl f)), (y2, .inl (E.2.2, 6, .inl th)), (y3, .inl (E.2.2, 6, .inl (mPal f so pa m))), (y4, .inl (E.2.2, 96, .inl (mSrt f so))), (y5, .inl (E.2.2, 96, .inl cl)), (y6, .inl (E.2.2, 12, .inl he)), (y7, .inl (E.2.2, 12, .inl be)), (y8, .inl (E.2.2, 6, .inl kp)), (y9, .inl (E.2.2, 96, .inl kk))]) F dX5_palette_14 (c_X5_paletteTold E y y1 y2 y3 y4 y5 y6 y7 y8 y9 f th pa so cl he be kp kk 0 car tur pre mb off wov km ko c m (by first | assumption | decide | omega) (by first | assumption | decide | omega) (by first | assumption | decide | omega)) rfl gX5_palette_X5_paletteTold 0 rfl rfl kV_X5_paletteTold ⟨by decide, by decide⟩ [0, 1, 2, 3, 4, 5, 6, 7, 8, 9] rfl (by decide +kernel) rfl rfl (Nat.le_of_ble_eq_true rfl) ⟨by decide, by decide⟩ ?_
  refine g_goto (tgt := 25) F dX5_palette_17 (by decide) ?_
  refine g_cs (cells' := 1) (slots' := 7) (by show 0 + 1 ≤ 1; omega) (by show 0 + 7 ≤ 7; omega) ?_
  exact g_iret F hQ dX5_palette_25 (rfl) (rfl)

set_option maxHeartbeats 4000000 in
set_option maxRecDepth 100000 in
theorem c_X5_palette_1 (E : gE) (y : Nat) (y1 : Nat) (y2 : Nat) (y3 : Nat) (y4 : Nat) (y5 : Nat) (y6 : Nat) (y7 : Nat) (y8 : Nat) (y9 : Nat) (thr : Int32) (col : Int32) (car : Int32) (tur : Int32) (pre : Int32) (mb : Int32) (off : Int32) (wov : Int32) (km : Int32) (ko : Int32) (c : Int32) (h0 : mIn c 0 5 = 0) : Ct E yX5_palette wsX5_palette ({ frames := 3, cells := 0, slots := 0, locals := 72 }) [.ref y, .int c] [(y, .inr (5, [.int thr, .ref y1, .int col, .int car, .int tur, .int pre, .ref y2, .int mb, .ref y3, .ref y4, .ref y5, .int off, .ref y6, .ref y7, .int wov, .int km, .int ko, .ref y8, .ref y9]))] (some (.int 0)) [(y, .inr (5, [.int 1, .ref y1, .int col, .int car, .int tur, .int pre, .ref y2, .int mb, .ref y3, .ref y4, .ref y5, .int off, .ref y6, .ref y7, .int wov, .int km, .int ko, .ref y8, .ref y9]))] := by
  refine Ct.of (cc := cX5_palette) (maxL := 2) (ret := (some .int)) (own := RX5) (L := [(0, .ref y), (1, .int c)]) (by decide) rfl rfl rfl (Nat.le_of_ble_eq_true rfl) rfl ?_
  intro X F hQ
  have i5 : ∀ w ∈ u_ws RX5 TX5 19, w ∈ wsX5_palette := gsub [35, 36, 37, 38, 39, 40, 41, 42, 43, 44, 45, 46, 47, 48, 49, 50, 51, 52, 53] rfl
  refine g_aload_n F dX5_palette_0 rfl 0 rfl ?_
  refine g_iconst (v := 0) F dX5_palette_1 (by decide) ?_
  refine g_put (ws' := [(y, .inr (5, [.int 0, .ref y1, .int col, .int car, .int tur, .int pre, .ref y2, .int mb, .ref y3, .ref y4, .ref y5, .int off, .ref y6, .ref y7, .int wov, .int km, .int ko, .ref y8, .ref y9]))]) F dX5_palette_2 0 rfl rfl i5 tyX5 tyX5_ok nmX5 0 (by decide) rfl (rfl) (rfl) (Nat.le_of_ble_eq_true rfl) (List.mem_of_getElem? (i := 1) rfl) rfl ?_
  refine g_iload_n F dX5_palette_5 rfl 1 rfl ?_
  refine g_callS (ws' := [(y, .inr (5, [.int 0, .ref y1, .int col, .int car, .int tur, .int pre, .ref y2, .int mb, .ref y3, .ref y4, .ref y5, .int off, .ref y6, .ref y7, .int wov, .int km, .int ko, .ref y8, .ref y9]))]) F dX5_palette_6 (c_X5_isSpool E c ) rfl gX5_palette_X5_isSpool kS_X5_isSpool ⟨by decide, by decide⟩ [] rfl (by decide +kernel) rfl rfl (Nat.le_of_ble_eq_true rfl) ⟨by decide, by decide⟩ ?_
  refine g_if_eq_t (tgt := 20) F dX5_palette_9 (by decide) (h0) ?_
  refine g_aload_n F dX5_palette_20 rfl 0 rfl ?_
  refine g_iconst (v := 1) F dX5_palette_21 (by decide) ?_
  refine g_callV (ws' := [(y, .inr (5, [.int 1, .ref y1, .int col, .int car, .int tur, .int pre, .ref y2, .int mb, .ref y3, .ref y4, .ref y5, .int off, .ref y6, .ref y7, .int wov, .int km, .int ko, .ref y8, .ref y9]))]) F dX5_palette_22 (c_X5_no E y y1 y2 y3 y4 y5 y6 y7 y8 y9 0 col car tur pre mb off wov km ko 1 ) rfl gX5_palette_X5_no 0 rfl rfl kV_X5_no ⟨by decide, by decide⟩ [0] rfl (by decide +kernel) rfl rfl (Nat.le_of_ble_eq_true rfl) ⟨by decide, by decide⟩ ?_
  exact g_iret F hQ dX5_palette_25 (rfl) (rfl)

set_option maxHeartbeats 4000000 in
set_option maxRecDepth 100000 in
theorem c_X5_runTold (E : gE) (y : Nat) (y1 : Nat) (y2 : Nat) (y3 : Nat) (y4 : Nat) (y5 : Nat) (y6 : Nat) (y7 : Nat) (y8 : Nat) (y9 : Nat) (kk : AF) (thr : Int32) (col : Int32) (car : Int32) (tur : Int32) (pre : Int32) (mb : Int32) (off : Int32) (wov : Int32) (km : Int32) (ko : Int32) (r : Nat) (p : Nat) (w : Int32) (hr : r < 8) (hp : p < mRn kk r) : Ct E yX5_runTold wsX5_runTold ({ frames := 2, cells := 0, slots := 0, locals := 44 }) [.ref y, .int (nI r), .int (nI p), .int w] [(y, .inr (5, [.int thr, .ref y1, .int col, .int car, .int tur, .int pre, .ref y2, .int mb, .ref y3, .ref y4, .ref y5, .int off, .ref y6, .ref y7, .int wov, .int km, .int ko, .ref y8, .ref y9])), (y9, .inl (E.2.2, 96, .inl kk))] (some (.int (mTold kk r p w))) [(y, .inr (5, [.int thr, .ref y1, .int col, .int car, .int tur, .int pre, .ref y2, .int mb, .ref y3, .ref y4, .ref y5, .int off, .ref y6, .ref y7, .int wov, .int km, .int ko, .ref y8, .ref y9])), (y9, .inl (E.2.2, 96, .inl kk))] := by
  refine Ct.of (cc := cX5_runTold) (maxL := 6) (ret := (some .int)) (own := RX5) (L := [(0, .ref y), (1, .int (nI r)), (2, .int (nI p)), (3, .int w)]) (by decide) rfl rfl rfl (Nat.le_of_ble_eq_true rfl) rfl ?_
  intro X F hQ
  have i5 : ∀ w ∈ u_ws RX5 TX5 19, w ∈ wsX5_runTold := gsub [9, 10, 11, 12, 13, 14, 15, 16, 17, 18, 19, 20, 21, 22, 23, 24, 25, 26, 27] rfl
  refine g_iconst (v := 0) F dX5_runTold_0 (by decide) ?_
  refine g_istore (L' := [(0, .ref y), (1, .int (nI r)), (2, .int (nI p)), (3, .int w), (4, .int 0)]) F dX5_runTold_1 (by decide) [1, 2, 3, 4, 0] rfl ?_
  refine g_iconst (v := 0) F dX5_runTold_3 (by decide) ?_
  refine g_istore (L' := [(0, .ref y), (1, .int (nI r)), (2, .int (nI p)), (3, .int w), (4, .int 0), (5, .int 0)]) F dX5_runTold_4 (by decide) [1, 2, 3, 4, 5, 0] rfl ?_
  have lp6 : ∀ (n6 i6 : Nat), i6 + n6 = p → G E X 0 0 6 [(0, .ref y), (1, .int (nI r)), (2, .int (nI p)), (3, .int w), (4, .int (nI (mSt kk r i6))), (5, .int (nI i6))] [] [(y, .inr (5, [.int thr, .ref y1, .int col, .int car, .int tur, .int pre, .ref y2, .int mb, .ref y3, .ref y4, .ref y5, .int off, .ref y6, .ref y7, .int wov, .int km, .int ko, .ref y8, .ref y9])), (y9, .inl (E.2.2, 96, .inl kk))] := by
    intro n6
    induction n6 with
    | zero =>
      intro i6 hi6
      have he6 : i6 = p := by omega
      rw [he6]
      refine g_iload F dX5_runTold_6 5 rfl ?_
      refine g_iload_n F dX5_runTold_8 rfl 2 rfl ?_
      refine g_icmp_ge_t (tgt := 30) F dX5_runTold_9 (by decide) (le_nI (Nat.le_refl _) (by have := mRn_12 kk r; omega)) ?_
      refine g_iload_n F dX5_runTold_30 rfl 3 rfl ?_
      refine g_if_ne (tgt := 48) F dX5_runTold_31 (by decide) (fun k31 => ?_) (fun k31 => ?_)
      · skip
        refine g_aload_n F dX5_runTold_48 rfl 0 rfl ?_
        refine g_get F dX5_runTold_49 0 rfl rfl i5 18 (by decide) rfl (List.mem_of_getElem? (i := 1) rfl) ?_
        refine g_iload F dX5_runTold_52 4 rfl ?_
        refine g_iload_n F dX5_runTold_54 rfl 1 rfl ?_
        refine g_callS (ws' := [(y, .inr (5, [.int thr, .ref y1, .int col, .int car, .int tur, .int pre, .ref y2, .int mb, .ref y3, .ref y4, .ref y5, .int off, .ref y6, .ref y7, .int wov, .int km, .int ko, .ref y8, .ref y9])), (y9, .inl (E.2.2, 96, .inl kk))]) F dX5_runTold_55 (c_X5_endOf E y9 kk r (mSt kk r p) (mSt_lt kk r (by omega)) (hr)) rfl gX5_runTold_X5_endOf kS_X5_endOf ⟨by decide, by decide⟩ [1] rfl (by decide +kernel) rfl rfl (Nat.le_of_ble_eq_true rfl) ⟨by decide, by decide⟩ ?_
        refine g_iload F dX5_runTold_58 4 rfl ?_
        refine g_isub F dX5_runTold_60 ?_
        exact g_iret F hQ dX5_runTold_61 (by simp [mTold, k31]) (rfl)
      · skip
        refine g_aload_n F dX5_runTold_34 rfl 0 rfl ?_
        refine g_get F dX5_runTold_35 0 rfl rfl i5 18 (by decide) rfl (List.mem_of_getElem? (i := 1) rfl) ?_
        refine g_iload F dX5_runTold_38 4 rfl ?_
        refine g_iload_n F dX5_runTold_40 rfl 1 rfl ?_
        refine g_callS (ws' := [(y, .inr (5, [.int thr, .ref y1, .int col, .int car, .int tur, .int pre, .ref y2, .int mb, .ref y3, .ref y4, .ref y5, .int off, .ref y6, .ref y7, .int wov, .int km, .int ko, .ref y8, .ref y9])), (y9, .inl (E.2.2, 96, .inl kk))]) F dX5_runTold_41 (c_X5_at E (nI (mSt kk r p)) (nI r) ) rfl gX5_runTold_X5_at kS_X5_at ⟨by decide, by decide⟩ [] rfl (by decide +kernel) rfl rfl (Nat.le_of_ble_eq_true rfl) ⟨by decide, by decide⟩ ?_
        refine g_topr (y := nI (12 * r + mSt kk r p)) (by rw [show (12 : Int32) = nI 12 from rfl, pk_mul, nI_add]) ?_
        refine g_ialdN (k := 12 * r + mSt kk r p) F dX5_runTold_44 1 rfl (by have := mSt_lt kk r hp; omega) (by first | decide | omega) ?_
        refine g_goto (tgt := 61) F dX5_runTold_45 (by decide) ?_
        exact g_iret F hQ dX5_runTold_61 (by simp [mTold, k31]) (rfl)
    | succ n6 ih6 =>
      intro i6 hi6
      have hl6 : i6 < p := by omega
      refine g_iload F dX5_runTold_6 5 rfl ?_
      refine g_iload_n F dX5_runTold_8 rfl 2 rfl ?_
      refine g_icmp_ge_f (tgt := 30) F dX5_runTold_9 (by decide) (nle_nI hl6 (by have := mRn_12 kk r; omega)) ?_
      refine g_aload_n F dX5_runTold_12 rfl 0 rfl ?_
      refine g_get F dX5_runTold_13 0 rfl rfl i5 18 (by decide) rfl (List.mem_of_getElem? (i := 1) rfl) ?_
      refine g_iload F dX5_runTold_16 4 rfl ?_
      refine g_iload_n F dX5_runTold_18 rfl 1 rfl ?_
      refine g_callS (ws' := [(y, .inr (5, [.int thr, .ref y1, .int col, .int car, .int tur, .int pre, .ref y2, .int mb, .ref y3, .ref y4, .ref y5, .int off, .ref y6, .ref y7, .int wov, .int km, .int ko, .ref y8, .ref y9])), (y9, .inl (E.2.2, 96, .inl kk))]) F dX5_runTold_19 (c_X5_endOf E y9 kk r (mSt kk r i6) (mSt_lt kk r (by omega)) (hr)) rfl gX5_runTold_X5_endOf kS_X5_endOf ⟨by decide, by decide⟩ [1] rfl (by decide +kernel) rfl rfl (Nat.le_of_ble_eq_true rfl) ⟨by decide, by decide⟩ ?_
      refine g_istore (L' := [(0, .ref y), (1, .int (nI r)), (2, .int (nI p)), (3, .int w), (4, .int (nI (mEndOf kk r (mSt kk r i6)))), (5, .int (nI i6))]) F dX5_runTold_22 (by decide) [1, 2, 3, 4, 0, 5] rfl ?_
      refine g_iinc (L' := [(0, .ref y), (1, .int (nI r)), (2, .int (nI p)), (3, .int w), (4, .int (nI (mEndOf kk r (mSt kk r i6)))), (5, .int (nI (i6 + 1)))]) (v := nI (i6 + 1)) F dX5_runTold_24 5 rfl (nI_1 _) (by decide) [1, 2, 3, 4, 5, 0] rfl ?_
      refine g_goto (tgt := 6) F dX5_runTold_27 (by decide) ?_
      exact ih6 (i6 + 1) (by omega)
  exact lp6 p 0 (by omega)

set_option maxHeartbeats 4000000 in
set_option maxRecDepth 100000 in
theorem c_X5_run (E : gE) (y : Nat) (y1 : Nat) (y2 : Nat) (y3 : Nat) (y4 : Nat) (y5 : Nat) (y6 : Nat) (y7 : Nat) (y8 : Nat) (y9 : Nat) (kk : AF) (thr : Int32) (col : Int32) (car : Int32) (tur : Int32) (pre : Int32) (mb : Int32) (off : Int32) (wov : Int32) (km : Int32) (ko : Int32) (r : Nat) (p : Nat) (w : Int32) (hr : r < 8) (hp : p < mRn kk r) (h1 : ¬ mIn w 0 1 = 0) (hw : ¬ wov = 0) : Ct E yX5_run wsX5_run ({ frames := 3, cells := 0, slots := 0, locals := 69 }) [.ref y, .int (nI r), .int (nI p), .int w] [(y, .inr (5, [.int thr, .ref y1, .int col, .int car, .int tur, .int pre, .ref y2, .int mb, .ref y3, .ref y4, .ref y5, .int off, .ref y6, .ref y7, .int wov, .int km, .int ko, .ref y8, .ref y9])), (y9, .inl (E.2.2, 96, .inl kk))] (some (.int (mTold kk r p w))) [(y, .inr (5, [.int 0, .ref y1, .int col, .int car, .int tur, .int pre, .ref y2, .int mb, .ref y3, .ref y4, .ref y5, .int off, .ref y6, .ref y7, .int wov, .int km, .int ko, .ref y8, .ref y9])), (y9, .inl (E.2.2, 96, .inl kk))] := by
  refine Ct.of (cc := cX5_run) (maxL := 4) (ret := (some .int)) (own := RX5) (L := [(0, .ref y), (1, .int (nI r)), (2, .int (nI p)), (3, .int w)]) (by decide) rfl rfl rfl (Nat.le_of_ble_eq_true rfl) rfl ?_
  intro X F hQ
  have i5 : ∀ w ∈ u_ws RX5 TX5 19, w ∈ wsX5_run := gsub [28, 29, 30, 31, 32, 33, 34, 35, 36, 37, 38, 39, 40, 41, 42, 43, 44, 45, 46] rfl
  refine g_aload_n F dX5_run_0 rfl 0 rfl ?_
  refine g_iconst (v := 0) F dX5_run_1 (by decide) ?_
  refine g_put (ws' := [(y, .inr (5, [.int 0, .ref y1, .int col, .int car, .int tur, .int pre, .ref y2, .int mb, .ref y3, .ref y4, .ref y5, .int off, .ref y6, .ref y7, .int wov, .int km, .int ko, .ref y8, .ref y9])), (y9, .inl (E.2.2, 96, .inl kk))]) F dX5_run_2 0 rfl rfl i5 tyX5 tyX5_ok nmX5 0 (by decide) rfl (rfl) (rfl) (Nat.le_of_ble_eq_true rfl) (List.mem_of_getElem? (i := 1) rfl) rfl ?_
  refine g_iload_n F dX5_run_5 rfl 1 rfl ?_
  refine g_callS (ws' := [(y, .inr (5, [.int 0, .ref y1, .int col, .int car, .int tur, .int pre, .ref y2, .int mb, .ref y3, .ref y4, .ref y5, .int off, .ref y6, .ref y7, .int wov, .int km, .int ko, .ref y8, .ref y9])), (y9, .inl (E.2.2, 96, .inl kk))]) F dX5_run_6 (c_X5_isY E (nI r) ) rfl gX5_run_X5_isY kS_X5_isY ⟨by decide, by decide⟩ [] rfl (by decide +kernel) rfl rfl (Nat.le_of_ble_eq_true rfl) ⟨by decide, by decide⟩ ?_
  refine g_topr (y := 1) (mIn_nI (n := 7) (by omega) (by omega)) ?_
  refine g_if_eq_f (tgt := 21) F dX5_run_9 (by decide) (by decide) ?_
  refine g_iload_n F dX5_run_12 rfl 3 rfl ?_
  refine g_iconst (v := 0) F dX5_run_13 (by decide) ?_
  refine g_iconst (v := 1) F dX5_run_14 (by decide) ?_
  refine g_callS (ws' := [(y, .inr (5, [.int 0, .ref y1, .int col, .int car, .int tur, .int pre, .ref y2, .int mb, .ref y3, .ref y4, .ref y5, .int off, .ref y6, .ref y7, .int wov, .int km, .int ko, .ref y8, .ref y9])), (y9, .inl (E.2.2, 96, .inl kk))]) F dX5_run_15 (c_X5_isIn E w 0 1 ) rfl gX5_run_X5_isIn kS_X5_isIn ⟨by decide, by decide⟩ [] rfl (by decide +kernel) rfl rfl (Nat.le_of_ble_eq_true rfl) ⟨by decide, by decide⟩ ?_
  refine g_if_ne_t (tgt := 27) F dX5_run_18 (by decide) (h1) ?_
  refine g_aload_n F dX5_run_27 rfl 0 rfl ?_
  refine g_get F dX5_run_28 0 rfl rfl i5 14 (by decide) rfl (List.mem_of_getElem? (i := 2) rfl) ?_
  refine g_if_ne_t (tgt := 40) F dX5_run_31 (by decide) (hw) ?_
  refine g_iload_n F dX5_run_40 rfl 2 rfl ?_
  refine g_iconst (v := 0) F dX5_run_41 (by decide) ?_
  refine g_aload_n F dX5_run_42 rfl 0 rfl ?_
  refine g_get F dX5_run_43 0 rfl rfl i5 18 (by decide) rfl (List.mem_of_getElem? (i := 3) rfl) ?_
  refine g_iload_n F dX5_run_46 rfl 1 rfl ?_
  refine g_callS (ws' := [(y, .inr (5, [.int 0, .ref y1, .int col, .int car, .int tur, .int pre, .ref y2, .int mb, .ref y3, .ref y4, .ref y5, .int off, .ref y6, .ref y7, .int wov, .int km, .int ko, .ref y8, .ref y9])), (y9, .inl (E.2.2, 96, .inl kk))]) F dX5_run_47 (c_X5_runs E y9 kk r (by first | assumption | decide | omega)) rfl gX5_run_X5_runs kS_X5_runs ⟨by decide, by decide⟩ [1] rfl (by decide +kernel) rfl rfl (Nat.le_of_ble_eq_true rfl) ⟨by decide, by decide⟩ ?_
  refine g_iconst (v := 1) F dX5_run_50 (by decide) ?_
  refine g_isub F dX5_run_51 ?_
  refine g_topr (y := nI (mRn kk r - 1)) (by have h1 := mRn_1 kk r; have h2 := nI_pred (mRn kk r - 1); rw [show mRn kk r - 1 + 1 = mRn kk r by omega] at h2; exact h2) ?_
  refine g_callS (ws' := [(y, .inr (5, [.int 0, .ref y1, .int col, .int car, .int tur, .int pre, .ref y2, .int mb, .ref y3, .ref y4, .ref y5, .int off, .ref y6, .ref y7, .int wov, .int km, .int ko, .ref y8, .ref y9])), (y9, .inl (E.2.2, 96, .inl kk))]) F dX5_run_52 (c_X5_isIn E (nI p) 0 (nI (mRn kk r - 1)) ) rfl gX5_run_X5_isIn kS_X5_isIn ⟨by decide, by decide⟩ [] rfl (by decide +kernel) rfl rfl (Nat.le_of_ble_eq_true rfl) ⟨by decide, by decide⟩ ?_
  refine g_topr (y := 1) (mIn_nI (by omega) (by have := mRn_12 kk r; omega)) ?_
  refine g_if_eq_f (tgt := 68) F dX5_run_55 (by decide) (by decide) ?_
  refine g_aload_n F dX5_run_58 rfl 0 rfl ?_
  refine g_iload_n F dX5_run_59 rfl 1 rfl ?_
  refine g_iload_n F dX5_run_60 rfl 2 rfl ?_
  refine g_iload_n F dX5_run_61 rfl 3 rfl ?_
  refine g_callV (ws' := [(y, .inr (5, [.int 0, .ref y1, .int col, .int car, .int tur, .int pre, .ref y2, .int mb, .ref y3, .ref y4, .ref y5, .int off, .ref y6, .ref y7, .int wov, .int km, .int ko, .ref y8, .ref y9])), (y9, .inl (E.2.2, 96, .inl kk))]) F dX5_run_62 (c_X5_runTold E y y1 y2 y3 y4 y5 y6 y7 y8 y9 kk 0 col car tur pre mb off wov km ko r p w (by first | assumption | decide | omega) (by first | assumption | decide | omega)) rfl gX5_run_X5_runTold 0 rfl rfl kV_X5_runTold ⟨by decide, by decide⟩ [0, 1] rfl (by decide +kernel) rfl rfl (Nat.le_of_ble_eq_true rfl) ⟨by decide, by decide⟩ ?_
  refine g_goto (tgt := 73) F dX5_run_65 (by decide) ?_
  exact g_iret F hQ dX5_run_73 (rfl) (rfl)

set_option maxHeartbeats 4000000 in
set_option maxRecDepth 100000 in
theorem c_X5_run_1 (E : gE) (y : Nat) (y1 : Nat) (y2 : Nat) (y3 : Nat) (y4 : Nat) (y5 : Nat) (y6 : Nat) (y7 : Nat) (y8 : Nat) (y9 : Nat) (thr : Int32) (col : Int32) (car : Int32) (tur : Int32) (pre : Int32) (mb : Int32) (off : Int32) (wov : Int32) (km : Int32) (ko : Int32) (r : Int32) (p : Int32) (w : Int32) (h : mIn r 0 7 = 0 ∨ mIn w 0 1 = 0) : Ct E yX5_run wsX5_run ({ frames := 3, cells := 0, slots := 0, locals := 69 }) [.ref y, .int r, .int p, .int w] [(y, .inr (5, [.int thr, .ref y1, .int col, .int car, .int tur, .int pre, .ref y2, .int mb, .ref y3, .ref y4, .ref y5, .int off, .ref y6, .ref y7, .int wov, .int km, .int ko, .ref y8, .ref y9]))] (some (.int 0)) [(y, .inr (5, [.int 1, .ref y1, .int col, .int car, .int tur, .int pre, .ref y2, .int mb, .ref y3, .ref y4, .ref y5, .int off, .ref y6, .ref y7, .int wov, .int km, .int ko, .ref y8, .ref y9]))] := by
  refine Ct.of (cc := cX5_run) (maxL := 4) (ret := (some .int)) (own := RX5) (L := [(0, .ref y), (1, .int r), (2, .int p), (3, .int w)]) (by decide) rfl rfl rfl (Nat.le_of_ble_eq_true rfl) rfl ?_
  intro X F hQ
  have i5 : ∀ w ∈ u_ws RX5 TX5 19, w ∈ wsX5_run := gsub [28, 29, 30, 31, 32, 33, 34, 35, 36, 37, 38, 39, 40, 41, 42, 43, 44, 45, 46] rfl
  refine g_aload_n F dX5_run_0 rfl 0 rfl ?_
  refine g_iconst (v := 0) F dX5_run_1 (by decide) ?_
  refine g_put (ws' := [(y, .inr (5, [.int 0, .ref y1, .int col, .int car, .int tur, .int pre, .ref y2, .int mb, .ref y3, .ref y4, .ref y5, .int off, .ref y6, .ref y7, .int wov, .int km, .int ko, .ref y8, .ref y9]))]) F dX5_run_2 0 rfl rfl i5 tyX5 tyX5_ok nmX5 0 (by decide) rfl (rfl) (rfl) (Nat.le_of_ble_eq_true rfl) (List.mem_of_getElem? (i := 1) rfl) rfl ?_
  refine g_iload_n F dX5_run_5 rfl 1 rfl ?_
  refine g_callS (ws' := [(y, .inr (5, [.int 0, .ref y1, .int col, .int car, .int tur, .int pre, .ref y2, .int mb, .ref y3, .ref y4, .ref y5, .int off, .ref y6, .ref y7, .int wov, .int km, .int ko, .ref y8, .ref y9]))]) F dX5_run_6 (c_X5_isY E r ) rfl gX5_run_X5_isY kS_X5_isY ⟨by decide, by decide⟩ [] rfl (by decide +kernel) rfl rfl (Nat.le_of_ble_eq_true rfl) ⟨by decide, by decide⟩ ?_
  refine g_if_eq (tgt := 21) F dX5_run_9 (by decide) (fun k9 => ?_) (fun k9 => ?_)
  · skip
    refine g_aload_n F dX5_run_21 rfl 0 rfl ?_
    refine g_iconst (v := 1) F dX5_run_22 (by decide) ?_
    refine g_callV (ws' := [(y, .inr (5, [.int 1, .ref y1, .int col, .int car, .int tur, .int pre, .ref y2, .int mb, .ref y3, .ref y4, .ref y5, .int off, .ref y6, .ref y7, .int wov, .int km, .int ko, .ref y8, .ref y9]))]) F dX5_run_23 (c_X5_no E y y1 y2 y3 y4 y5 y6 y7 y8 y9 0 col car tur pre mb off wov km ko 1 ) rfl gX5_run_X5_no 0 rfl rfl kV_X5_no ⟨by decide, by decide⟩ [0] rfl (by decide +kernel) rfl rfl (Nat.le_of_ble_eq_true rfl) ⟨by decide, by decide⟩ ?_
    exact g_iret F hQ dX5_run_26 (rfl) (rfl)
  · skip
    refine g_iload_n F dX5_run_12 rfl 3 rfl ?_
    refine g_iconst (v := 0) F dX5_run_13 (by decide) ?_
    refine g_iconst (v := 1) F dX5_run_14 (by decide) ?_
    refine g_callS (ws' := [(y, .inr (5, [.int 0, .ref y1, .int col, .int car, .int tur, .int pre, .ref y2, .int mb, .ref y3, .ref y4, .ref y5, .int off, .ref y6, .ref y7, .int wov, .int km, .int ko, .ref y8, .ref y9]))]) F dX5_run_15 (c_X5_isIn E w 0 1 ) rfl gX5_run_X5_isIn kS_X5_isIn ⟨by decide, by decide⟩ [] rfl (by decide +kernel) rfl rfl (Nat.le_of_ble_eq_true rfl) ⟨by decide, by decide⟩ ?_
    refine g_if_ne_f (tgt := 27) F dX5_run_18 (by decide) (fun q => q (h.resolve_left k9)) ?_
    refine g_aload_n F dX5_run_21 rfl 0 rfl ?_
    refine g_iconst (v := 1) F dX5_run_22 (by decide) ?_
    refine g_callV (ws' := [(y, .inr (5, [.int 1, .ref y1, .int col, .int car, .int tur, .int pre, .ref y2, .int mb, .ref y3, .ref y4, .ref y5, .int off, .ref y6, .ref y7, .int wov, .int km, .int ko, .ref y8, .ref y9]))]) F dX5_run_23 (c_X5_no E y y1 y2 y3 y4 y5 y6 y7 y8 y9 0 col car tur pre mb off wov km ko 1 ) rfl gX5_run_X5_no 0 rfl rfl kV_X5_no ⟨by decide, by decide⟩ [0] rfl (by decide +kernel) rfl rfl (Nat.le_of_ble_eq_true rfl) ⟨by decide, by decide⟩ ?_
    exact g_iret F hQ dX5_run_26 (rfl) (rfl)

set_option maxHeartbeats 4000000 in
set_option maxRecDepth 100000 in
theorem c_X5_run_2 (E : gE) (y : Nat) (y1 : Nat) (y2 : Nat) (y3 : Nat) (y4 : Nat) (y5 : Nat) (y6 : Nat) (y7 : Nat) (y8 : Nat) (y9 : Nat) (thr : Int32) (col : Int32) (car : Int32) (tur : Int32) (pre : Int32) (mb : Int32) (off : Int32) (wov : Int32) (km : Int32) (ko : Int32) (r : Int32) (p : Int32) (w : Int32) (h0 : ¬ mIn r 0 7 = 0) (h1 : ¬ mIn w 0 1 = 0) (hw : wov = 0) : Ct E yX5_run wsX5_run ({ frames := 3, cells := 0, slots := 0, locals := 69 }) [.ref y, .int r, .int p, .int w] [(y, .inr (5, [.int thr, .ref y1, .int col, .int car, .int tur, .int pre, .ref y2, .int mb, .ref y3, .ref y4, .ref y5, .int off, .ref y6, .ref y7, .int wov, .int km, .int ko, .ref y8, .ref y9]))] (some (.int 0)) [(y, .inr (5, [.int 2, .ref y1, .int col, .int car, .int tur, .int pre, .ref y2, .int mb, .ref y3, .ref y4, .ref y5, .int off, .ref y6, .ref y7, .int wov, .int km, .int ko, .ref y8, .ref y9]))] := by
  refine Ct.of (cc := cX5_run) (maxL := 4) (ret := (some .int)) (own := RX5) (L := [(0, .ref y), (1, .int r), (2, .int p), (3, .int w)]) (by decide) rfl rfl rfl (Nat.le_of_ble_eq_true rfl) rfl ?_
  intro X F hQ
  have i5 : ∀ w ∈ u_ws RX5 TX5 19, w ∈ wsX5_run := gsub [28, 29, 30, 31, 32, 33, 34, 35, 36, 37, 38, 39, 40, 41, 42, 43, 44, 45, 46] rfl
  refine g_aload_n F dX5_run_0 rfl 0 rfl ?_
  refine g_iconst (v := 0) F dX5_run_1 (by decide) ?_
  refine g_put (ws' := [(y, .inr (5, [.int 0, .ref y1, .int col, .int car, .int tur, .int pre, .ref y2, .int mb, .ref y3, .ref y4, .ref y5, .int off, .ref y6, .ref y7, .int wov, .int km, .int ko, .ref y8, .ref y9]))]) F dX5_run_2 0 rfl rfl i5 tyX5 tyX5_ok nmX5 0 (by decide) rfl (rfl) (rfl) (Nat.le_of_ble_eq_true rfl) (List.mem_of_getElem? (i := 1) rfl) rfl ?_
  refine g_iload_n F dX5_run_5 rfl 1 rfl ?_
  refine g_callS (ws' := [(y, .inr (5, [.int 0, .ref y1, .int col, .int car, .int tur, .int pre, .ref y2, .int mb, .ref y3, .ref y4, .ref y5, .int off, .ref y6, .ref y7, .int wov, .int km, .int ko, .ref y8, .ref y9]))]) F dX5_run_6 (c_X5_isY E r ) rfl gX5_run_X5_isY kS_X5_isY ⟨by decide, by decide⟩ [] rfl (by decide +kernel) rfl rfl (Nat.le_of_ble_eq_true rfl) ⟨by decide, by decide⟩ ?_
  refine g_if_eq_f (tgt := 21) F dX5_run_9 (by decide) (h0) ?_
  refine g_iload_n F dX5_run_12 rfl 3 rfl ?_
  refine g_iconst (v := 0) F dX5_run_13 (by decide) ?_
  refine g_iconst (v := 1) F dX5_run_14 (by decide) ?_
  refine g_callS (ws' := [(y, .inr (5, [.int 0, .ref y1, .int col, .int car, .int tur, .int pre, .ref y2, .int mb, .ref y3, .ref y4, .ref y5, .int off, .ref y6, .ref y7, .int wov, .int km, .int ko, .ref y8, .ref y9]))]) F dX5_run_15 (c_X5_isIn E w 0 1 ) rfl gX5_run_X5_isIn kS_X5_isIn ⟨by decide, by decide⟩ [] rfl (by decide +kernel) rfl rfl (Nat.le_of_ble_eq_true rfl) ⟨by decide, by decide⟩ ?_
  refine g_if_ne_t (tgt := 27) F dX5_run_18 (by decide) (h1) ?_
  refine g_aload_n F dX5_run_27 rfl 0 rfl ?_
  refine g_get F dX5_run_28 0 rfl rfl i5 14 (by decide) rfl (List.mem_of_getElem? (i := 2) rfl) ?_
  refine g_if_ne_f (tgt := 40) F dX5_run_31 (by decide) (fun q => q hw) ?_
  refine g_aload_n F dX5_run_34 rfl 0 rfl ?_
  refine g_iconst (v := 2) F dX5_run_35 (by decide) ?_
  refine g_callV (ws' := [(y, .inr (5, [.int 2, .ref y1, .int col, .int car, .int tur, .int pre, .ref y2, .int mb, .ref y3, .ref y4, .ref y5, .int off, .ref y6, .ref y7, .int wov, .int km, .int ko, .ref y8, .ref y9]))]) F dX5_run_36 (c_X5_no E y y1 y2 y3 y4 y5 y6 y7 y8 y9 0 col car tur pre mb off wov km ko 2 ) rfl gX5_run_X5_no 0 rfl rfl kV_X5_no ⟨by decide, by decide⟩ [0] rfl (by decide +kernel) rfl rfl (Nat.le_of_ble_eq_true rfl) ⟨by decide, by decide⟩ ?_
  exact g_iret F hQ dX5_run_39 (rfl) (rfl)

set_option maxHeartbeats 4000000 in
set_option maxRecDepth 100000 in
theorem c_X5_run_3 (E : gE) (y : Nat) (y1 : Nat) (y2 : Nat) (y3 : Nat) (y4 : Nat) (y5 : Nat) (y6 : Nat) (y7 : Nat) (y8 : Nat) (y9 : Nat) (kk : AF) (thr : Int32) (col : Int32) (car : Int32) (tur : Int32) (pre : Int32) (mb : Int32) (off : Int32) (wov : Int32) (km : Int32) (ko : Int32) (r : Nat) (p : Int32) (w : Int32) (hr : r < 8) (h1 : ¬ mIn w 0 1 = 0) (hw : ¬ wov = 0) (hp : mIn p 0 (nI (mRn kk r) - 1) = 0) : Ct E yX5_run wsX5_run ({ frames := 3, cells := 0, slots := 0, locals := 69 }) [.ref y, .int (nI r), .int p, .int w] [(y, .inr (5, [.int thr, .ref y1, .int col, .int car, .int tur, .int pre, .ref y2, .int mb, .ref y3, .ref y4, .ref y5, .int off, .ref y6, .ref y7, .int wov, .int km, .int ko, .ref y8, .ref y9])), (y9, .inl (E.2.2, 96, .inl kk))] (some (.int 0)) [(y, .inr (5, [.int 1, .ref y1, .int col, .int car, .int tur, .int pre, .ref y2, .int mb, .ref y3, .ref y4, .ref y5, .int off, .ref y6, .ref y7, .int wov, .int km, .int ko, .ref y8, .ref y9])), (y9, .inl (E.2.2, 96, .inl kk))] := by
  refine Ct.of (cc := cX5_run) (maxL := 4) (ret := (some .int)) (own := RX5) (L := [(0, .ref y), (1, .int (nI r)), (2, .int p), (3, .int w)]) (by decide) rfl rfl rfl (Nat.le_of_ble_eq_true rfl) rfl ?_
  intro X F hQ
  have i5 : ∀ w ∈ u_ws RX5 TX5 19, w ∈ wsX5_run := gsub [28, 29, 30, 31, 32, 33, 34, 35, 36, 37, 38, 39, 40, 41, 42, 43, 44, 45, 46] rfl
  refine g_aload_n F dX5_run_0 rfl 0 rfl ?_
  refine g_iconst (v := 0) F dX5_run_1 (by decide) ?_
  refine g_put (ws' := [(y, .inr (5, [.int 0, .ref y1, .int col, .int car, .int tur, .int pre, .ref y2, .int mb, .ref y3, .ref y4, .ref y5, .int off, .ref y6, .ref y7, .int wov, .int km, .int ko, .ref y8, .ref y9])), (y9, .inl (E.2.2, 96, .inl kk))]) F dX5_run_2 0 rfl rfl i5 tyX5 tyX5_ok nmX5 0 (by decide) rfl (rfl) (rfl) (Nat.le_of_ble_eq_true rfl) (List.mem_of_getElem? (i := 1) rfl) rfl ?_
  refine g_iload_n F dX5_run_5 rfl 1 rfl ?_
  refine g_callS (ws' := [(y, .inr (5, [.int 0, .ref y1, .int col, .int car, .int tur, .int pre, .ref y2, .int mb, .ref y3, .ref y4, .ref y5, .int off, .ref y6, .ref y7, .int wov, .int km, .int ko, .ref y8, .ref y9])), (y9, .inl (E.2.2, 96, .inl kk))]) F dX5_run_6 (c_X5_isY E (nI r) ) rfl gX5_run_X5_isY kS_X5_isY ⟨by decide, by decide⟩ [] rfl (by decide +kernel) rfl rfl (Nat.le_of_ble_eq_true rfl) ⟨by decide, by decide⟩ ?_
  refine g_topr (y := 1) (mIn_nI (n := 7) (by omega) (by omega)) ?_
  refine g_if_eq_f (tgt := 21) F dX5_run_9 (by decide) (by decide) ?_
  refine g_iload_n F dX5_run_12 rfl 3 rfl ?_
  refine g_iconst (v := 0) F dX5_run_13 (by decide) ?_
  refine g_iconst (v := 1) F dX5_run_14 (by decide) ?_
  refine g_callS (ws' := [(y, .inr (5, [.int 0, .ref y1, .int col, .int car, .int tur, .int pre, .ref y2, .int mb, .ref y3, .ref y4, .ref y5, .int off, .ref y6, .ref y7, .int wov, .int km, .int ko, .ref y8, .ref y9])), (y9, .inl (E.2.2, 96, .inl kk))]) F dX5_run_15 (c_X5_isIn E w 0 1 ) rfl gX5_run_X5_isIn kS_X5_isIn ⟨by decide, by decide⟩ [] rfl (by decide +kernel) rfl rfl (Nat.le_of_ble_eq_true rfl) ⟨by decide, by decide⟩ ?_
  refine g_if_ne_t (tgt := 27) F dX5_run_18 (by decide) (h1) ?_
  refine g_aload_n F dX5_run_27 rfl 0 rfl ?_
  refine g_get F dX5_run_28 0 rfl rfl i5 14 (by decide) rfl (List.mem_of_getElem? (i := 2) rfl) ?_
  refine g_if_ne_t (tgt := 40) F dX5_run_31 (by decide) (hw) ?_
  refine g_iload_n F dX5_run_40 rfl 2 rfl ?_
  refine g_iconst (v := 0) F dX5_run_41 (by decide) ?_
  refine g_aload_n F dX5_run_42 rfl 0 rfl ?_
  refine g_get F dX5_run_43 0 rfl rfl i5 18 (by decide) rfl (List.mem_of_getElem? (i := 3) rfl) ?_
  refine g_iload_n F dX5_run_46 rfl 1 rfl ?_
  refine g_callS (ws' := [(y, .inr (5, [.int 0, .ref y1, .int col, .int car, .int tur, .int pre, .ref y2, .int mb, .ref y3, .ref y4, .ref y5, .int off, .ref y6, .ref y7, .int wov, .int km, .int ko, .ref y8, .ref y9])), (y9, .inl (E.2.2, 96, .inl kk))]) F dX5_run_47 (c_X5_runs E y9 kk r (by first | assumption | decide | omega)) rfl gX5_run_X5_runs kS_X5_runs ⟨by decide, by decide⟩ [1] rfl (by decide +kernel) rfl rfl (Nat.le_of_ble_eq_true rfl) ⟨by decide, by decide⟩ ?_
  refine g_iconst (v := 1) F dX5_run_50 (by decide) ?_
  refine g_isub F dX5_run_51 ?_
  refine g_callS (ws' := [(y, .inr (5, [.int 0, .ref y1, .int col, .int car, .int tur, .int pre, .ref y2, .int mb, .ref y3, .ref y4, .ref y5, .int off, .ref y6, .ref y7, .int wov, .int km, .int ko, .ref y8, .ref y9])), (y9, .inl (E.2.2, 96, .inl kk))]) F dX5_run_52 (c_X5_isIn E p 0 ((nI (mRn kk r)) - 1) ) rfl gX5_run_X5_isIn kS_X5_isIn ⟨by decide, by decide⟩ [] rfl (by decide +kernel) rfl rfl (Nat.le_of_ble_eq_true rfl) ⟨by decide, by decide⟩ ?_
  refine g_if_eq_t (tgt := 68) F dX5_run_55 (by decide) (hp) ?_
  refine g_aload_n F dX5_run_68 rfl 0 rfl ?_
  refine g_iconst (v := 1) F dX5_run_69 (by decide) ?_
  refine g_callV (ws' := [(y, .inr (5, [.int 1, .ref y1, .int col, .int car, .int tur, .int pre, .ref y2, .int mb, .ref y3, .ref y4, .ref y5, .int off, .ref y6, .ref y7, .int wov, .int km, .int ko, .ref y8, .ref y9])), (y9, .inl (E.2.2, 96, .inl kk))]) F dX5_run_70 (c_X5_no E y y1 y2 y3 y4 y5 y6 y7 y8 y9 0 col car tur pre mb off wov km ko 1 ) rfl gX5_run_X5_no 0 rfl rfl kV_X5_no ⟨by decide, by decide⟩ [0] rfl (by decide +kernel) rfl rfl (Nat.le_of_ble_eq_true rfl) ⟨by decide, by decide⟩ ?_
  exact g_iret F hQ dX5_run_73 (rfl) (rfl)

set_option maxHeartbeats 4000000 in
set_option maxRecDepth 100000 in
theorem c_X5_threadTold (E : gE) (y : Nat) (y1 : Nat) (y2 : Nat) (y3 : Nat) (y4 : Nat) (y5 : Nat) (y6 : Nat) (y7 : Nat) (y8 : Nat) (y9 : Nat) (th : AF) (kp : AF) (kk : AF) (thr : Int32) (col : Int32) (car : Int32) (tur : Int32) (pre : Int32) (mb : Int32) (off : Int32) (wov : Int32) (km : Int32) (ko : Int32) (c : Nat) (w : Int32) (hc : c < 6) : Ct E yX5_threadTold wsX5_threadTold ({ frames := 1, cells := 0, slots := 0, locals := 26 }) [.ref y, .int (nI c), .int w] [(y, .inr (5, [.int thr, .ref y1, .int col, .int car, .int tur, .int pre, .ref y2, .int mb, .ref y3, .ref y4, .ref y5, .int off, .ref y6, .ref y7, .int wov, .int km, .int ko, .ref y8, .ref y9])), (y2, .inl (E.2.2, 6, .inl th)), (y8, .inl (E.2.2, 6, .inl kp)), (y9, .inl (E.2.2, 96, .inl kk))] (some (.int (mThr th kk kp km wov c w))) [(y, .inr (5, [.int thr, .ref y1, .int col, .int car, .int tur, .int pre, .ref y2, .int mb, .ref y3, .ref y4, .ref y5, .int off, .ref y6, .ref y7, .int wov, .int km, .int ko, .ref y8, .ref y9])), (y2, .inl (E.2.2, 6, .inl th)), (y8, .inl (E.2.2, 6, .inl kp)), (y9, .inl (E.2.2, 96, .inl kk))] := by
  refine Ct.of (cc := cX5_threadTold) (maxL := 3) (ret := (some .int)) (own := RX5) (L := [(0, .ref y), (1, .int (nI c)), (2, .int w)]) (by decide) rfl rfl rfl (Nat.le_of_ble_eq_true rfl) rfl ?_
  intro X F hQ
  have i5 : ∀ w ∈ u_ws RX5 TX5 19, w ∈ wsX5_threadTold := gsub [10, 11, 12, 13, 14, 15, 16, 17, 18, 19, 20, 21, 22, 23, 24, 25, 26, 27, 28] rfl
  refine g_iload_n F dX5_threadTold_0 rfl 2 rfl ?_
  refine g_if_ne (tgt := 11) F dX5_threadTold_1 (by decide) (fun k1 => ?_) (fun k1 => ?_)
  · skip
    refine g_iload_n F dX5_threadTold_11 rfl 2 rfl ?_
    refine g_iconst (v := 1) F dX5_threadTold_12 (by decide) ?_
    refine g_icmp_ne (tgt := 36) F dX5_threadTold_13 (by decide) (fun k13 => ?_) (fun k13 => ?_)
    · skip
      refine g_iload_n F dX5_threadTold_36 rfl 1 rfl ?_
      refine g_aload_n F dX5_threadTold_37 rfl 0 rfl ?_
      refine g_get F dX5_threadTold_38 0 rfl rfl i5 15 (by decide) rfl (List.mem_of_getElem? (i := 4) rfl) ?_
      refine g_icmp_ge (tgt := 53) F dX5_threadTold_41 (by decide) (fun k41 => ?_) (fun k41 => ?_)
      · skip
        refine g_iconst (v := (-1)) F dX5_threadTold_53 (by decide) ?_
        exact g_iret F hQ dX5_threadTold_54 (by simp [mThr, k1, k13, k41]) (rfl)
      · skip
        refine g_aload_n F dX5_threadTold_44 rfl 0 rfl ?_
        refine g_get F dX5_threadTold_45 0 rfl rfl i5 17 (by decide) rfl (List.mem_of_getElem? (i := 5) rfl) ?_
        refine g_iload_n F dX5_threadTold_48 rfl 1 rfl ?_
        refine g_ialdN (k := c) F dX5_threadTold_49 2 rfl (by omega) (by first | decide | omega) ?_
        refine g_goto (tgt := 54) F dX5_threadTold_50 (by decide) ?_
        exact g_iret F hQ dX5_threadTold_54 (by simp [mThr, k1, k13, k41]) (rfl)
    · skip
      refine g_aload_n F dX5_threadTold_16 rfl 0 rfl ?_
      refine g_get F dX5_threadTold_17 0 rfl rfl i5 14 (by decide) rfl (List.mem_of_getElem? (i := 2) rfl) ?_
      refine g_if_le (tgt := 34) F dX5_threadTold_20 (by decide) (fun k20 => ?_) (fun k20 => ?_)
      · skip
        refine g_iconst (v := 0) F dX5_threadTold_34 (by decide) ?_
        exact g_iret F hQ dX5_threadTold_35 (by simp [mThr, k1, k13, k20]) (rfl)
      · skip
        refine g_aload_n F dX5_threadTold_23 rfl 0 rfl ?_
        refine g_get F dX5_threadTold_24 0 rfl rfl i5 18 (by decide) rfl (List.mem_of_getElem? (i := 3) rfl) ?_
        refine g_iload_n F dX5_threadTold_27 rfl 1 rfl ?_
        refine g_callS (ws' := [(y, .inr (5, [.int thr, .ref y1, .int col, .int car, .int tur, .int pre, .ref y2, .int mb, .ref y3, .ref y4, .ref y5, .int off, .ref y6, .ref y7, .int wov, .int km, .int ko, .ref y8, .ref y9])), (y2, .inl (E.2.2, 6, .inl th)), (y8, .inl (E.2.2, 6, .inl kp)), (y9, .inl (E.2.2, 96, .inl kk))]) F dX5_threadTold_28 (c_X5_cellsOf E y9 kk (nI c) ) rfl gX5_threadTold_X5_cellsOf kS_X5_cellsOf ⟨by decide, by decide⟩ [3] rfl (by decide +kernel) rfl rfl (Nat.le_of_ble_eq_true rfl) ⟨by decide, by decide⟩ ?_
        refine g_goto (tgt := 35) F dX5_threadTold_31 (by decide) ?_
        exact g_iret F hQ dX5_threadTold_35 (by simp [mThr, k1, k13, k20]) (rfl)
  · skip
    refine g_aload_n F dX5_threadTold_4 rfl 0 rfl ?_
    refine g_get F dX5_threadTold_5 0 rfl rfl i5 6 (by decide) rfl (List.mem_of_getElem? (i := 1) rfl) ?_
    refine g_iload_n F dX5_threadTold_8 rfl 1 rfl ?_
    refine g_ialdN (k := c) F dX5_threadTold_9 1 rfl (by omega) (by first | decide | omega) ?_
    exact g_iret F hQ dX5_threadTold_10 (by simp [mThr, k1]) (rfl)

set_option maxHeartbeats 4000000 in
set_option maxRecDepth 100000 in
theorem c_X5_thread (E : gE) (y : Nat) (y1 : Nat) (y2 : Nat) (y3 : Nat) (y4 : Nat) (y5 : Nat) (y6 : Nat) (y7 : Nat) (y8 : Nat) (y9 : Nat) (th : AF) (kp : AF) (kk : AF) (thr : Int32) (col : Int32) (car : Int32) (tur : Int32) (pre : Int32) (mb : Int32) (off : Int32) (wov : Int32) (km : Int32) (ko : Int32) (c : Nat) (w : Int32) (hc : c < 6) (h1 : ¬ mIn w 0 2 = 0) : Ct E yX5_thread wsX5_thread ({ frames := 2, cells := 0, slots := 0, locals := 48 }) [.ref y, .int (nI c), .int w] [(y, .inr (5, [.int thr, .ref y1, .int col, .int car, .int tur, .int pre, .ref y2, .int mb, .ref y3, .ref y4, .ref y5, .int off, .ref y6, .ref y7, .int wov, .int km, .int ko, .ref y8, .ref y9])), (y2, .inl (E.2.2, 6, .inl th)), (y8, .inl (E.2.2, 6, .inl kp)), (y9, .inl (E.2.2, 96, .inl kk))] (some (.int (mThr th kk kp km wov c w))) [(y, .inr (5, [.int 0, .ref y1, .int col, .int car, .int tur, .int pre, .ref y2, .int mb, .ref y3, .ref y4, .ref y5, .int off, .ref y6, .ref y7, .int wov, .int km, .int ko, .ref y8, .ref y9])), (y2, .inl (E.2.2, 6, .inl th)), (y8, .inl (E.2.2, 6, .inl kp)), (y9, .inl (E.2.2, 96, .inl kk))] := by
  refine Ct.of (cc := cX5_thread) (maxL := 3) (ret := (some .int)) (own := RX5) (L := [(0, .ref y), (1, .int (nI c)), (2, .int w)]) (by decide) rfl rfl rfl (Nat.le_of_ble_eq_true rfl) rfl ?_
  intro X F hQ
  have i5 : ∀ w ∈ u_ws RX5 TX5 19, w ∈ wsX5_thread := gsub [25, 26, 27, 28, 29, 30, 31, 32, 33, 34, 35, 36, 37, 38, 39, 40, 41, 42, 43] rfl
  refine g_aload_n F dX5_thread_0 rfl 0 rfl ?_
  refine g_iconst (v := 0) F dX5_thread_1 (by decide) ?_
  refine g_put (ws' := [(y, .inr (5, [.int 0, .ref y1, .int col, .int car, .int tur, .int pre, .ref y2, .int mb, .ref y3, .ref y4, .ref y5, .int off, .ref y6, .ref y7, .int wov, .int km, .int ko, .ref y8, .ref y9])), (y2, .inl (E.2.2, 6, .inl th)), (y8, .inl (E.2.2, 6, .inl kp)), (y9, .inl (E.2.2, 96, .inl kk))]) F dX5_thread_2 0 rfl rfl i5 tyX5 tyX5_ok nmX5 0 (by decide) rfl (rfl) (rfl) (Nat.le_of_ble_eq_true rfl) (List.mem_of_getElem? (i := 1) rfl) rfl ?_
  refine g_iload_n F dX5_thread_5 rfl 1 rfl ?_
  refine g_callS (ws' := [(y, .inr (5, [.int 0, .ref y1, .int col, .int car, .int tur, .int pre, .ref y2, .int mb, .ref y3, .ref y4, .ref y5, .int off, .ref y6, .ref y7, .int wov, .int km, .int ko, .ref y8, .ref y9])), (y2, .inl (E.2.2, 6, .inl th)), (y8, .inl (E.2.2, 6, .inl kp)), (y9, .inl (E.2.2, 96, .inl kk))]) F dX5_thread_6 (c_X5_isSpool E (nI c) ) rfl gX5_thread_X5_isSpool kS_X5_isSpool ⟨by decide, by decide⟩ [] rfl (by decide +kernel) rfl rfl (Nat.le_of_ble_eq_true rfl) ⟨by decide, by decide⟩ ?_
  refine g_topr (y := 1) (mIn_nI (n := 5) (by omega) (by omega)) ?_
  refine g_if_eq_f (tgt := 30) F dX5_thread_9 (by decide) (by decide) ?_
  refine g_iload_n F dX5_thread_12 rfl 2 rfl ?_
  refine g_iconst (v := 0) F dX5_thread_13 (by decide) ?_
  refine g_iconst (v := 2) F dX5_thread_14 (by decide) ?_
  refine g_callS (ws' := [(y, .inr (5, [.int 0, .ref y1, .int col, .int car, .int tur, .int pre, .ref y2, .int mb, .ref y3, .ref y4, .ref y5, .int off, .ref y6, .ref y7, .int wov, .int km, .int ko, .ref y8, .ref y9])), (y2, .inl (E.2.2, 6, .inl th)), (y8, .inl (E.2.2, 6, .inl kp)), (y9, .inl (E.2.2, 96, .inl kk))]) F dX5_thread_15 (c_X5_isIn E w 0 2 ) rfl gX5_thread_X5_isIn kS_X5_isIn ⟨by decide, by decide⟩ [] rfl (by decide +kernel) rfl rfl (Nat.le_of_ble_eq_true rfl) ⟨by decide, by decide⟩ ?_
  refine g_if_eq_f (tgt := 30) F dX5_thread_18 (by decide) (h1) ?_
  refine g_aload_n F dX5_thread_21 rfl 0 rfl ?_
  refine g_iload_n F dX5_thread_22 rfl 1 rfl ?_
  refine g_iload_n F dX5_thread_23 rfl 2 rfl ?_
  refine g_callV (ws' := [(y, .inr (5, [.int 0, .ref y1, .int col, .int car, .int tur, .int pre, .ref y2, .int mb, .ref y3, .ref y4, .ref y5, .int off, .ref y6, .ref y7, .int wov, .int km, .int ko, .ref y8, .ref y9])), (y2, .inl (E.2.2, 6, .inl th)), (y8, .inl (E.2.2, 6, .inl kp)), (y9, .inl (E.2.2, 96, .inl kk))]) F dX5_thread_24 (c_X5_threadTold E y y1 y2 y3 y4 y5 y6 y7 y8 y9 th kp kk 0 col car tur pre mb off wov km ko c w (by first | assumption | decide | omega)) rfl gX5_thread_X5_threadTold 0 rfl rfl kV_X5_threadTold ⟨by decide, by decide⟩ [0, 1, 2, 3] rfl (by decide +kernel) rfl rfl (Nat.le_of_ble_eq_true rfl) ⟨by decide, by decide⟩ ?_
  refine g_goto (tgt := 35) F dX5_thread_27 (by decide) ?_
  exact g_iret F hQ dX5_thread_35 (rfl) (rfl)

set_option maxHeartbeats 4000000 in
set_option maxRecDepth 100000 in
theorem c_X5_thread_1 (E : gE) (y : Nat) (y1 : Nat) (y2 : Nat) (y3 : Nat) (y4 : Nat) (y5 : Nat) (y6 : Nat) (y7 : Nat) (y8 : Nat) (y9 : Nat) (thr : Int32) (col : Int32) (car : Int32) (tur : Int32) (pre : Int32) (mb : Int32) (off : Int32) (wov : Int32) (km : Int32) (ko : Int32) (c : Int32) (w : Int32) (h : mIn c 0 5 = 0 ∨ mIn w 0 2 = 0) : Ct E yX5_thread wsX5_thread ({ frames := 2, cells := 0, slots := 0, locals := 48 }) [.ref y, .int c, .int w] [(y, .inr (5, [.int thr, .ref y1, .int col, .int car, .int tur, .int pre, .ref y2, .int mb, .ref y3, .ref y4, .ref y5, .int off, .ref y6, .ref y7, .int wov, .int km, .int ko, .ref y8, .ref y9]))] (some (.int 0)) [(y, .inr (5, [.int 1, .ref y1, .int col, .int car, .int tur, .int pre, .ref y2, .int mb, .ref y3, .ref y4, .ref y5, .int off, .ref y6, .ref y7, .int wov, .int km, .int ko, .ref y8, .ref y9]))] := by
  refine Ct.of (cc := cX5_thread) (maxL := 3) (ret := (some .int)) (own := RX5) (L := [(0, .ref y), (1, .int c), (2, .int w)]) (by decide) rfl rfl rfl (Nat.le_of_ble_eq_true rfl) rfl ?_
  intro X F hQ
  have i5 : ∀ w ∈ u_ws RX5 TX5 19, w ∈ wsX5_thread := gsub [25, 26, 27, 28, 29, 30, 31, 32, 33, 34, 35, 36, 37, 38, 39, 40, 41, 42, 43] rfl
  refine g_aload_n F dX5_thread_0 rfl 0 rfl ?_
  refine g_iconst (v := 0) F dX5_thread_1 (by decide) ?_
  refine g_put (ws' := [(y, .inr (5, [.int 0, .ref y1, .int col, .int car, .int tur, .int pre, .ref y2, .int mb, .ref y3, .ref y4, .ref y5, .int off, .ref y6, .ref y7, .int wov, .int km, .int ko, .ref y8, .ref y9]))]) F dX5_thread_2 0 rfl rfl i5 tyX5 tyX5_ok nmX5 0 (by decide) rfl (rfl) (rfl) (Nat.le_of_ble_eq_true rfl) (List.mem_of_getElem? (i := 1) rfl) rfl ?_
  refine g_iload_n F dX5_thread_5 rfl 1 rfl ?_
  refine g_callS (ws' := [(y, .inr (5, [.int 0, .ref y1, .int col, .int car, .int tur, .int pre, .ref y2, .int mb, .ref y3, .ref y4, .ref y5, .int off, .ref y6, .ref y7, .int wov, .int km, .int ko, .ref y8, .ref y9]))]) F dX5_thread_6 (c_X5_isSpool E c ) rfl gX5_thread_X5_isSpool kS_X5_isSpool ⟨by decide, by decide⟩ [] rfl (by decide +kernel) rfl rfl (Nat.le_of_ble_eq_true rfl) ⟨by decide, by decide⟩ ?_
  refine g_if_eq (tgt := 30) F dX5_thread_9 (by decide) (fun k9 => ?_) (fun k9 => ?_)
  · skip
    refine g_aload_n F dX5_thread_30 rfl 0 rfl ?_
    refine g_iconst (v := 1) F dX5_thread_31 (by decide) ?_
    refine g_callV (ws' := [(y, .inr (5, [.int 1, .ref y1, .int col, .int car, .int tur, .int pre, .ref y2, .int mb, .ref y3, .ref y4, .ref y5, .int off, .ref y6, .ref y7, .int wov, .int km, .int ko, .ref y8, .ref y9]))]) F dX5_thread_32 (c_X5_no E y y1 y2 y3 y4 y5 y6 y7 y8 y9 0 col car tur pre mb off wov km ko 1 ) rfl gX5_thread_X5_no 0 rfl rfl kV_X5_no ⟨by decide, by decide⟩ [0] rfl (by decide +kernel) rfl rfl (Nat.le_of_ble_eq_true rfl) ⟨by decide, by decide⟩ ?_
    exact g_iret F hQ dX5_thread_35 (rfl) (rfl)
  · skip
    refine g_iload_n F dX5_thread_12 rfl 2 rfl ?_
    refine g_iconst (v := 0) F dX5_thread_13 (by decide) ?_
    refine g_iconst (v := 2) F dX5_thread_14 (by decide) ?_
    refine g_callS (ws' := [(y, .inr (5, [.int 0, .ref y1, .int col, .int car, .int tur, .int pre, .ref y2, .int mb, .ref y3, .ref y4, .ref y5, .int off, .ref y6, .ref y7, .int wov, .int km, .int ko, .ref y8, .ref y9]))]) F dX5_thread_15 (c_X5_isIn E w 0 2 ) rfl gX5_thread_X5_isIn kS_X5_isIn ⟨by decide, by decide⟩ [] rfl (by decide +kernel) rfl rfl (Nat.le_of_ble_eq_true rfl) ⟨by decide, by decide⟩ ?_
    refine g_if_eq_t (tgt := 30) F dX5_thread_18 (by decide) (h.resolve_left k9) ?_
    refine g_aload_n F dX5_thread_30 rfl 0 rfl ?_
    refine g_iconst (v := 1) F dX5_thread_31 (by decide) ?_
    refine g_callV (ws' := [(y, .inr (5, [.int 1, .ref y1, .int col, .int car, .int tur, .int pre, .ref y2, .int mb, .ref y3, .ref y4, .ref y5, .int off, .ref y6, .ref y7, .int wov, .int km, .int ko, .ref y8, .ref y9]))]) F dX5_thread_32 (c_X5_no E y y1 y2 y3 y4 y5 y6 y7 y8 y9 0 col car tur pre mb off wov km ko 1 ) rfl gX5_thread_X5_no 0 rfl rfl kV_X5_no ⟨by decide, by decide⟩ [0] rfl (by decide +kernel) rfl rfl (Nat.le_of_ble_eq_true rfl) ⟨by decide, by decide⟩ ?_
    exact g_iret F hQ dX5_thread_35 (rfl) (rfl)
end PMODC
