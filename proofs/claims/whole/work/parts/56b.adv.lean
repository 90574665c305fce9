/-! the reference: advise, refused -/
section PADVX
set_option maxHeartbeats 4000000 in
set_option maxRecDepth 100000 in
theorem c_X5_advise_1 (E : gE) (y : Nat) (y1 : Nat) (y2 : Nat) (y3 : Nat) (y4 : Nat) (y5 : Nat) (y6 : Nat) (y7 : Nat) (y8 : Nat) (y9 : Nat) (thr : Int32) (col : Int32) (car : Int32) (tur : Int32) (pre : Int32) (mb : Int32) (off : Int32) (wov : Int32) (km : Int32) (ko : Int32) (kn : Int32) (h0 : mIn kn 0 96 = 0) : Ct E yX5_advise wsX5_advise ({ frames := 5, cells := 0, slots := 0, locals := 117 }) [.ref y, .int kn] [(y, .inr (5, [.int thr, .ref y1, .int col, .int car, .int tur, .int pre, .ref y2, .int mb, .ref y3, .ref y4, .ref y5, .int off, .ref y6, .ref y7, .int wov, .int km, .int ko, .ref y8, .ref y9]))] (some (.int 0)) [(y, .inr (5, [.int 1, .ref y1, .int col, .int car, .int tur, .int pre, .ref y2, .int mb, .ref y3, .ref y4, .ref y5, .int off, .ref y6, .ref y7, .int wov, .int km, .int ko, .ref y8, .ref y9]))] := by
  refine Ct.of (cc := cX5_advise) (maxL := 5) (ret := (some .int)) (own := RX5) (L := [(0, .ref y), (1, .int kn)]) (by decide) rfl rfl rfl (Nat.le_of_ble_eq_true rfl) rfl ?_
  intro X F hQ
  have i5 : ∀ w ∈ u_ws RX5 TX5 19, w ∈ wsX5_advise := gsub [76, 77, 78, 79, 80, 81, 82, 83, 84, 85, 86, 87, 88, 89, 90, 91, 92, 93, 94] rfl
  refine g_aload_n F dX5_advise_0 rfl 0 rfl ?_
  refine g_iconst (v := 0) F dX5_advise_1 (by decide) ?_
  refine g_put (ws' := [(y, .inr (5, [.int 0, .ref y1, .int col, .int car, .int tur, .int pre, .ref y2, .int mb, .ref y3, .ref y4, .ref y5, .int off, .ref y6, .ref y7, .int wov, .int km, .int ko, .ref y8, .ref y9]))]) F dX5_advise_2 0 rfl rfl i5 tyX5 tyX5_ok nmX5 0 (by decide) rfl (rfl) (rfl) (Nat.le_of_ble_eq_true rfl) (List.mem_of_getElem? (i := 1) rfl) rfl ?_
  refine g_iload_n F dX5_advise_5 rfl 1 rfl ?_
  refine g_iconst (v := 0) F dX5_advise_6 (by decide) ?_
  refine g_bipush (v := 96) F dX5_advise_7 (by decide) ?_
  refine g_callS (ws' := [(y, .inr (5, [.int 0, .ref y1, .int col, .int car, .int tur, .int pre, .ref y2, .int mb, .ref y3, .ref y4, .ref y5, .int off, .ref y6, .ref y7, .int wov, .int km, .int ko, .ref y8, .ref y9]))]) F dX5_advise_9 (c_X5_isIn E kn 0 96 ) rfl gX5_advise_X5_isIn kS_X5_isIn ⟨by decide, by decide⟩ [] rfl (by decide +kernel) rfl rfl (Nat.le_of_ble_eq_true rfl) ⟨by decide, by decide⟩ ?_
  refine g_if_ne_f (tgt := 21) F dX5_advise_12 (by decide) (fun q => q h0) ?_
  refine g_aload_n F dX5_advise_15 rfl 0 rfl ?_
  refine g_iconst (v := 1) F dX5_advise_16 (by decide) ?_
  refine g_callV (ws' := [(y, .inr (5, [.int 1, .ref y1, .int col, .int car, .int tur, .int pre, .ref y2, .int mb, .ref y3, .ref y4, .ref y5, .int off, .ref y6, .ref y7, .int wov, .int km, .int ko, .ref y8, .ref y9]))]) F dX5_advise_17 (c_X5_no E y y1 y2 y3 y4 y5 y6 y7 y8 y9 0 col car tur pre mb off wov km ko 1 ) rfl gX5_advise_X5_no 0 rfl rfl kV_X5_no ⟨by decide, by decide⟩ [0] rfl (by decide +kernel) rfl rfl (Nat.le_of_ble_eq_true rfl) ⟨by decide, by decide⟩ ?_
  exact g_iret F hQ dX5_advise_20 (rfl) (rfl)
end PADVX
