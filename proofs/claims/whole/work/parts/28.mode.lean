/-! the reference: mean -/
section PMODE
set_option maxHeartbeats 4000000 in
set_option maxRecDepth 100000 in
theorem c_X5_mean (E : gE) (y : Nat) (y1 : Nat) (y2 : Nat) (y3 : Nat) (y4 : Nat) (y5 : Nat) (y6 : Nat) (y7 : Nat) (y8 : Nat) (y9 : Nat) (f : AF) (thr : Int32) (col : Int32) (car : Int32) (tur : Int32) (pre : Int32) (mb : Int32) (off : Int32) (wov : Int32) (km : Int32) (ko : Int32) (hn : vf_n64 (sMean (mSumF f 96))) : Ct E yX5_mean wsX5_mean ({ frames := 0, cells := 0, slots := 0, locals := 0 }) [.ref y] [(y, .inr (5, [.int thr, .ref y1, .int col, .int car, .int tur, .int pre, .ref y2, .int mb, .ref y3, .ref y4, .ref y5, .int off, .ref y6, .ref y7, .int wov, .int km, .int ko, .ref y8, .ref y9])), (y1, .inl (E.2.2, 96, .inl f))] (some (.double (sMean (mSumF f 96)))) [(y, .inr (5, [.int 0, .ref y1, .int col, .int car, .int tur, .int pre, .ref y2, .int mb, .ref y3, .ref y4, .ref y5, .int off, .ref y6, .ref y7, .int wov, .int km, .int ko, .ref y8, .ref y9])), (y1, .inl (E.2.2, 96, .inl f))] := by
  refine Ct.of (cc := cX5_mean) (maxL := 6) (ret := (some .double)) (own := RX5) (L := [(0, .ref y)]) (by decide) rfl rfl rfl (Nat.le_of_ble_eq_true rfl) rfl ?_
  intro X F hQ
  have i5 : ∀ w ∈ u_ws RX5 TX5 19, w ∈ wsX5_mean := gsub [4, 5, 6, 7, 8, 9, 10, 11, 12, 13, 14, 15, 16, 17, 18, 19, 20, 21, 22] rfl
  refine g_aload_n F dX5_mean_0 rfl 0 rfl ?_
  refine g_iconst (v := 0) F dX5_mean_1 (by decide) ?_
  refine g_put (ws' := [(y, .inr (5, [.int 0, .ref y1, .int col, .int car, .int tur, .int pre, .ref y2, .int mb, .ref y3, .ref y4, .ref y5, .int off, .ref y6, .ref y7, .int wov, .int km, .int ko, .ref y8, .ref y9])), (y1, .inl (E.2.2, 96, .inl f))]) F dX5_mean_2 0 rfl rfl i5 tyX5 tyX5_ok nmX5 0 (by decide) rfl (rfl) (rfl) (Nat.le_of_ble_eq_true rfl) (List.mem_of_getElem? (i := 1) rfl) rfl ?_
  refine g_iconst (v := 0) F dX5_mean_5 (by decide) ?_
  refine g_istore_n (L' := [(0, .ref y), (1, .int 0)]) F dX5_mean_6 rfl (by decide) [1, 0] rfl ?_
  refine g_aload_n F dX5_mean_7 rfl 0 rfl ?_
  refine g_get F dX5_mean_8 0 rfl rfl i5 1 (by decide) rfl (List.mem_of_getElem? (i := 2) rfl) ?_
  refine g_astore_n (L' := [(0, .ref y), (1, .int 0), (2, .ref y1)]) F dX5_mean_11 rfl (by decide) [1, 2, 0] rfl ?_
  refine g_aload_n F dX5_mean_12 rfl 2 rfl ?_
  refine g_alen (v := 96) F dX5_mean_13 1 rfl rfl ?_
  refine g_istore_n (L' := [(0, .ref y), (1, .int 0), (2, .ref y1), (3, .int 96)]) F dX5_mean_14 rfl (by decide) [1, 2, 3, 0] rfl ?_
  refine g_iconst (v := 0) F dX5_mean_15 (by decide) ?_
  refine g_istore (L' := [(0, .ref y), (1, .int 0), (2, .ref y1), (3, .int 96), (4, .int 0)]) F dX5_mean_16 (by decide) [1, 2, 3, 4, 0] rfl ?_
  have lp18 : ∀ (n18 i18 : Nat), i18 + n18 = 96 → G E X 0 0 18 [(0, .ref y), (1, .int (mSumF f i18)), (2, .ref y1), (3, .int 96), (4, .int (nI i18))] [] [(y, .inr (5, [.int 0, .ref y1, .int col, .int car, .int tur, .int pre, .ref y2, .int mb, .ref y3, .ref y4, .ref y5, .int off, .ref y6, .ref y7, .int wov, .int km, .int ko, .ref y8, .ref y9])), (y1, .inl (E.2.2, 96, .inl f))] := by
    intro n18
    induction n18 with
    | zero =>
      intro i18 hi18
      have he18 : i18 = 96 := by omega
      rw [he18]
      refine g_iload F dX5_mean_18 4 rfl ?_
      refine g_iload_n F dX5_mean_20 rfl 3 rfl ?_
      refine g_icmp_ge_t (tgt := 41) F dX5_mean_21 (by decide) (by decide) ?_
      refine g_iload_n F dX5_mean_41 rfl 1 rfl ?_
      refine g_i2d F dX5_mean_42 ?_
      refine g_ldc2d (v := 4636455816377925632) F dX5_mean_43 (List.mem_of_getElem? (i := 3) rfl) ?_
      refine g_ddiv F dX5_mean_46 (hn) ?_
      exact g_dret F hQ dX5_mean_47 (rfl) (rfl)
    | succ n18 ih18 =>
      intro i18 hi18
      have hl18 : i18 < 96 := by omega
      refine g_iload F dX5_mean_18 4 rfl ?_
      refine g_iload_n F dX5_mean_20 rfl 3 rfl ?_
      refine g_icmp_ge_f (tgt := 41) F dX5_mean_21 (by decide) (nle_nI (n := 96) hl18 (by omega)) ?_
      refine g_aload_n F dX5_mean_24 rfl 2 rfl ?_
      refine g_iload F dX5_mean_25 4 rfl ?_
      refine g_ialdN (k := i18) F dX5_mean_27 1 rfl (by omega) (by first | decide | omega) ?_
      refine g_istore (L' := [(0, .ref y), (1, .int (mSumF f i18)), (2, .ref y1), (3, .int 96), (4, .int (nI i18)), (5, .int (f i18))]) F dX5_mean_28 (by decide) [1, 2, 3, 4, 5, 0] rfl ?_
      refine g_iload_n F dX5_mean_30 rfl 1 rfl ?_
      refine g_iload F dX5_mean_31 5 rfl ?_
      refine g_iadd F dX5_mean_33 ?_
      refine g_istore_n (L' := [(0, .ref y), (1, .int ((mSumF f i18) + (f i18))), (2, .ref y1), (3, .int 96), (4, .int (nI i18)), (5, .int (f i18))]) F dX5_mean_34 rfl (by decide) [1, 0, 2, 3, 4, 5] rfl ?_
      refine g_iinc (L' := [(0, .ref y), (1, .int ((mSumF f i18) + (f i18))), (2, .ref y1), (3, .int 96), (4, .int (nI (i18 + 1))), (5, .int (f i18))]) (v := nI (i18 + 1)) F dX5_mean_35 4 rfl (nI_1 _) (by decide) [1, 2, 3, 4, 0, 5] rfl ?_
      refine g_goto (tgt := 18) F dX5_mean_38 (by decide) ?_
      refine g_lv (L' := [(0, .ref y), (1, .int ((mSumF f i18) + (f i18))), (2, .ref y1), (3, .int 96), (4, .int (nI (i18 + 1)))]) [0, 1, 2, 3, 4] rfl ?_
      exact ih18 (i18 + 1) (by omega)
  exact lp18 96 0 (by omega)
end PMODE
