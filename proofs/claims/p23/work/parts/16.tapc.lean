/-! the class: mean -/
section PTAPC
set_option maxHeartbeats 4000000 in
set_option maxRecDepth 100000 in
theorem c_X4_mean (E : gE) (x : Nat) (g : Nat) (ga : Nat) (p : Nat) (s : Nat) (kc : Nat) (qc : Nat) (f : AF) (col : Int32) (car : Int32) (tur : Int32) (pre : Int32) (cl : Int32) (hn : vf_n64 (sMean (sSumA f 8))) : Ct E yX4_mean wsX4_mean ({ frames := 2, cells := 0, slots := 0, locals := 43 }) [.ref x] [(x, .inr (4, [.ref g, .ref p, .ref s, .ref kc, .ref qc, .int col, .int car, .int tur, .int pre, .int cl])), (g, .inr (1, [.ref ga])), (ga, .inl (E.2.2, 96, .inl f))] (some (.double (sMean (sSumA f 8)))) [(x, .inr (4, [.ref g, .ref p, .ref s, .ref kc, .ref qc, .int col, .int car, .int tur, .int pre, .int cl])), (g, .inr (1, [.ref ga])), (ga, .inl (E.2.2, 96, .inl f))] := by
  refine Ct.of (cc := cX4_mean) (maxL := 4) (ret := (some .double)) (own := RX4) (L := [(0, .ref x)]) (by decide) rfl rfl rfl (Nat.le_of_ble_eq_true rfl) rfl ?_
  intro X F hQ
  have i1 : ∀ w ∈ u_ws RX1 TX1 1, w ∈ wsX4_mean := gsub [24] rfl
  have ci4 : ∀ w ∈ u_ws RX4 TX4 10, w ∈ wsX4_mean := gsub [14, 15, 16, 17, 18, 19, 20, 21, 22, 23] rfl
  refine g_iconst (v := 0) F dX4_mean_0 (by decide) ?_
  refine g_istore_n (L' := [(0, .ref x), (1, .int 0)]) F dX4_mean_1 rfl (by decide) [1, 0] rfl ?_
  refine g_iconst (v := 0) F dX4_mean_2 (by decide) ?_
  refine g_istore_n (L' := [(0, .ref x), (1, .int 0), (2, .int 0)]) F dX4_mean_3 rfl (by decide) [1, 2, 0] rfl ?_
  have lp4 : ∀ (n4 i4 : Nat), i4 + n4 = 8 → G E X 0 0 4 [(0, .ref x), (1, .int (sSumA f i4)), (2, .int (nI i4))] [] [(x, .inr (4, [.ref g, .ref p, .ref s, .ref kc, .ref qc, .int col, .int car, .int tur, .int pre, .int cl])), (g, .inr (1, [.ref ga])), (ga, .inl (E.2.2, 96, .inl f))] := by
    intro n4
    induction n4 with
    | zero =>
      intro i4 hi4
      have he4 : i4 = 8 := by omega
      rw [he4]
      refine g_iload_n F dX4_mean_4 rfl 2 rfl ?_
      refine g_bipush (v := 8) F dX4_mean_5 (by decide) ?_
      refine g_icmp_ge_t (tgt := 42) F dX4_mean_7 (by decide) (by decide) ?_
      refine g_iload_n F dX4_mean_42 rfl 1 rfl ?_
      refine g_i2d F dX4_mean_43 ?_
      refine g_ldc2d (v := 4636455816377925632) F dX4_mean_44 (List.mem_of_getElem? (i := 2) rfl) ?_
      refine g_ddiv F dX4_mean_47 (hn) ?_
      exact g_dret F hQ dX4_mean_48 (rfl) (rfl)
    | succ n4 ih4 =>
      intro i4 hi4
      have hl4 : i4 < 8 := by omega
      refine g_iload_n F dX4_mean_4 rfl 2 rfl ?_
      refine g_bipush (v := 8) F dX4_mean_5 (by decide) ?_
      refine g_icmp_ge_f (tgt := 42) F dX4_mean_7 (by decide) (nle_nI (n := 8) hl4 (by omega)) ?_
      refine g_iconst (v := 0) F dX4_mean_10 (by decide) ?_
      refine g_istore_n (L' := [(0, .ref x), (1, .int (sSumA f i4)), (2, .int (nI i4)), (3, .int 0)]) F dX4_mean_11 rfl (by decide) [1, 2, 3, 0] rfl ?_
      have lp12 : ∀ (n12 i12 : Nat), i12 + n12 = 12 → G E X 0 0 12 [(0, .ref x), (1, .int (sSumR f (nI i4) (sSumA f i4) i12)), (2, .int (nI i4)), (3, .int (nI i12))] [] [(x, .inr (4, [.ref g, .ref p, .ref s, .ref kc, .ref qc, .int col, .int car, .int tur, .int pre, .int cl])), (g, .inr (1, [.ref ga])), (ga, .inl (E.2.2, 96, .inl f))] := by
        intro n12
        induction n12 with
        | zero =>
          intro i12 hi12
          have he12 : i12 = 12 := by omega
          rw [he12]
          refine g_iload_n F dX4_mean_12 rfl 3 rfl ?_
          refine g_bipush (v := 12) F dX4_mean_13 (by decide) ?_
          refine g_icmp_ge_t (tgt := 36) F dX4_mean_15 (by decide) (by decide) ?_
          refine g_iinc (L' := [(0, .ref x), (1, .int (sSumR f (nI i4) (sSumA f i4) 12)), (2, .int (nI (i4 + 1))), (3, .int (nI 12))]) (v := nI (i4 + 1)) F dX4_mean_36 2 rfl (nI_1 _) (by decide) [1, 2, 0, 3] rfl ?_
          refine g_goto (tgt := 4) F dX4_mean_39 (by decide) ?_
          refine g_lv (L' := [(0, .ref x), (1, .int (sSumR f (nI i4) (sSumA f i4) 12)), (2, .int (nI (i4 + 1)))]) [0, 1, 2] rfl ?_
          exact ih4 (i4 + 1) (by omega)
        | succ n12 ih12 =>
          intro i12 hi12
          have hl12 : i12 < 12 := by omega
          refine g_iload_n F dX4_mean_12 rfl 3 rfl ?_
          refine g_bipush (v := 12) F dX4_mean_13 (by decide) ?_
          refine g_icmp_ge_f (tgt := 36) F dX4_mean_15 (by decide) (nle_nI (n := 12) hl12 (by omega)) ?_
          refine g_iload_n F dX4_mean_18 rfl 1 rfl ?_
          refine g_aload_n F dX4_mean_19 rfl 0 rfl ?_
          refine g_get F dX4_mean_20 0 rfl rfl ci4 0 (by decide) rfl (List.mem_of_getElem? (i := 1) rfl) ?_
          refine g_iload_n F dX4_mean_23 rfl 3 rfl ?_
          refine g_iload_n F dX4_mean_24 rfl 2 rfl ?_
          refine g_callV (ws' := [(x, .inr (4, [.ref g, .ref p, .ref s, .ref kc, .ref qc, .int col, .int car, .int tur, .int pre, .int cl])), (g, .inr (1, [.ref ga])), (ga, .inl (E.2.2, 96, .inl f))]) F dX4_mean_25 (c_X1_at E g ga f (nI i12) (nI i4) ) rfl gX4_mean_X1_at 1 rfl rfl kV_X1_at ⟨by decide, by decide⟩ [1, 2] rfl (by decide +kernel) rfl rfl (Nat.le_of_ble_eq_true rfl) ⟨by decide, by decide⟩ ?_
          refine g_iadd F dX4_mean_28 ?_
          refine g_istore_n (L' := [(0, .ref x), (1, .int ((sSumR f (nI i4) (sSumA f i4) i12) + (sGAt f (nI i12) (nI i4)))), (2, .int (nI i4)), (3, .int (nI i12))]) F dX4_mean_29 rfl (by decide) [1, 0, 2, 3] rfl ?_
          refine g_iinc (L' := [(0, .ref x), (1, .int ((sSumR f (nI i4) (sSumA f i4) i12) + (sGAt f (nI i12) (nI i4)))), (2, .int (nI i4)), (3, .int (nI (i12 + 1)))]) (v := nI (i12 + 1)) F dX4_mean_30 3 rfl (nI_1 _) (by decide) [1, 2, 3, 0] rfl ?_
          refine g_goto (tgt := 12) F dX4_mean_33 (by decide) ?_
          exact ih12 (i12 + 1) (by omega)
      exact lp12 12 0 (by omega)
  exact lp4 8 0 (by omega)
end PTAPC
