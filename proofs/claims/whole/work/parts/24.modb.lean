/-! the reference: runs and counts -/
section PMODB
set_option maxHeartbeats 4000000 in
set_option maxRecDepth 100000 in
theorem c_X5_isLikeAbove (E : gE) (a : Nat) (k : AF) (y : Nat) (hy : y < 8) : Ct E yX5_isLikeAbove wsX5_isLikeAbove ({ frames := 1, cells := 0, slots := 0, locals := 21 }) [.ref a, .int (nI y)] [(a, .inl (E.2.2, 96, .inl k))] (some (.int (mLike k y))) [(a, .inl (E.2.2, 96, .inl k))] := by
  refine Ct.of (cc := cX5_isLikeAbove) (maxL := 3) (ret := (some .boolean)) (own := RX5) (L := [(0, .ref a), (1, .int (nI y))]) (by decide) rfl rfl rfl (Nat.le_of_ble_eq_true rfl) rfl ?_
  intro X F hQ
  refine g_iload_n F dX5_isLikeAbove_0 rfl 1 rfl ?_
  refine g_if_ne (tgt := 6) F dX5_isLikeAbove_1 (by decide) (fun k1 => ?_) (fun k1 => ?_)
  · skip
    have hy0 : ¬ y = 0 := fun z => k1 (by rw [z]; rfl)
    refine g_iconst (v := 0) F dX5_isLikeAbove_6 (by decide) ?_
    refine g_istore_n (L' := [(0, .ref a), (1, .int (nI y)), (2, .int 0)]) F dX5_isLikeAbove_7 rfl (by decide) [1, 2, 0] rfl ?_
    have lp8 : ∀ (n8 i8 : Nat), i8 + n8 = 12 → (∀ x, x < i8 → k (12 * y + x) = k (12 * (y - 1) + x)) → G E X 0 0 8 [(0, .ref a), (1, .int (nI y)), (2, .int (nI i8))] [] [(a, .inl (E.2.2, 96, .inl k))] := by
      intro n8
      induction n8 with
      | zero =>
        intro i8 hi8  ha
        have he8 : i8 = 12 := by omega
        rw [he8] at ha
        rw [he8]
        refine g_iload_n F dX5_isLikeAbove_8 rfl 2 rfl ?_
        refine g_bipush (v := 12) F dX5_isLikeAbove_9 (by decide) ?_
        refine g_icmp_ge_t (tgt := 41) F dX5_isLikeAbove_11 (by decide) (by decide) ?_
        refine g_iconst (v := 1) F dX5_isLikeAbove_41 (by decide) ?_
        exact g_zret F hQ dX5_isLikeAbove_42 (Or.inr rfl) (by rw [mLike, if_neg hy0, pIf_pos ha]) (rfl)
      | succ n8 ih8 =>
        intro i8 hi8  ha
        have hl8 : i8 < 12 := by omega
        refine g_iload_n F dX5_isLikeAbove_8 rfl 2 rfl ?_
        refine g_bipush (v := 12) F dX5_isLikeAbove_9 (by decide) ?_
        refine g_icmp_ge_f (tgt := 41) F dX5_isLikeAbove_11 (by decide) (nle_nI (n := 12) hl8 (by omega)) ?_
        refine g_aload_n F dX5_isLikeAbove_14 rfl 0 rfl ?_
        refine g_iload_n F dX5_isLikeAbove_15 rfl 2 rfl ?_
        refine g_iload_n F dX5_isLikeAbove_16 rfl 1 rfl ?_
        refine g_callS (ws' := [(a, .inl (E.2.2, 96, .inl k))]) F dX5_isLikeAbove_17 (c_X5_at E (nI i8) (nI y) ) rfl gX5_isLikeAbove_X5_at kS_X5_at ⟨by decide, by decide⟩ [] rfl (by decide +kernel) rfl rfl (Nat.le_of_ble_eq_true rfl) ⟨by decide, by decide⟩ ?_
        refine g_topr (y := nI (12 * y + i8)) (by rw [show (12 : Int32) = nI 12 from rfl, pk_mul, nI_add]) ?_
        refine g_ialdN (k := 12 * y + i8) F dX5_isLikeAbove_20 0 rfl (by omega) (by first | decide | omega) ?_
        refine g_aload_n F dX5_isLikeAbove_21 rfl 0 rfl ?_
        refine g_iload_n F dX5_isLikeAbove_22 rfl 2 rfl ?_
        refine g_iload_n F dX5_isLikeAbove_23 rfl 1 rfl ?_
        refine g_iconst (v := 1) F dX5_isLikeAbove_24 (by decide) ?_
        refine g_isub F dX5_isLikeAbove_25 ?_
        refine g_topr (y := nI (y - 1)) (by have := nI_pred (y - 1); rw [show y - 1 + 1 = y by omega] at this; exact this) ?_
        refine g_callS (ws' := [(a, .inl (E.2.2, 96, .inl k))]) F dX5_isLikeAbove_26 (c_X5_at E (nI i8) (nI (y - 1)) ) rfl gX5_isLikeAbove_X5_at kS_X5_at ⟨by decide, by decide⟩ [] rfl (by decide +kernel) rfl rfl (Nat.le_of_ble_eq_true rfl) ⟨by decide, by decide⟩ ?_
        refine g_topr (y := nI (12 * (y - 1) + i8)) (by rw [show (12 : Int32) = nI 12 from rfl, pk_mul, nI_add]) ?_
        refine g_ialdN (k := 12 * (y - 1) + i8) F dX5_isLikeAbove_29 0 rfl (by omega) (by first | decide | omega) ?_
        refine g_icmp_eq (tgt := 35) F dX5_isLikeAbove_30 (by decide) (fun k30 => ?_) (fun k30 => ?_)
        · skip
          refine g_iinc (L' := [(0, .ref a), (1, .int (nI y)), (2, .int (nI (i8 + 1)))]) (v := nI (i8 + 1)) F dX5_isLikeAbove_35 2 rfl (nI_1 _) (by decide) [1, 2, 0] rfl ?_
          refine g_goto (tgt := 8) F dX5_isLikeAbove_38 (by decide) ?_
          exact ih8 (i8 + 1) (by omega) (lt_s ha k30)
        · skip
          refine g_iconst (v := 0) F dX5_isLikeAbove_33 (by decide) ?_
          exact g_zret F hQ dX5_isLikeAbove_34 (Or.inl rfl) (by rw [mLike, if_neg hy0, pIf_neg (fun h => k30 (h _ hl8))]) (rfl)
    exact lp8 12 0 (by omega) (fun x hx => absurd hx (Nat.not_lt_zero x))
  · skip
    refine g_iconst (v := 0) F dX5_isLikeAbove_4 (by decide) ?_
    exact g_zret F hQ dX5_isLikeAbove_5 (Or.inl rfl) (by rw [mLike, if_pos]; exact Classical.byContradiction fun z => k1 (fun q => z ((nI_eq (a := y) (b := 0) (by omega) (by omega)).mp q))) (rfl)

set_option maxHeartbeats 4000000 in
set_option maxRecDepth 100000 in
theorem c_X5_endOf (E : gE) (a : Nat) (k : AF) (y : Nat) (x : Nat) (hx : x < 12) (hy : y < 8) : Ct E yX5_endOf wsX5_endOf ({ frames := 1, cells := 0, slots := 0, locals := 21 }) [.ref a, .int (nI x), .int (nI y)] [(a, .inl (E.2.2, 96, .inl k))] (some (.int (nI (mEndOf k y x)))) [(a, .inl (E.2.2, 96, .inl k))] := by
  refine Ct.of (cc := cX5_endOf) (maxL := 4) (ret := (some .int)) (own := RX5) (L := [(0, .ref a), (1, .int (nI x)), (2, .int (nI y))]) (by decide) rfl rfl rfl (Nat.le_of_ble_eq_true rfl) rfl ?_
  intro X F hQ
  refine g_iload_n F dX5_endOf_0 rfl 1 rfl ?_
  refine g_iconst (v := 1) F dX5_endOf_1 (by decide) ?_
  refine g_iadd F dX5_endOf_2 ?_
  refine g_topr (y := nI (x + 1 + 0)) (nI_1 x) ?_
  refine g_istore_n (L' := [(0, .ref a), (1, .int (nI x)), (2, .int (nI y)), (3, .int (nI (x + 1 + 0)))]) F dX5_endOf_3 rfl (by decide) [1, 2, 3, 0] rfl ?_
  have lp4 : ∀ (n4 i4 : Nat), i4 + n4 = 12 → (mEnd k y x (12 - i4) (x + 1 + i4) = mEndOf k y x) → (x + 1 + i4 ≤ 12) → G E X 0 0 4 [(0, .ref a), (1, .int (nI x)), (2, .int (nI y)), (3, .int (nI (x + 1 + i4)))] [] [(a, .inl (E.2.2, 96, .inl k))] := by
    intro n4
    induction n4 with
    | zero =>
      intro i4 hi4  hc hle
      have he4 : i4 = 12 := by omega
      exact absurd hle (by omega)
    | succ n4 ih4 =>
      intro i4 hi4  hc hle
      have hl4 : i4 < 12 := by omega
      rw [show 12 - i4 = (12 - (i4 + 1)) + 1 by omega, mEnd] at hc
      refine g_iload_n F dX5_endOf_4 rfl 3 rfl ?_
      refine g_bipush (v := 12) F dX5_endOf_5 (by decide) ?_
      refine g_icmp_ge (tgt := 41) F dX5_endOf_7 (by decide) (fun k7 => ?_) (fun k7 => ?_)
      · skip
        refine g_iload_n F dX5_endOf_41 rfl 3 rfl ?_
        exact g_iret F hQ dX5_endOf_42 (by rw [if_neg (fun z => nle_nI (n := 12) z (by omega) k7)] at hc; rw [← hc]) (rfl)
      · skip
        have hlt : x + 1 + i4 < 12 := by
          rcases Nat.lt_or_ge (x + 1 + i4) 12 with z | z
          · exact z
          · exact absurd (le_nI (n := 12) z (by omega)) k7
        refine g_iload_n F dX5_endOf_10 rfl 3 rfl ?_
        refine g_iload_n F dX5_endOf_11 rfl 1 rfl ?_
        refine g_isub F dX5_endOf_12 ?_
        refine g_topr (y := nI (x + 1 + i4 - x)) (pk_sub (by omega)) ?_
        refine g_bipush (v := 9) F dX5_endOf_13 (by decide) ?_
        refine g_icmp_ge (tgt := 41) F dX5_endOf_15 (by decide) (fun k15 => ?_) (fun k15 => ?_)
        · skip
          refine g_iload_n F dX5_endOf_41 rfl 3 rfl ?_
          exact g_iret F hQ dX5_endOf_42 (by rw [if_pos hlt, if_neg (fun z => nle_nI (n := 9) z (by omega) k15)] at hc; rw [← hc]) (rfl)
        · skip
          have h9 : x + 1 + i4 - x < 9 := by
            rcases Nat.lt_or_ge (x + 1 + i4 - x) 9 with z | z
            · exact z
            · exact absurd (le_nI (n := 9) z (by omega)) k15
          refine g_aload_n F dX5_endOf_18 rfl 0 rfl ?_
          refine g_iload_n F dX5_endOf_19 rfl 3 rfl ?_
          refine g_iload_n F dX5_endOf_20 rfl 2 rfl ?_
          refine g_callS (ws' := [(a, .inl (E.2.2, 96, .inl k))]) F dX5_endOf_21 (c_X5_at E (nI (x + 1 + i4)) (nI y) ) rfl gX5_endOf_X5_at kS_X5_at ⟨by decide, by decide⟩ [] rfl (by decide +kernel) rfl rfl (Nat.le_of_ble_eq_true rfl) ⟨by decide, by decide⟩ ?_
          refine g_topr (y := nI (12 * y + (x + 1 + i4))) (by rw [show (12 : Int32) = nI 12 from rfl, pk_mul, nI_add]) ?_
          refine g_ialdN (k := 12 * y + (x + 1 + i4)) F dX5_endOf_24 0 rfl (by omega) (by first | decide | omega) ?_
          refine g_aload_n F dX5_endOf_25 rfl 0 rfl ?_
          refine g_iload_n F dX5_endOf_26 rfl 1 rfl ?_
          refine g_iload_n F dX5_endOf_27 rfl 2 rfl ?_
          refine g_callS (ws' := [(a, .inl (E.2.2, 96, .inl k))]) F dX5_endOf_28 (c_X5_at E (nI x) (nI y) ) rfl gX5_endOf_X5_at kS_X5_at ⟨by decide, by decide⟩ [] rfl (by decide +kernel) rfl rfl (Nat.le_of_ble_eq_true rfl) ⟨by decide, by decide⟩ ?_
          refine g_topr (y := nI (12 * y + x)) (by rw [show (12 : Int32) = nI 12 from rfl, pk_mul, nI_add]) ?_
          refine g_ialdN (k := 12 * y + x) F dX5_endOf_31 0 rfl (by omega) (by first | decide | omega) ?_
          refine g_icmp_ne (tgt := 41) F dX5_endOf_32 (by decide) (fun k32 => ?_) (fun k32 => ?_)
          · skip
            refine g_iload_n F dX5_endOf_41 rfl 3 rfl ?_
            exact g_iret F hQ dX5_endOf_42 (by rw [if_pos hlt, if_pos h9, if_neg k32] at hc; rw [← hc]) (rfl)
          · skip
            have hkk : k (12 * y + (x + 1 + i4)) = k (12 * y + x) := Classical.byContradiction k32
            refine g_iinc (L' := [(0, .ref a), (1, .int (nI x)), (2, .int (nI y)), (3, .int (nI (x + 1 + i4 + 1)))]) (v := nI (x + 1 + i4 + 1)) F dX5_endOf_35 3 rfl (nI_1 _) (by decide) [1, 2, 3, 0] rfl ?_
            refine g_goto (tgt := 4) F dX5_endOf_38 (by decide) ?_
            exact ih4 (i4 + 1) (by omega) (by rw [if_pos hlt, if_pos h9, if_pos hkk] at hc; exact hc) (by omega)
  exact lp4 12 0 (by omega) rfl (by omega)

set_option maxHeartbeats 4000000 in
set_option maxRecDepth 100000 in
theorem c_X5_runs (E : gE) (a : Nat) (k : AF) (y : Nat) (hy : y < 8) : Ct E yX5_runs wsX5_runs ({ frames := 2, cells := 0, slots := 0, locals := 44 }) [.ref a, .int (nI y)] [(a, .inl (E.2.2, 96, .inl k))] (some (.int (nI (mRn k y)))) [(a, .inl (E.2.2, 96, .inl k))] := by
  refine Ct.of (cc := cX5_runs) (maxL := 4) (ret := (some .int)) (own := RX5) (L := [(0, .ref a), (1, .int (nI y))]) (by decide) rfl rfl rfl (Nat.le_of_ble_eq_true rfl) rfl ?_
  intro X F hQ
  refine g_iconst (v := 0) F dX5_runs_0 (by decide) ?_
  refine g_istore_n (L' := [(0, .ref a), (1, .int (nI y)), (2, .int 0)]) F dX5_runs_1 rfl (by decide) [1, 2, 0] rfl ?_
  refine g_iconst (v := 0) F dX5_runs_2 (by decide) ?_
  refine g_istore_n (L' := [(0, .ref a), (1, .int (nI y)), (2, .int 0), (3, .int 0)]) F dX5_runs_3 rfl (by decide) [1, 2, 3, 0] rfl ?_
  have lp4 : ∀ (n4 i4 : Nat), i4 + n4 = 12 → ∀ (x : Nat), (mRuns k y (12 - i4) x i4 = mRn k y) → (i4 ≤ x) → (x ≤ 12) → G E X 0 0 4 [(0, .ref a), (1, .int (nI y)), (2, .int (nI i4)), (3, .int (nI x))] [] [(a, .inl (E.2.2, 96, .inl k))] := by
    intro n4
    induction n4 with
    | zero =>
      intro i4 hi4 x  hc h1 h2
      have he4 : i4 = 12 := by omega
      rw [he4] at hc h1
      rw [he4]
      refine g_iload_n F dX5_runs_4 rfl 3 rfl ?_
      refine g_bipush (v := 12) F dX5_runs_5 (by decide) ?_
      refine g_icmp_ge_t (tgt := 23) F dX5_runs_7 (by decide) (le_nI (n := 12) (by omega) (by omega)) ?_
      refine g_iload_n F dX5_runs_23 rfl 2 rfl ?_
      exact g_iret F hQ dX5_runs_24 (by rw [← hc]; rfl) (rfl)
    | succ n4 ih4 =>
      intro i4 hi4 x  hc h1 h2
      have hl4 : i4 < 12 := by omega
      rw [show 12 - i4 = (12 - (i4 + 1)) + 1 by omega, mRuns] at hc
      refine g_iload_n F dX5_runs_4 rfl 3 rfl ?_
      refine g_bipush (v := 12) F dX5_runs_5 (by decide) ?_
      refine g_icmp_ge (tgt := 23) F dX5_runs_7 (by decide) (fun k7 => ?_) (fun k7 => ?_)
      · skip
        refine g_iload_n F dX5_runs_23 rfl 2 rfl ?_
        exact g_iret F hQ dX5_runs_24 (by rw [if_neg (fun z => nle_nI (n := 12) z (by omega) k7)] at hc; rw [← hc]) (rfl)
      · skip
        have hlt : x < 12 := by
          rcases Nat.lt_or_ge x 12 with z | z
          · exact z
          · exact absurd (le_nI (n := 12) z (by omega)) k7
        refine g_iinc (L' := [(0, .ref a), (1, .int (nI y)), (2, .int (nI (i4 + 1))), (3, .int (nI x))]) (v := nI (i4 + 1)) F dX5_runs_10 2 rfl (nI_1 _) (by decide) [1, 2, 0, 3] rfl ?_
        refine g_aload_n F dX5_runs_13 rfl 0 rfl ?_
        refine g_iload_n F dX5_runs_14 rfl 3 rfl ?_
        refine g_iload_n F dX5_runs_15 rfl 1 rfl ?_
        refine g_callS (ws' := [(a, .inl (E.2.2, 96, .inl k))]) F dX5_runs_16 (c_X5_endOf E a k y x (by first | assumption | decide | omega) (by first | assumption | decide | omega)) rfl gX5_runs_X5_endOf kS_X5_endOf ⟨by decide, by decide⟩ [0] rfl (by decide +kernel) rfl rfl (Nat.le_of_ble_eq_true rfl) ⟨by decide, by decide⟩ ?_
        refine g_istore_n (L' := [(0, .ref a), (1, .int (nI y)), (2, .int (nI (i4 + 1))), (3, .int (nI (mEndOf k y x)))]) F dX5_runs_19 rfl (by decide) [1, 2, 3, 0] rfl ?_
        refine g_goto (tgt := 4) F dX5_runs_20 (by decide) ?_
        exact ih4 (i4 + 1) (by omega) _ (by rw [if_pos hlt] at hc; exact hc) (by have := mEndOf_bd k y hlt; omega) (by have := mEndOf_bd k y hlt; omega)
  exact lp4 12 0 (by omega) 0 rfl (by omega) (by omega)

set_option maxHeartbeats 4000000 in
set_option maxRecDepth 100000 in
theorem c_X5_knotsOf (E : gE) (y : Nat) (y1 : Nat) (y2 : Nat) (y3 : Nat) (y4 : Nat) (y5 : Nat) (y6 : Nat) (y7 : Nat) (y8 : Nat) (y9 : Nat) (a : Nat) (k : AF) (thr : Int32) (col : Int32) (car : Int32) (tur : Int32) (pre : Int32) (mb : Int32) (off : Int32) (wov : Int32) (km : Int32) (ko : Int32) (r : Nat) (hr : r < 8) : Ct E yX5_knotsOf wsX5_knotsOf ({ frames := 3, cells := 0, slots := 0, locals := 67 }) [.ref y, .ref a, .int (nI r)] [(y, .inr (5, [.int thr, .ref y1, .int col, .int car, .int tur, .int pre, .ref y2, .int mb, .ref y3, .ref y4, .ref y5, .int off, .ref y6, .ref y7, .int wov, .int km, .int ko, .ref y8, .ref y9])), (a, .inl (E.2.2, 96, .inl k))] (some (.int (mKn k pre r))) [(y, .inr (5, [.int thr, .ref y1, .int col, .int car, .int tur, .int pre, .ref y2, .int mb, .ref y3, .ref y4, .ref y5, .int off, .ref y6, .ref y7, .int wov, .int km, .int ko, .ref y8, .ref y9])), (a, .inl (E.2.2, 96, .inl k))] := by
  refine Ct.of (cc := cX5_knotsOf) (maxL := 3) (ret := (some .int)) (own := RX5) (L := [(0, .ref y), (1, .ref a), (2, .int (nI r))]) (by decide) rfl rfl rfl (Nat.le_of_ble_eq_true rfl) rfl ?_
  intro X F hQ
  have i5 : ∀ w ∈ u_ws RX5 TX5 19, w ∈ wsX5_knotsOf := gsub [15, 16, 17, 18, 19, 20, 21, 22, 23, 24, 25, 26, 27, 28, 29, 30, 31, 32, 33] rfl
  refine g_aload_n F dX5_knotsOf_0 rfl 0 rfl ?_
  refine g_get F dX5_knotsOf_1 0 rfl rfl i5 5 (by decide) rfl (List.mem_of_getElem? (i := 1) rfl) ?_
  refine g_if_eq (tgt := 19) F dX5_knotsOf_4 (by decide) (fun k4 => ?_) (fun k4 => ?_)
  · skip
    refine g_aload_n F dX5_knotsOf_19 rfl 1 rfl ?_
    refine g_iload_n F dX5_knotsOf_20 rfl 2 rfl ?_
    refine g_callS (ws' := [(y, .inr (5, [.int thr, .ref y1, .int col, .int car, .int tur, .int pre, .ref y2, .int mb, .ref y3, .ref y4, .ref y5, .int off, .ref y6, .ref y7, .int wov, .int km, .int ko, .ref y8, .ref y9])), (a, .inl (E.2.2, 96, .inl k))]) F dX5_knotsOf_21 (c_X5_runs E a k r (by first | assumption | decide | omega)) rfl gX5_knotsOf_X5_runs kS_X5_runs ⟨by decide, by decide⟩ [1] rfl (by decide +kernel) rfl rfl (Nat.le_of_ble_eq_true rfl) ⟨by decide, by decide⟩ ?_
    exact g_iret F hQ dX5_knotsOf_24 (by simp [mKn, k4]) (rfl)
  · skip
    refine g_aload_n F dX5_knotsOf_7 rfl 1 rfl ?_
    refine g_iload_n F dX5_knotsOf_8 rfl 2 rfl ?_
    refine g_callS (ws' := [(y, .inr (5, [.int thr, .ref y1, .int col, .int car, .int tur, .int pre, .ref y2, .int mb, .ref y3, .ref y4, .ref y5, .int off, .ref y6, .ref y7, .int wov, .int km, .int ko, .ref y8, .ref y9])), (a, .inl (E.2.2, 96, .inl k))]) F dX5_knotsOf_9 (c_X5_isLikeAbove E a k r (by first | assumption | decide | omega)) rfl gX5_knotsOf_X5_isLikeAbove kS_X5_isLikeAbove ⟨by decide, by decide⟩ [1] rfl (by decide +kernel) rfl rfl (Nat.le_of_ble_eq_true rfl) ⟨by decide, by decide⟩ ?_
    refine g_if_eq (tgt := 19) F dX5_knotsOf_12 (by decide) (fun k12 => ?_) (fun k12 => ?_)
    · skip
      refine g_aload_n F dX5_knotsOf_19 rfl 1 rfl ?_
      refine g_iload_n F dX5_knotsOf_20 rfl 2 rfl ?_
      refine g_callS (ws' := [(y, .inr (5, [.int thr, .ref y1, .int col, .int car, .int tur, .int pre, .ref y2, .int mb, .ref y3, .ref y4, .ref y5, .int off, .ref y6, .ref y7, .int wov, .int km, .int ko, .ref y8, .ref y9])), (a, .inl (E.2.2, 96, .inl k))]) F dX5_knotsOf_21 (c_X5_runs E a k r (by first | assumption | decide | omega)) rfl gX5_knotsOf_X5_runs kS_X5_runs ⟨by decide, by decide⟩ [1] rfl (by decide +kernel) rfl rfl (Nat.le_of_ble_eq_true rfl) ⟨by decide, by decide⟩ ?_
      exact g_iret F hQ dX5_knotsOf_24 (by simp [mKn, k4, k12]) (rfl)
    · skip
      refine g_iconst (v := 1) F dX5_knotsOf_15 (by decide) ?_
      refine g_goto (tgt := 24) F dX5_knotsOf_16 (by decide) ?_
      exact g_iret F hQ dX5_knotsOf_24 (by simp [mKn, k4, k12]) (rfl)

set_option maxHeartbeats 4000000 in
set_option maxRecDepth 100000 in
theorem c_X5_allKnots (E : gE) (y : Nat) (y1 : Nat) (y2 : Nat) (y3 : Nat) (y4 : Nat) (y5 : Nat) (y6 : Nat) (y7 : Nat) (y8 : Nat) (y9 : Nat) (a : Nat) (k : AF) (thr : Int32) (col : Int32) (car : Int32) (tur : Int32) (pre : Int32) (mb : Int32) (off : Int32) (wov : Int32) (km : Int32) (ko : Int32) : Ct E yX5_allKnots wsX5_allKnots ({ frames := 4, cells := 0, slots := 0, locals := 89 }) [.ref y, .ref a] [(y, .inr (5, [.int thr, .ref y1, .int col, .int car, .int tur, .int pre, .ref y2, .int mb, .ref y3, .ref y4, .ref y5, .int off, .ref y6, .ref y7, .int wov, .int km, .int ko, .ref y8, .ref y9])), (a, .inl (E.2.2, 96, .inl k))] (some (.int (mAK k pre 8))) [(y, .inr (5, [.int thr, .ref y1, .int col, .int car, .int tur, .int pre, .ref y2, .int mb, .ref y3, .ref y4, .ref y5, .int off, .ref y6, .ref y7, .int wov, .int km, .int ko, .ref y8, .ref y9])), (a, .inl (E.2.2, 96, .inl k))] := by
  refine Ct.of (cc := cX5_allKnots) (maxL := 4) (ret := (some .int)) (own := RX5) (L := [(0, .ref y), (1, .ref a)]) (by decide) rfl rfl rfl (Nat.le_of_ble_eq_true rfl) rfl ?_
  intro X F hQ
  have i5 : ∀ w ∈ u_ws RX5 TX5 19, w ∈ wsX5_allKnots := gsub [19, 20, 21, 22, 23, 24, 25, 26, 27, 28, 29, 30, 31, 32, 33, 34, 35, 36, 37] rfl
  refine g_iconst (v := 0) F dX5_allKnots_0 (by decide) ?_
  refine g_istore_n (L' := [(0, .ref y), (1, .ref a), (2, .int 0)]) F dX5_allKnots_1 rfl (by decide) [1, 2, 0] rfl ?_
  refine g_iconst (v := 0) F dX5_allKnots_2 (by decide) ?_
  refine g_istore_n (L' := [(0, .ref y), (1, .ref a), (2, .int 0), (3, .int 0)]) F dX5_allKnots_3 rfl (by decide) [1, 2, 3, 0] rfl ?_
  have lp4 : ∀ (n4 i4 : Nat), i4 + n4 = 8 → G E X 0 0 4 [(0, .ref y), (1, .ref a), (2, .int (mAK k pre i4)), (3, .int (nI i4))] [] [(y, .inr (5, [.int thr, .ref y1, .int col, .int car, .int tur, .int pre, .ref y2, .int mb, .ref y3, .ref y4, .ref y5, .int off, .ref y6, .ref y7, .int wov, .int km, .int ko, .ref y8, .ref y9])), (a, .inl (E.2.2, 96, .inl k))] := by
    intro n4
    induction n4 with
    | zero =>
      intro i4 hi4
      have he4 : i4 = 8 := by omega
      rw [he4]
      refine g_iload_n F dX5_allKnots_4 rfl 3 rfl ?_
      refine g_bipush (v := 8) F dX5_allKnots_5 (by decide) ?_
      refine g_icmp_ge_t (tgt := 25) F dX5_allKnots_7 (by decide) (by decide) ?_
      refine g_iload_n F dX5_allKnots_25 rfl 2 rfl ?_
      exact g_iret F hQ dX5_allKnots_26 (rfl) (rfl)
    | succ n4 ih4 =>
      intro i4 hi4
      have hl4 : i4 < 8 := by omega
      refine g_iload_n F dX5_allKnots_4 rfl 3 rfl ?_
      refine g_bipush (v := 8) F dX5_allKnots_5 (by decide) ?_
      refine g_icmp_ge_f (tgt := 25) F dX5_allKnots_7 (by decide) (nle_nI (n := 8) hl4 (by omega)) ?_
      refine g_iload_n F dX5_allKnots_10 rfl 2 rfl ?_
      refine g_aload_n F dX5_allKnots_11 rfl 0 rfl ?_
      refine g_aload_n F dX5_allKnots_12 rfl 1 rfl ?_
      refine g_iload_n F dX5_allKnots_13 rfl 3 rfl ?_
      refine g_callV (ws' := [(y, .inr (5, [.int thr, .ref y1, .int col, .int car, .int tur, .int pre, .ref y2, .int mb, .ref y3, .ref y4, .ref y5, .int off, .ref y6, .ref y7, .int wov, .int km, .int ko, .ref y8, .ref y9])), (a, .inl (E.2.2, 96, .inl k))]) F dX5_allKnots_14 (c_X5_knotsOf E y y1 y2 y3 y4 y5 y6 y7 y8 y9 a k thr col car tur pre mb off wov km ko i4 (by first | assumption | decide | omega)) rfl gX5_allKnots_X5_knotsOf 0 rfl rfl kV_X5_knotsOf ⟨by decide, by decide⟩ [0, 1] rfl (by decide +kernel) rfl rfl (Nat.le_of_ble_eq_true rfl) ⟨by decide, by decide⟩ ?_
      refine g_iadd F dX5_allKnots_17 ?_
      refine g_istore_n (L' := [(0, .ref y), (1, .ref a), (2, .int ((mAK k pre i4) + (mKn k pre i4))), (3, .int (nI i4))]) F dX5_allKnots_18 rfl (by decide) [1, 2, 0, 3] rfl ?_
      refine g_iinc (L' := [(0, .ref y), (1, .ref a), (2, .int ((mAK k pre i4) + (mKn k pre i4))), (3, .int (nI (i4 + 1)))]) (v := nI (i4 + 1)) F dX5_allKnots_19 3 rfl (nI_1 _) (by decide) [1, 2, 3, 0] rfl ?_
      refine g_goto (tgt := 4) F dX5_allKnots_22 (by decide) ?_
      exact ih4 (i4 + 1) (by omega)
  exact lp4 8 0 (by omega)

set_option maxHeartbeats 4000000 in
set_option maxRecDepth 100000 in
theorem c_X5_cellsOf (E : gE) (a : Nat) (k : AF) (c : Int32) : Ct E yX5_cellsOf wsX5_cellsOf ({ frames := 0, cells := 0, slots := 0, locals := 0 }) [.ref a, .int c] [(a, .inl (E.2.2, 96, .inl k))] (some (.int (mCo k c 96))) [(a, .inl (E.2.2, 96, .inl k))] := by
  refine Ct.of (cc := cX5_cellsOf) (maxL := 7) (ret := (some .int)) (own := RX5) (L := [(0, .ref a), (1, .int c)]) (by decide) rfl rfl rfl (Nat.le_of_ble_eq_true rfl) rfl ?_
  intro X F hQ
  refine g_iconst (v := 0) F dX5_cellsOf_0 (by decide) ?_
  refine g_istore_n (L' := [(0, .ref a), (1, .int c), (2, .int 0)]) F dX5_cellsOf_1 rfl (by decide) [1, 2, 0] rfl ?_
  refine g_aload_n F dX5_cellsOf_2 rfl 0 rfl ?_
  refine g_astore_n (L' := [(0, .ref a), (1, .int c), (2, .int 0), (3, .ref a)]) F dX5_cellsOf_3 rfl (by decide) [1, 2, 3, 0] rfl ?_
  refine g_aload_n F dX5_cellsOf_4 rfl 3 rfl ?_
  refine g_alen (v := 96) F dX5_cellsOf_5 0 rfl rfl ?_
  refine g_istore (L' := [(0, .ref a), (1, .int c), (2, .int 0), (3, .ref a), (4, .int 96)]) F dX5_cellsOf_6 (by decide) [1, 2, 3, 4, 0] rfl ?_
  refine g_iconst (v := 0) F dX5_cellsOf_8 (by decide) ?_
  refine g_istore (L' := [(0, .ref a), (1, .int c), (2, .int 0), (3, .ref a), (4, .int 96), (5, .int 0)]) F dX5_cellsOf_9 (by decide) [1, 2, 3, 4, 5, 0] rfl ?_
  have lp11 : ∀ (n11 i11 : Nat), i11 + n11 = 96 → G E X 0 0 11 [(0, .ref a), (1, .int c), (2, .int (mCo k c i11)), (3, .ref a), (4, .int 96), (5, .int (nI i11))] [] [(a, .inl (E.2.2, 96, .inl k))] := by
    intro n11
    induction n11 with
    | zero =>
      intro i11 hi11
      have he11 : i11 = 96 := by omega
      rw [he11]
      refine g_iload F dX5_cellsOf_11 5 rfl ?_
      refine g_iload F dX5_cellsOf_13 4 rfl ?_
      refine g_icmp_ge_t (tgt := 44) F dX5_cellsOf_15 (by decide) (by decide) ?_
      refine g_iload_n F dX5_cellsOf_44 rfl 2 rfl ?_
      exact g_iret F hQ dX5_cellsOf_45 (rfl) (rfl)
    | succ n11 ih11 =>
      intro i11 hi11
      have hl11 : i11 < 96 := by omega
      refine g_iload F dX5_cellsOf_11 5 rfl ?_
      refine g_iload F dX5_cellsOf_13 4 rfl ?_
      refine g_icmp_ge_f (tgt := 44) F dX5_cellsOf_15 (by decide) (nle_nI (n := 96) hl11 (by omega)) ?_
      refine g_aload_n F dX5_cellsOf_18 rfl 3 rfl ?_
      refine g_iload F dX5_cellsOf_19 5 rfl ?_
      refine g_ialdN (k := i11) F dX5_cellsOf_21 0 rfl (by omega) (by first | decide | omega) ?_
      refine g_istore (L' := [(0, .ref a), (1, .int c), (2, .int (mCo k c i11)), (3, .ref a), (4, .int 96), (5, .int (nI i11)), (6, .int (k i11))]) F dX5_cellsOf_22 (by decide) [1, 2, 3, 4, 5, 6, 0] rfl ?_
      refine g_iload_n F dX5_cellsOf_24 rfl 2 rfl ?_
      refine g_iload F dX5_cellsOf_25 6 rfl ?_
      refine g_iload_n F dX5_cellsOf_27 rfl 1 rfl ?_
      have jn36 : G E X 0 0 36 [(0, .ref a), (1, .int c), (2, .int (mCo k c i11)), (3, .ref a), (4, .int 96), (5, .int (nI i11)), (6, .int (k i11))] [.int (if ¬ k i11 = c then 0 else 1), .int (mCo k c i11)] [(a, .inl (E.2.2, 96, .inl k))] := by
        refine g_iadd F dX5_cellsOf_36 ?_
        refine g_istore_n (L' := [(0, .ref a), (1, .int c), (2, .int ((mCo k c i11) + (if ¬ k i11 = c then 0 else 1))), (3, .ref a), (4, .int 96), (5, .int (nI i11)), (6, .int (k i11))]) F dX5_cellsOf_37 rfl (by decide) [1, 2, 0, 3, 4, 5, 6] rfl ?_
        refine g_iinc (L' := [(0, .ref a), (1, .int c), (2, .int ((mCo k c i11) + (if ¬ k i11 = c then 0 else 1))), (3, .ref a), (4, .int 96), (5, .int (nI (i11 + 1))), (6, .int (k i11))]) (v := nI (i11 + 1)) F dX5_cellsOf_38 5 rfl (nI_1 _) (by decide) [1, 2, 3, 4, 5, 0, 6] rfl ?_
        refine g_goto (tgt := 11) F dX5_cellsOf_41 (by decide) ?_
        refine g_lv (L' := [(0, .ref a), (1, .int c), (2, .int ((mCo k c i11) + (if ¬ k i11 = c then 0 else 1))), (3, .ref a), (4, .int 96), (5, .int (nI (i11 + 1)))]) [0, 1, 2, 3, 4, 5] rfl ?_
        exact ih11 (i11 + 1) (by omega)
      refine g_icmp_ne (tgt := 35) F dX5_cellsOf_28 (by decide) (fun k28 => ?_) (fun k28 => ?_)
      · skip
        refine g_iconst (v := 0) F dX5_cellsOf_35 (by decide) ?_
        exact g_topr (by simp [k28]) jn36
      · skip
        refine g_iconst (v := 1) F dX5_cellsOf_31 (by decide) ?_
        refine g_goto (tgt := 36) F dX5_cellsOf_32 (by decide) ?_
        exact g_topr (by simp [k28]) jn36
  exact lp11 96 0 (by omega)
end PMODB
