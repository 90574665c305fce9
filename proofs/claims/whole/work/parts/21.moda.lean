/-! the reference: small methods -/
section PMODA
set_option maxHeartbeats 4000000 in
set_option maxRecDepth 100000 in
theorem c_X5_thrown (E : gE) (y : Nat) (y1 : Nat) (y2 : Nat) (y3 : Nat) (y4 : Nat) (y5 : Nat) (y6 : Nat) (y7 : Nat) (y8 : Nat) (y9 : Nat) (thr : Int32) (col : Int32) (car : Int32) (tur : Int32) (pre : Int32) (mb : Int32) (off : Int32) (wov : Int32) (km : Int32) (ko : Int32) : Ct E yX5_thrown wsX5_thrown ({ frames := 0, cells := 0, slots := 0, locals := 0 }) [.ref y] [(y, .inr (5, [.int thr, .ref y1, .int col, .int car, .int tur, .int pre, .ref y2, .int mb, .ref y3, .ref y4, .ref y5, .int off, .ref y6, .ref y7, .int wov, .int km, .int ko, .ref y8, .ref y9]))] (some (.int thr)) [(y, .inr (5, [.int thr, .ref y1, .int col, .int car, .int tur, .int pre, .ref y2, .int mb, .ref y3, .ref y4, .ref y5, .int off, .ref y6, .ref y7, .int wov, .int km, .int ko, .ref y8, .ref y9]))] := by
  refine Ct.of (cc := cX5_thrown) (maxL := 1) (ret := (some .int)) (own := RX5) (L := [(0, .ref y)]) (by decide) rfl rfl rfl (Nat.le_of_ble_eq_true rfl) rfl ?_
  intro X F hQ
  have i5 : ∀ w ∈ u_ws RX5 TX5 19, w ∈ wsX5_thrown := gsub [2, 3, 4, 5, 6, 7, 8, 9, 10, 11, 12, 13, 14, 15, 16, 17, 18, 19, 20] rfl
  refine g_aload_n F dX5_thrown_0 rfl 0 rfl ?_
  refine g_get F dX5_thrown_1 0 rfl rfl i5 0 (by decide) rfl (List.mem_of_getElem? (i := 1) rfl) ?_
  exact g_iret F hQ dX5_thrown_4 (rfl) (rfl)

set_option maxHeartbeats 4000000 in
set_option maxRecDepth 100000 in
theorem c_X5_no (E : gE) (y : Nat) (y1 : Nat) (y2 : Nat) (y3 : Nat) (y4 : Nat) (y5 : Nat) (y6 : Nat) (y7 : Nat) (y8 : Nat) (y9 : Nat) (thr : Int32) (col : Int32) (car : Int32) (tur : Int32) (pre : Int32) (mb : Int32) (off : Int32) (wov : Int32) (km : Int32) (ko : Int32) (n : Int32) : Ct E yX5_no wsX5_no ({ frames := 0, cells := 0, slots := 0, locals := 0 }) [.ref y, .int n] [(y, .inr (5, [.int thr, .ref y1, .int col, .int car, .int tur, .int pre, .ref y2, .int mb, .ref y3, .ref y4, .ref y5, .int off, .ref y6, .ref y7, .int wov, .int km, .int ko, .ref y8, .ref y9]))] (some (.int 0)) [(y, .inr (5, [.int n, .ref y1, .int col, .int car, .int tur, .int pre, .ref y2, .int mb, .ref y3, .ref y4, .ref y5, .int off, .ref y6, .ref y7, .int wov, .int km, .int ko, .ref y8, .ref y9]))] := by
  refine Ct.of (cc := cX5_no) (maxL := 2) (ret := (some .int)) (own := RX5) (L := [(0, .ref y), (1, .int n)]) (by decide) rfl rfl rfl (Nat.le_of_ble_eq_true rfl) rfl ?_
  intro X F hQ
  have i5 : ∀ w ∈ u_ws RX5 TX5 19, w ∈ wsX5_no := gsub [2, 3, 4, 5, 6, 7, 8, 9, 10, 11, 12, 13, 14, 15, 16, 17, 18, 19, 20] rfl
  refine g_aload_n F dX5_no_0 rfl 0 rfl ?_
  refine g_iload_n F dX5_no_1 rfl 1 rfl ?_
  refine g_put (ws' := [(y, .inr (5, [.int n, .ref y1, .int col, .int car, .int tur, .int pre, .ref y2, .int mb, .ref y3, .ref y4, .ref y5, .int off, .ref y6, .ref y7, .int wov, .int km, .int ko, .ref y8, .ref y9]))]) F dX5_no_2 0 rfl rfl i5 tyX5 tyX5_ok nmX5 0 (by decide) rfl (rfl) (rfl) (Nat.le_of_ble_eq_true rfl) (List.mem_of_getElem? (i := 1) rfl) rfl ?_
  refine g_iconst (v := 0) F dX5_no_5 (by decide) ?_
  exact g_iret F hQ dX5_no_6 (rfl) (rfl)

set_option maxHeartbeats 4000000 in
set_option maxRecDepth 100000 in
theorem c_X5_isIn (E : gE) (v : Int32) (a : Int32) (b : Int32) : Ct E yX5_isIn wsX5_isIn ({ frames := 0, cells := 0, slots := 0, locals := 0 }) [.int v, .int a, .int b] [] (some (.int (mIn v a b))) [] := by
  refine Ct.of (cc := cX5_isIn) (maxL := 3) (ret := (some .boolean)) (own := RX5) (L := [(0, .int v), (1, .int a), (2, .int b)]) (by decide) rfl rfl rfl (Nat.le_of_ble_eq_true rfl) rfl ?_
  intro X F hQ
  refine g_iload_n F dX5_isIn_0 rfl 0 rfl ?_
  refine g_iload_n F dX5_isIn_1 rfl 1 rfl ?_
  refine g_icmp_lt (tgt := 14) F dX5_isIn_2 (by decide) (fun k2 => ?_) (fun k2 => ?_)
  · skip
    refine g_iconst (v := 0) F dX5_isIn_14 (by decide) ?_
    exact g_zret F hQ dX5_isIn_15 (Or.inl rfl) (by simp [mIn, k2]) (rfl)
  · skip
    refine g_iload_n F dX5_isIn_5 rfl 0 rfl ?_
    refine g_iload_n F dX5_isIn_6 rfl 2 rfl ?_
    refine g_icmp_gt (tgt := 14) F dX5_isIn_7 (by decide) (fun k7 => ?_) (fun k7 => ?_)
    · skip
      refine g_iconst (v := 0) F dX5_isIn_14 (by decide) ?_
      exact g_zret F hQ dX5_isIn_15 (Or.inl rfl) (by simp [mIn, k2, k7]) (rfl)
    · skip
      refine g_iconst (v := 1) F dX5_isIn_10 (by decide) ?_
      refine g_goto (tgt := 15) F dX5_isIn_11 (by decide) ?_
      exact g_zret F hQ dX5_isIn_15 (Or.inr rfl) (by simp [mIn, k2, k7]) (rfl)

set_option maxHeartbeats 4000000 in
set_option maxRecDepth 100000 in
theorem c_X5_isX (E : gE) (v : Int32) : Ct E yX5_isX wsX5_isX ({ frames := 1, cells := 0, slots := 0, locals := 22 }) [.int v] [] (some (.int (mIn v 0 11))) [] := by
  refine Ct.of (cc := cX5_isX) (maxL := 1) (ret := (some .boolean)) (own := RX5) (L := [(0, .int v)]) (by decide) rfl rfl rfl (Nat.le_of_ble_eq_true rfl) rfl ?_
  intro X F hQ
  refine g_iload_n F dX5_isX_0 rfl 0 rfl ?_
  refine g_iconst (v := 0) F dX5_isX_1 (by decide) ?_
  refine g_bipush (v := 11) F dX5_isX_2 (by decide) ?_
  refine g_callS (ws' := []) F dX5_isX_4 (c_X5_isIn E v 0 11 ) rfl gX5_isX_X5_isIn kS_X5_isIn ⟨by decide, by decide⟩ [] rfl (by decide +kernel) rfl rfl (Nat.le_of_ble_eq_true rfl) ⟨by decide, by decide⟩ ?_
  exact g_zret F hQ dX5_isX_7 (by unfold mIn; split; exact Or.inl rfl; split; exact Or.inl rfl; exact Or.inr rfl) (rfl) (rfl)

set_option maxHeartbeats 4000000 in
set_option maxRecDepth 100000 in
theorem c_X5_isY (E : gE) (v : Int32) : Ct E yX5_isY wsX5_isY ({ frames := 1, cells := 0, slots := 0, locals := 22 }) [.int v] [] (some (.int (mIn v 0 7))) [] := by
  refine Ct.of (cc := cX5_isY) (maxL := 1) (ret := (some .boolean)) (own := RX5) (L := [(0, .int v)]) (by decide) rfl rfl rfl (Nat.le_of_ble_eq_true rfl) rfl ?_
  intro X F hQ
  refine g_iload_n F dX5_isY_0 rfl 0 rfl ?_
  refine g_iconst (v := 0) F dX5_isY_1 (by decide) ?_
  refine g_bipush (v := 7) F dX5_isY_2 (by decide) ?_
  refine g_callS (ws' := []) F dX5_isY_4 (c_X5_isIn E v 0 7 ) rfl gX5_isY_X5_isIn kS_X5_isIn ⟨by decide, by decide⟩ [] rfl (by decide +kernel) rfl rfl (Nat.le_of_ble_eq_true rfl) ⟨by decide, by decide⟩ ?_
  exact g_zret F hQ dX5_isY_7 (by unfold mIn; split; exact Or.inl rfl; split; exact Or.inl rfl; exact Or.inr rfl) (rfl) (rfl)

set_option maxHeartbeats 4000000 in
set_option maxRecDepth 100000 in
theorem c_X5_isSpool (E : gE) (v : Int32) : Ct E yX5_isSpool wsX5_isSpool ({ frames := 1, cells := 0, slots := 0, locals := 22 }) [.int v] [] (some (.int (mIn v 0 5))) [] := by
  refine Ct.of (cc := cX5_isSpool) (maxL := 1) (ret := (some .boolean)) (own := RX5) (L := [(0, .int v)]) (by decide) rfl rfl rfl (Nat.le_of_ble_eq_true rfl) rfl ?_
  intro X F hQ
  refine g_iload_n F dX5_isSpool_0 rfl 0 rfl ?_
  refine g_iconst (v := 0) F dX5_isSpool_1 (by decide) ?_
  refine g_iconst (v := 5) F dX5_isSpool_2 (by decide) ?_
  refine g_callS (ws' := []) F dX5_isSpool_3 (c_X5_isIn E v 0 5 ) rfl gX5_isSpool_X5_isIn kS_X5_isIn ⟨by decide, by decide⟩ [] rfl (by decide +kernel) rfl rfl (Nat.le_of_ble_eq_true rfl) ⟨by decide, by decide⟩ ?_
  exact g_zret F hQ dX5_isSpool_6 (by unfold mIn; split; exact Or.inl rfl; split; exact Or.inl rfl; exact Or.inr rfl) (rfl) (rfl)

set_option maxHeartbeats 4000000 in
set_option maxRecDepth 100000 in
theorem c_X5_at (E : gE) (a : Int32) (b : Int32) : Ct E yX5_at wsX5_at ({ frames := 0, cells := 0, slots := 0, locals := 0 }) [.int a, .int b] [] (some (.int (12 * b + a))) [] := by
  refine Ct.of (cc := cX5_at) (maxL := 2) (ret := (some .int)) (own := RX5) (L := [(0, .int a), (1, .int b)]) (by decide) rfl rfl rfl (Nat.le_of_ble_eq_true rfl) rfl ?_
  intro X F hQ
  refine g_bipush (v := 12) F dX5_at_0 (by decide) ?_
  refine g_iload_n F dX5_at_2 rfl 1 rfl ?_
  refine g_imul F dX5_at_3 ?_
  refine g_iload_n F dX5_at_4 rfl 0 rfl ?_
  refine g_iadd F dX5_at_5 ?_
  exact g_iret F hQ dX5_at_6 (rfl) (rfl)

set_option maxHeartbeats 4000000 in
set_option maxRecDepth 100000 in
theorem c_X5_sort (E : gE) (y : Nat) (y1 : Nat) (y2 : Nat) (y3 : Nat) (y4 : Nat) (y5 : Nat) (y6 : Nat) (y7 : Nat) (y8 : Nat) (y9 : Nat) (f : AF) (th : AF) (pa : AF) (so : AF) (cl : AF) (he : AF) (be : AF) (kp : AF) (kk : AF) (thr : Int32) (col : Int32) (car : Int32) (tur : Int32) (pre : Int32) (mb : Int32) (off : Int32) (wov : Int32) (km : Int32) (ko : Int32) : Ct E yX5_sort wsX5_sort ({ frames := 0, cells := 0, slots := 0, locals := 0 }) [.ref y] [(y, .inr (5, [.int thr, .ref y1, .int col, .int car, .int tur, .int pre, .ref y2, .int mb, .ref y3, .ref y4, .ref y5, .int off, .ref y6, .ref y7, .int wov, .int km, .int ko, .ref y8, .ref y9])), (y1, .inl (E.2.2, 96, .inl f)), (y2, .inl (E.2.2, 6, .inl th)), (y3, .inl (E.2.2, 6, .inl pa)), (y4, .inl (E.2.2, 96, .inl so)), (y5, .inl (E.2.2, 96, .inl cl)), (y6, .inl (E.2.2, 12, .inl he)), (y7, .inl (E.2.2, 12, .inl be)), (y8, .inl (E.2.2, 6, .inl kp)), (y9, .inl (E.2.2, 96, .inl kk))] none [(y, .inr (5, [.int thr, .ref y1, .int col, .int car, .int tur, .int pre, .ref y2, .int mb, .ref y3, .ref y4, .ref y5, .int off, .ref y6, .ref y7, .int wov, .int km, .int ko, .ref y8, .ref y9])), (y1, .inl (E.2.2, 96, .inl f)), (y2, .inl (E.2.2, 6, .inl th)), (y3, .inl (E.2.2, 6, .inl pa)), (y4, .inl (E.2.2, 96, .inl (mSrt f so))), (y5, .inl (E.2.2, 96, .inl cl)), (y6, .inl (E.2.2, 12, .inl he)), (y7, .inl (E.2.2, 12, .inl be)), (y8, .inl (E.2.2, 6, .inl kp)), (y9, .inl (E.2.2, 96, .inl kk))] := by
  refine Ct.of (cc := cX5_sort) (maxL := 7) (ret := none) (own := RX5) (L := [(0, .ref y)]) (by decide) rfl rfl rfl (Nat.le_of_ble_eq_true rfl) rfl ?_
  intro X F hQ
  have i5 : ∀ w ∈ u_ws RX5 TX5 19, w ∈ wsX5_sort := gsub [3, 4, 5, 6, 7, 8, 9, 10, 11, 12, 13, 14, 15, 16, 17, 18, 19, 20, 21] rfl
  refine g_iconst (v := 0) F dX5_sort_0 (by decide) ?_
  refine g_istore_n (L' := [(0, .ref y), (1, .int 0)]) F dX5_sort_1 rfl (by decide) [1, 0] rfl ?_
  refine g_iconst (v := 0) F dX5_sort_2 (by decide) ?_
  refine g_istore_n (L' := [(0, .ref y), (1, .int 0), (2, .int 0)]) F dX5_sort_3 rfl (by decide) [1, 2, 0] rfl ?_
  have lp4 : ∀ (n4 i4 : Nat), i4 + n4 = 256 → G E X 0 0 4 [(0, .ref y), (1, .int (nI (mSoS f so i4).2)), (2, .int (nI i4))] [] [(y, .inr (5, [.int thr, .ref y1, .int col, .int car, .int tur, .int pre, .ref y2, .int mb, .ref y3, .ref y4, .ref y5, .int off, .ref y6, .ref y7, .int wov, .int km, .int ko, .ref y8, .ref y9])), (y1, .inl (E.2.2, 96, .inl f)), (y2, .inl (E.2.2, 6, .inl th)), (y3, .inl (E.2.2, 6, .inl pa)), (y4, .inl (E.2.2, 96, .inl ((mSoS f so i4).1))), (y5, .inl (E.2.2, 96, .inl cl)), (y6, .inl (E.2.2, 12, .inl he)), (y7, .inl (E.2.2, 12, .inl be)), (y8, .inl (E.2.2, 6, .inl kp)), (y9, .inl (E.2.2, 96, .inl kk))] := by
    intro n4
    induction n4 with
    | zero =>
      intro i4 hi4
      have he4 : i4 = 256 := by omega
      rw [he4]
      refine g_iload_n F dX5_sort_4 rfl 2 rfl ?_
      refine g_sipush (v := 255) F dX5_sort_5 (by decide) ?_
      refine g_icmp_gt_t (tgt := 67) F dX5_sort_8 (by decide) (by decide) ?_
      exact g_vret F hQ dX5_sort_67 (rfl)
    | succ n4 ih4 =>
      intro i4 hi4
      have hl4 : i4 < 256 := by omega
      refine g_iload_n F dX5_sort_4 rfl 2 rfl ?_
      refine g_sipush (v := 255) F dX5_sort_5 (by decide) ?_
      refine g_icmp_gt_f (tgt := 67) F dX5_sort_8 (by decide) (nI_nlt (a := 255) (by omega) (by omega)) ?_
      refine g_aload_n F dX5_sort_11 rfl 0 rfl ?_
      refine g_get F dX5_sort_12 0 rfl rfl i5 1 (by decide) rfl (List.mem_of_getElem? (i := 1) rfl) ?_
      refine g_astore_n (L' := [(0, .ref y), (1, .int (nI (mSoS f so i4).2)), (2, .int (nI i4)), (3, .ref y1)]) F dX5_sort_15 rfl (by decide) [1, 2, 3, 0] rfl ?_
      refine g_aload_n F dX5_sort_16 rfl 3 rfl ?_
      refine g_alen (v := 96) F dX5_sort_17 1 rfl rfl ?_
      refine g_istore (L' := [(0, .ref y), (1, .int (nI (mSoS f so i4).2)), (2, .int (nI i4)), (3, .ref y1), (4, .int 96)]) F dX5_sort_18 (by decide) [1, 2, 3, 4, 0] rfl ?_
      refine g_iconst (v := 0) F dX5_sort_20 (by decide) ?_
      refine g_istore (L' := [(0, .ref y), (1, .int (nI (mSoS f so i4).2)), (2, .int (nI i4)), (3, .ref y1), (4, .int 96), (5, .int 0)]) F dX5_sort_21 (by decide) [1, 2, 3, 4, 5, 0] rfl ?_
      have lp23 : ∀ (n23 i23 : Nat), i23 + n23 = 96 → G E X 0 0 23 [(0, .ref y), (1, .int (nI (mSoX f i4 (mSoS f so i4) i23).2)), (2, .int (nI i4)), (3, .ref y1), (4, .int 96), (5, .int (nI i23))] [] [(y, .inr (5, [.int thr, .ref y1, .int col, .int car, .int tur, .int pre, .ref y2, .int mb, .ref y3, .ref y4, .ref y5, .int off, .ref y6, .ref y7, .int wov, .int km, .int ko, .ref y8, .ref y9])), (y1, .inl (E.2.2, 96, .inl f)), (y2, .inl (E.2.2, 6, .inl th)), (y3, .inl (E.2.2, 6, .inl pa)), (y4, .inl (E.2.2, 96, .inl ((mSoX f i4 (mSoS f so i4) i23).1))), (y5, .inl (E.2.2, 96, .inl cl)), (y6, .inl (E.2.2, 12, .inl he)), (y7, .inl (E.2.2, 12, .inl be)), (y8, .inl (E.2.2, 6, .inl kp)), (y9, .inl (E.2.2, 96, .inl kk))] := by
        intro n23
        induction n23 with
        | zero =>
          intro i23 hi23
          have he23 : i23 = 96 := by omega
          rw [he23]
          refine g_iload F dX5_sort_23 5 rfl ?_
          refine g_iload F dX5_sort_25 4 rfl ?_
          refine g_icmp_ge_t (tgt := 61) F dX5_sort_27 (by decide) (by decide) ?_
          refine g_iinc (L' := [(0, .ref y), (1, .int (nI (mSoX f i4 (mSoS f so i4) 96).2)), (2, .int (nI (i4 + 1))), (3, .ref y1), (4, .int 96), (5, .int (nI 96))]) (v := nI (i4 + 1)) F dX5_sort_61 2 rfl (nI_1 _) (by decide) [1, 2, 0, 3, 4, 5] rfl ?_
          refine g_goto (tgt := 4) F dX5_sort_64 (by decide) ?_
          refine g_lv (L' := [(0, .ref y), (1, .int (nI (mSoX f i4 (mSoS f so i4) 96).2)), (2, .int (nI (i4 + 1)))]) [0, 1, 2] rfl ?_
          exact ih4 (i4 + 1) (by omega)
        | succ n23 ih23 =>
          intro i23 hi23
          have hl23 : i23 < 96 := by omega
          refine g_iload F dX5_sort_23 5 rfl ?_
          refine g_iload F dX5_sort_25 4 rfl ?_
          refine g_icmp_ge_f (tgt := 61) F dX5_sort_27 (by decide) (nle_nI (n := 96) hl23 (by omega)) ?_
          refine g_aload_n F dX5_sort_30 rfl 3 rfl ?_
          refine g_iload F dX5_sort_31 5 rfl ?_
          refine g_ialdN (k := i23) F dX5_sort_33 1 rfl (by omega) (by first | decide | omega) ?_
          refine g_istore (L' := [(0, .ref y), (1, .int (nI (mSoX f i4 (mSoS f so i4) i23).2)), (2, .int (nI i4)), (3, .ref y1), (4, .int 96), (5, .int (nI i23)), (6, .int (f i23))]) F dX5_sort_34 (by decide) [1, 2, 3, 4, 5, 6, 0] rfl ?_
          refine g_iload F dX5_sort_36 6 rfl ?_
          refine g_iload_n F dX5_sort_38 rfl 2 rfl ?_
          refine g_icmp_eq (tgt := 45) F dX5_sort_39 (by decide) (fun k39 => ?_) (fun k39 => ?_)
          · skip
            refine g_aload_n F dX5_sort_45 rfl 0 rfl ?_
            refine g_get F dX5_sort_46 0 rfl rfl i5 9 (by decide) rfl (List.mem_of_getElem? (i := 2) rfl) ?_
            refine g_iload_n F dX5_sort_49 rfl 1 rfl ?_
            refine g_iload_n F dX5_sort_50 rfl 2 rfl ?_
            refine g_iastN (k := (mSoX f i4 (mSoS f so i4) i23).2) (ws' := [(y, .inr (5, [.int thr, .ref y1, .int col, .int car, .int tur, .int pre, .ref y2, .int mb, .ref y3, .ref y4, .ref y5, .int off, .ref y6, .ref y7, .int wov, .int km, .int ko, .ref y8, .ref y9])), (y1, .inl (E.2.2, 96, .inl f)), (y2, .inl (E.2.2, 6, .inl th)), (y3, .inl (E.2.2, 6, .inl pa)), (y4, .inl (E.2.2, 96, .inl (upd ((mSoX f i4 (mSoS f so i4) i23).1) ((mSoX f i4 (mSoS f so i4) i23).2) (nI i4)))), (y5, .inl (E.2.2, 96, .inl cl)), (y6, .inl (E.2.2, 12, .inl he)), (y7, .inl (E.2.2, 12, .inl be)), (y8, .inl (E.2.2, 6, .inl kp)), (y9, .inl (E.2.2, 96, .inl kk))]) F dX5_sort_51 4 rfl (mSo_lt f so hl4 hl23 k39) (by first | decide | omega) rfl ?_
            refine g_iinc (L' := [(0, .ref y), (1, .int (nI ((mSoX f i4 (mSoS f so i4) i23).2 + 1))), (2, .int (nI i4)), (3, .ref y1), (4, .int 96), (5, .int (nI i23)), (6, .int (f i23))]) (v := nI ((mSoX f i4 (mSoS f so i4) i23).2 + 1)) F dX5_sort_52 1 rfl (nI_1 _) (by decide) [1, 0, 2, 3, 4, 5, 6] rfl ?_
            refine g_iinc (L' := [(0, .ref y), (1, .int (nI ((mSoX f i4 (mSoS f so i4) i23).2 + 1))), (2, .int (nI i4)), (3, .ref y1), (4, .int 96), (5, .int (nI (i23 + 1))), (6, .int (f i23))]) (v := nI (i23 + 1)) F dX5_sort_55 5 rfl (nI_1 _) (by decide) [1, 2, 3, 4, 5, 0, 6] rfl ?_
            refine g_goto (tgt := 23) F dX5_sort_58 (by decide) ?_
            refine g_lv (L' := [(0, .ref y), (1, .int (nI ((mSoX f i4 (mSoS f so i4) i23).2 + 1))), (2, .int (nI i4)), (3, .ref y1), (4, .int 96), (5, .int (nI (i23 + 1)))]) [0, 1, 2, 3, 4, 5] rfl ?_
            have q := ih23 (i23 + 1) (by omega)
            simp only [mSoX, k39, if_true, if_false] at q
            exact q
          · skip
            refine g_goto (tgt := 55) F dX5_sort_42 (by decide) ?_
            refine g_iinc (L' := [(0, .ref y), (1, .int (nI (mSoX f i4 (mSoS f so i4) i23).2)), (2, .int (nI i4)), (3, .ref y1), (4, .int 96), (5, .int (nI (i23 + 1))), (6, .int (f i23))]) (v := nI (i23 + 1)) F dX5_sort_55 5 rfl (nI_1 _) (by decide) [1, 2, 3, 4, 5, 0, 6] rfl ?_
            refine g_goto (tgt := 23) F dX5_sort_58 (by decide) ?_
            refine g_lv (L' := [(0, .ref y), (1, .int (nI (mSoX f i4 (mSoS f so i4) i23).2)), (2, .int (nI i4)), (3, .ref y1), (4, .int 96), (5, .int (nI (i23 + 1)))]) [0, 1, 2, 3, 4, 5] rfl ?_
            have q := ih23 (i23 + 1) (by omega)
            simp only [mSoX, k39, if_true, if_false] at q
            exact q
      exact lp23 96 0 (by omega)
  exact lp4 256 0 (by omega)

set_option maxHeartbeats 4000000 in
set_option maxRecDepth 100000 in
theorem c_X5_wide (E : gE) (y : Nat) (y1 : Nat) (y2 : Nat) (y3 : Nat) (y4 : Nat) (y5 : Nat) (y6 : Nat) (y7 : Nat) (y8 : Nat) (y9 : Nat) (f : AF) (th : AF) (pa : AF) (so : AF) (cl : AF) (he : AF) (be : AF) (kp : AF) (kk : AF) (thr : Int32) (col : Int32) (car : Int32) (tur : Int32) (pre : Int32) (mb : Int32) (off : Int32) (wov : Int32) (km : Int32) (ko : Int32) (za : Nat) (n : Nat) (q : Nat) (k : Nat) (en : AF) (e : Nat → Nat) (hp : PA e q) (hen : ∀ j, j ≤ q → en j = nI (e j)) (hk : k < q) (hq : q < n) (hn : n ≤ 7) : Ct E yX5_wide wsX5_wide ({ frames := 0, cells := 0, slots := 0, locals := 0 }) [.ref y, .ref za, .int (nI k)] [(y, .inr (5, [.int thr, .ref y1, .int col, .int car, .int tur, .int pre, .ref y2, .int mb, .ref y3, .ref y4, .ref y5, .int off, .ref y6, .ref y7, .int wov, .int km, .int ko, .ref y8, .ref y9])), (y1, .inl (E.2.2, 96, .inl f)), (y2, .inl (E.2.2, 6, .inl th)), (y3, .inl (E.2.2, 6, .inl pa)), (y4, .inl (E.2.2, 96, .inl so)), (y5, .inl (E.2.2, 96, .inl cl)), (y6, .inl (E.2.2, 12, .inl he)), (y7, .inl (E.2.2, 12, .inl be)), (y8, .inl (E.2.2, 6, .inl kp)), (y9, .inl (E.2.2, 96, .inl kk)), (za, .inl (E.2.2, n, .inl en))] (some (.int (aSpr so e k))) [(y, .inr (5, [.int thr, .ref y1, .int col, .int car, .int tur, .int pre, .ref y2, .int mb, .ref y3, .ref y4, .ref y5, .int off, .ref y6, .ref y7, .int wov, .int km, .int ko, .ref y8, .ref y9])), (y1, .inl (E.2.2, 96, .inl f)), (y2, .inl (E.2.2, 6, .inl th)), (y3, .inl (E.2.2, 6, .inl pa)), (y4, .inl (E.2.2, 96, .inl so)), (y5, .inl (E.2.2, 96, .inl cl)), (y6, .inl (E.2.2, 12, .inl he)), (y7, .inl (E.2.2, 12, .inl be)), (y8, .inl (E.2.2, 6, .inl kp)), (y9, .inl (E.2.2, 96, .inl kk)), (za, .inl (E.2.2, n, .inl en))] := by
  refine Ct.of (cc := cX5_wide) (maxL := 3) (ret := (some .int)) (own := RX5) (L := [(0, .ref y), (1, .ref za), (2, .int (nI k))]) (by decide) rfl rfl rfl (Nat.le_of_ble_eq_true rfl) rfl ?_
  intro X F hQ
  have i5 : ∀ w ∈ u_ws RX5 TX5 19, w ∈ wsX5_wide := gsub [2, 3, 4, 5, 6, 7, 8, 9, 10, 11, 12, 13, 14, 15, 16, 17, 18, 19, 20] rfl
  refine g_aload_n F dX5_wide_0 rfl 0 rfl ?_
  refine g_get F dX5_wide_1 0 rfl rfl i5 9 (by decide) rfl (List.mem_of_getElem? (i := 1) rfl) ?_
  refine g_aload_n F dX5_wide_4 rfl 1 rfl ?_
  refine g_iload_n F dX5_wide_5 rfl 2 rfl ?_
  refine g_iconst (v := 1) F dX5_wide_6 (by decide) ?_
  refine g_iadd F dX5_wide_7 ?_
  refine g_topr (y := nI (k + 1)) (nI_1 k) ?_
  refine g_ialdN (k := k + 1) F dX5_wide_8 10 rfl (by omega) (by first | decide | omega) ?_
  refine g_topr (y := nI (e (k + 1))) (hen (k + 1) (by omega)) ?_
  refine g_iconst (v := 1) F dX5_wide_9 (by decide) ?_
  refine g_isub F dX5_wide_10 ?_
  refine g_topr (y := nI (e (k + 1) - 1)) (by have h1 := hp.2.2.2 k hk; have h2 := nI_pred (e (k + 1) - 1); rw [show e (k + 1) - 1 + 1 = e (k + 1) by omega] at h2; exact h2) ?_
  refine g_ialdN (k := e (k + 1) - 1) F dX5_wide_11 4 rfl (by have h1 := hp.2.2.2 k hk; have h2 := hp.le (a := k + 1) (by omega); omega) (by first | decide | omega) ?_
  refine g_aload_n F dX5_wide_12 rfl 0 rfl ?_
  refine g_get F dX5_wide_13 0 rfl rfl i5 9 (by decide) rfl (List.mem_of_getElem? (i := 1) rfl) ?_
  refine g_aload_n F dX5_wide_16 rfl 1 rfl ?_
  refine g_iload_n F dX5_wide_17 rfl 2 rfl ?_
  refine g_ialdN (k := k) F dX5_wide_18 10 rfl (by omega) (by first | decide | omega) ?_
  refine g_topr (y := nI (e k)) (hen k (by omega)) ?_
  refine g_ialdN (k := e k) F dX5_wide_19 4 rfl (by have h1 := hp.2.2.2 k hk; have h2 := hp.le (a := k + 1) (by omega); omega) (by first | decide | omega) ?_
  refine g_isub F dX5_wide_20 ?_
  exact g_iret F hQ dX5_wide_21 (rfl) (rfl)

set_option maxHeartbeats 4000000 in
set_option maxRecDepth 100000 in
theorem c_X5_nearest (E : gE) (y : Nat) (y1 : Nat) (y2 : Nat) (y3 : Nat) (y4 : Nat) (y5 : Nat) (y6 : Nat) (y7 : Nat) (y8 : Nat) (y9 : Nat) (f : AF) (th : AF) (pa : AF) (so : AF) (cl : AF) (he : AF) (be : AF) (kp : AF) (kk : AF) (thr : Int32) (col : Int32) (car : Int32) (tur : Int32) (pre : Int32) (off : Int32) (wov : Int32) (km : Int32) (ko : Int32) (q : Nat) (w : Int32) (h1 : 1 ≤ q) (h6 : q ≤ 6) : Ct E yX5_nearest wsX5_nearest ({ frames := 1, cells := 0, slots := 0, locals := 21 }) [.ref y, .int w] [(y, .inr (5, [.int thr, .ref y1, .int col, .int car, .int tur, .int pre, .ref y2, .int (nI q), .ref y3, .ref y4, .ref y5, .int off, .ref y6, .ref y7, .int wov, .int km, .int ko, .ref y8, .ref y9])), (y1, .inl (E.2.2, 96, .inl f)), (y2, .inl (E.2.2, 6, .inl th)), (y3, .inl (E.2.2, 6, .inl pa)), (y4, .inl (E.2.2, 96, .inl so)), (y5, .inl (E.2.2, 96, .inl cl)), (y6, .inl (E.2.2, 12, .inl he)), (y7, .inl (E.2.2, 12, .inl be)), (y8, .inl (E.2.2, 6, .inl kp)), (y9, .inl (E.2.2, 96, .inl kk))] (some (.int (nI (mNear pa w (q - 1))))) [(y, .inr (5, [.int thr, .ref y1, .int col, .int car, .int tur, .int pre, .ref y2, .int (nI q), .ref y3, .ref y4, .ref y5, .int off, .ref y6, .ref y7, .int wov, .int km, .int ko, .ref y8, .ref y9])), (y1, .inl (E.2.2, 96, .inl f)), (y2, .inl (E.2.2, 6, .inl th)), (y3, .inl (E.2.2, 6, .inl pa)), (y4, .inl (E.2.2, 96, .inl so)), (y5, .inl (E.2.2, 96, .inl cl)), (y6, .inl (E.2.2, 12, .inl he)), (y7, .inl (E.2.2, 12, .inl be)), (y8, .inl (E.2.2, 6, .inl kp)), (y9, .inl (E.2.2, 96, .inl kk))] := by
  refine Ct.of (cc := cX5_nearest) (maxL := 4) (ret := (some .int)) (own := RX5) (L := [(0, .ref y), (1, .int w)]) (by decide) rfl rfl rfl (Nat.le_of_ble_eq_true rfl) rfl ?_
  intro X F hQ
  have i5 : ∀ w ∈ u_ws RX5 TX5 19, w ∈ wsX5_nearest := gsub [7, 8, 9, 10, 11, 12, 13, 14, 15, 16, 17, 18, 19, 20, 21, 22, 23, 24, 25] rfl
  refine g_iconst (v := 0) F dX5_nearest_0 (by decide) ?_
  refine g_istore_n (L' := [(0, .ref y), (1, .int w), (2, .int 0)]) F dX5_nearest_1 rfl (by decide) [1, 2, 0] rfl ?_
  refine g_iconst (v := 1) F dX5_nearest_2 (by decide) ?_
  refine g_istore_n (L' := [(0, .ref y), (1, .int w), (2, .int 0), (3, .int 1)]) F dX5_nearest_3 rfl (by decide) [1, 2, 3, 0] rfl ?_
  have lp4 : ∀ (n4 i4 : Nat), i4 + n4 = (q - 1) → G E X 0 0 4 [(0, .ref y), (1, .int w), (2, .int (nI (mNear pa w i4))), (3, .int (nI (i4 + 1)))] [] [(y, .inr (5, [.int thr, .ref y1, .int col, .int car, .int tur, .int pre, .ref y2, .int (nI q), .ref y3, .ref y4, .ref y5, .int off, .ref y6, .ref y7, .int wov, .int km, .int ko, .ref y8, .ref y9])), (y1, .inl (E.2.2, 96, .inl f)), (y2, .inl (E.2.2, 6, .inl th)), (y3, .inl (E.2.2, 6, .inl pa)), (y4, .inl (E.2.2, 96, .inl so)), (y5, .inl (E.2.2, 96, .inl cl)), (y6, .inl (E.2.2, 12, .inl he)), (y7, .inl (E.2.2, 12, .inl be)), (y8, .inl (E.2.2, 6, .inl kp)), (y9, .inl (E.2.2, 96, .inl kk))] := by
    intro n4
    induction n4 with
    | zero =>
      intro i4 hi4
      have he4 : i4 = (q - 1) := by omega
      rw [he4]
      refine g_iload_n F dX5_nearest_4 rfl 3 rfl ?_
      refine g_aload_n F dX5_nearest_5 rfl 0 rfl ?_
      refine g_get F dX5_nearest_6 0 rfl rfl i5 7 (by decide) rfl (List.mem_of_getElem? (i := 1) rfl) ?_
      refine g_icmp_ge_t (tgt := 45) F dX5_nearest_9 (by decide) (le_nI (by omega) (by omega)) ?_
      refine g_iload_n F dX5_nearest_45 rfl 2 rfl ?_
      exact g_iret F hQ dX5_nearest_46 (rfl) (rfl)
    | succ n4 ih4 =>
      intro i4 hi4
      have hl4 : i4 < (q - 1) := by omega
      refine g_iload_n F dX5_nearest_4 rfl 3 rfl ?_
      refine g_aload_n F dX5_nearest_5 rfl 0 rfl ?_
      refine g_get F dX5_nearest_6 0 rfl rfl i5 7 (by decide) rfl (List.mem_of_getElem? (i := 1) rfl) ?_
      refine g_icmp_ge_f (tgt := 45) F dX5_nearest_9 (by decide) (nle_nI (by omega) (by omega)) ?_
      refine g_iload_n F dX5_nearest_12 rfl 1 rfl ?_
      refine g_aload_n F dX5_nearest_13 rfl 0 rfl ?_
      refine g_get F dX5_nearest_14 0 rfl rfl i5 8 (by decide) rfl (List.mem_of_getElem? (i := 2) rfl) ?_
      refine g_iload_n F dX5_nearest_17 rfl 3 rfl ?_
      refine g_ialdN (k := i4 + 1) F dX5_nearest_18 3 rfl (by omega) (by first | decide | omega) ?_
      refine g_isub F dX5_nearest_19 ?_
      refine g_abs F dX5_nearest_20 (List.mem_of_getElem? (i := 3) rfl) (List.mem_of_getElem? (i := 4) rfl) (List.mem_of_getElem? (i := 5) rfl) (List.mem_of_getElem? (i := 6) rfl) (by decide) (Nat.le_of_ble_eq_true rfl) (by decide) (by decide) ?_
      refine g_iload_n F dX5_nearest_23 rfl 1 rfl ?_
      refine g_aload_n F dX5_nearest_24 rfl 0 rfl ?_
      refine g_get F dX5_nearest_25 0 rfl rfl i5 8 (by decide) rfl (List.mem_of_getElem? (i := 2) rfl) ?_
      refine g_iload_n F dX5_nearest_28 rfl 2 rfl ?_
      refine g_ialdN (k := mNear pa w i4) F dX5_nearest_29 3 rfl (by have := mNear_le pa w i4; omega) (by first | decide | omega) ?_
      refine g_isub F dX5_nearest_30 ?_
      refine g_abs F dX5_nearest_31 (List.mem_of_getElem? (i := 3) rfl) (List.mem_of_getElem? (i := 4) rfl) (List.mem_of_getElem? (i := 5) rfl) (List.mem_of_getElem? (i := 6) rfl) (by decide) (Nat.le_of_ble_eq_true rfl) (by decide) (by decide) ?_
      refine g_icmp_ge (tgt := 39) F dX5_nearest_34 (by decide) (fun k34 => ?_) (fun k34 => ?_)
      · skip
        refine g_iinc (L' := [(0, .ref y), (1, .int w), (2, .int (nI (mNear pa w i4))), (3, .int (nI (i4 + 1 + 1)))]) (v := nI (i4 + 1 + 1)) F dX5_nearest_39 3 rfl (nI_1 _) (by decide) [1, 2, 3, 0] rfl ?_
        refine g_goto (tgt := 4) F dX5_nearest_42 (by decide) ?_
        have q := ih4 (i4 + 1) (by omega)
        simp only [mNear, k34, if_true, if_false, not_true_eq_false, not_false_eq_true] at q
        exact q
      · skip
        refine g_iload_n F dX5_nearest_37 rfl 3 rfl ?_
        refine g_istore_n (L' := [(0, .ref y), (1, .int w), (2, .int (nI (i4 + 1))), (3, .int (nI (i4 + 1)))]) F dX5_nearest_38 rfl (by decide) [1, 2, 0, 3] rfl ?_
        refine g_iinc (L' := [(0, .ref y), (1, .int w), (2, .int (nI (i4 + 1))), (3, .int (nI (i4 + 1 + 1)))]) (v := nI (i4 + 1 + 1)) F dX5_nearest_39 3 rfl (nI_1 _) (by decide) [1, 2, 3, 0] rfl ?_
        refine g_goto (tgt := 4) F dX5_nearest_42 (by decide) ?_
        have q := ih4 (i4 + 1) (by omega)
        simp only [mNear, k34, if_true, if_false, not_true_eq_false, not_false_eq_true] at q
        exact q
  exact lp4 (q - 1) 0 (by omega)

set_option maxHeartbeats 4000000 in
set_option maxRecDepth 100000 in
theorem c_X5_add (E : gE) (a : Nat) (r : AF) (v : Int32) (er : Int32) : Ct E yX5_add wsX5_add ({ frames := 2, cells := 0, slots := 0, locals := 42 }) [.ref a, .int v, .int er] [(a, .inl (E.2.2, 12, .inl r))] none [(a, .inl (E.2.2, 12, .inl (mAdd r v er)))] := by
  refine Ct.of (cc := cX5_add) (maxL := 3) (ret := none) (own := RX5) (L := [(0, .ref a), (1, .int v), (2, .int er)]) (by decide) rfl rfl rfl (Nat.le_of_ble_eq_true rfl) rfl ?_
  intro X F hQ
  refine g_iload_n F dX5_add_0 rfl 1 rfl ?_
  refine g_callS (ws' := [(a, .inl (E.2.2, 12, .inl r))]) F dX5_add_1 (c_X5_isX E v ) rfl gX5_add_X5_isX kS_X5_isX ⟨by decide, by decide⟩ [] rfl (by decide +kernel) rfl rfl (Nat.le_of_ble_eq_true rfl) ⟨by decide, by decide⟩ ?_
  refine g_if_eq (tgt := 14) F dX5_add_4 (by decide) (fun k4 => ?_) (fun k4 => ?_)
  · skip
    exact g_vret F hQ dX5_add_14 (by simp [mAdd, k4])
  · skip
    refine g_aload_n F dX5_add_7 rfl 0 rfl ?_
    refine g_iload_n F dX5_add_8 rfl 1 rfl ?_
    refine g_dup2 F dX5_add_9 rfl rfl ?_
    refine g_iald F dX5_add_10 0 rfl (mIn_vp (n := 11) k4 (by omega)) ?_
    refine g_iload_n F dX5_add_11 rfl 2 rfl ?_
    refine g_iadd F dX5_add_12 ?_
    refine g_iast (ws' := [(a, .inl (E.2.2, 12, .inl (upd r v.toNatClampNeg ((r v.toNatClampNeg) + er))))]) F dX5_add_13 0 rfl (mIn_vp (n := 11) k4 (by omega)) rfl ?_
    exact g_vret F hQ dX5_add_14 (by simp [mAdd, k4])

set_option maxHeartbeats 4000000 in
set_option maxRecDepth 100000 in
theorem c_X5_carryOn (E : gE) (y : Nat) (y1 : Nat) (y2 : Nat) (y3 : Nat) (y4 : Nat) (y5 : Nat) (y6 : Nat) (y7 : Nat) (y8 : Nat) (y9 : Nat) (f : AF) (th : AF) (pa : AF) (so : AF) (cl : AF) (he : AF) (be : AF) (kp : AF) (kk : AF) (thr : Int32) (col : Int32) (car : Int32) (tur : Int32) (pre : Int32) (mb : Int32) (off : Int32) (wov : Int32) (km : Int32) (ko : Int32) (v : Int32) (b : Int32) (er : Int32) : Ct E yX5_carryOn wsX5_carryOn ({ frames := 3, cells := 0, slots := 0, locals := 64 }) [.ref y, .int v, .int b, .int er] [(y, .inr (5, [.int thr, .ref y1, .int col, .int car, .int tur, .int pre, .ref y2, .int mb, .ref y3, .ref y4, .ref y5, .int off, .ref y6, .ref y7, .int wov, .int km, .int ko, .ref y8, .ref y9])), (y1, .inl (E.2.2, 96, .inl f)), (y2, .inl (E.2.2, 6, .inl th)), (y3, .inl (E.2.2, 6, .inl pa)), (y4, .inl (E.2.2, 96, .inl so)), (y5, .inl (E.2.2, 96, .inl cl)), (y6, .inl (E.2.2, 12, .inl he)), (y7, .inl (E.2.2, 12, .inl be)), (y8, .inl (E.2.2, 6, .inl kp)), (y9, .inl (E.2.2, 96, .inl kk))] none [(y, .inr (5, [.int thr, .ref y1, .int col, .int car, .int tur, .int pre, .ref y2, .int mb, .ref y3, .ref y4, .ref y5, .int off, .ref y6, .ref y7, .int wov, .int km, .int ko, .ref y8, .ref y9])), (y1, .inl (E.2.2, 96, .inl f)), (y2, .inl (E.2.2, 6, .inl th)), (y3, .inl (E.2.2, 6, .inl pa)), (y4, .inl (E.2.2, 96, .inl so)), (y5, .inl (E.2.2, 96, .inl cl)), (y6, .inl (E.2.2, 12, .inl ((mCar he be v b er car).1))), (y7, .inl (E.2.2, 12, .inl ((mCar he be v b er car).2))), (y8, .inl (E.2.2, 6, .inl kp)), (y9, .inl (E.2.2, 96, .inl kk))] := by
  refine Ct.of (cc := cX5_carryOn) (maxL := 7) (ret := none) (own := RX5) (L := [(0, .ref y), (1, .int v), (2, .int b), (3, .int er)]) (by decide) rfl rfl rfl (Nat.le_of_ble_eq_true rfl) rfl ?_
  intro X F hQ
  have i5 : ∀ w ∈ u_ws RX5 TX5 19, w ∈ wsX5_carryOn := gsub [14, 15, 16, 17, 18, 19, 20, 21, 22, 23, 24, 25, 26, 27, 28, 29, 30, 31, 32] rfl
  refine g_aload_n F dX5_carryOn_0 rfl 0 rfl ?_
  refine g_get F dX5_carryOn_1 0 rfl rfl i5 3 (by decide) rfl (List.mem_of_getElem? (i := 1) rfl) ?_
  refine g_if_ne (tgt := 8) F dX5_carryOn_4 (by decide) (fun k4 => ?_) (fun k4 => ?_)
  · skip
    refine g_aload_n F dX5_carryOn_8 rfl 0 rfl ?_
    refine g_get F dX5_carryOn_9 0 rfl rfl i5 3 (by decide) rfl (List.mem_of_getElem? (i := 1) rfl) ?_
    refine g_iconst (v := 1) F dX5_carryOn_12 (by decide) ?_
    refine g_icmp_ne (tgt := 28) F dX5_carryOn_13 (by decide) (fun k13 => ?_) (fun k13 => ?_)
    · skip
      refine g_iload_n F dX5_carryOn_28 rfl 3 rfl ?_
      refine g_bipush (v := 7) F dX5_carryOn_29 (by decide) ?_
      refine g_imul F dX5_carryOn_31 ?_
      refine g_bipush (v := 16) F dX5_carryOn_32 (by decide) ?_
      refine g_idiv F dX5_carryOn_34 (by decide) ?_
      refine g_istore (L' := [(0, .ref y), (1, .int v), (2, .int b), (3, .int er), (4, .int ((er * 7) / 16))]) F dX5_carryOn_35 (by decide) [1, 2, 3, 4, 0] rfl ?_
      refine g_iload_n F dX5_carryOn_37 rfl 3 rfl ?_
      refine g_iconst (v := 3) F dX5_carryOn_38 (by decide) ?_
      refine g_imul F dX5_carryOn_39 ?_
      refine g_bipush (v := 16) F dX5_carryOn_40 (by decide) ?_
      refine g_idiv F dX5_carryOn_42 (by decide) ?_
      refine g_istore (L' := [(0, .ref y), (1, .int v), (2, .int b), (3, .int er), (4, .int ((er * 7) / 16)), (5, .int ((er * 3) / 16))]) F dX5_carryOn_43 (by decide) [1, 2, 3, 4, 5, 0] rfl ?_
      refine g_iload_n F dX5_carryOn_45 rfl 3 rfl ?_
      refine g_iconst (v := 5) F dX5_carryOn_46 (by decide) ?_
      refine g_imul F dX5_carryOn_47 ?_
      refine g_bipush (v := 16) F dX5_carryOn_48 (by decide) ?_
      refine g_idiv F dX5_carryOn_50 (by decide) ?_
      refine g_istore (L' := [(0, .ref y), (1, .int v), (2, .int b), (3, .int er), (4, .int ((er * 7) / 16)), (5, .int ((er * 3) / 16)), (6, .int ((er * 5) / 16))]) F dX5_carryOn_51 (by decide) [1, 2, 3, 4, 5, 6, 0] rfl ?_
      refine g_aload_n F dX5_carryOn_53 rfl 0 rfl ?_
      refine g_get F dX5_carryOn_54 0 rfl rfl i5 12 (by decide) rfl (List.mem_of_getElem? (i := 2) rfl) ?_
      refine g_iload_n F dX5_carryOn_57 rfl 1 rfl ?_
      refine g_iload_n F dX5_carryOn_58 rfl 2 rfl ?_
      refine g_iadd F dX5_carryOn_59 ?_
      refine g_iload F dX5_carryOn_60 4 rfl ?_
      refine g_callS (ws' := [(y, .inr (5, [.int thr, .ref y1, .int col, .int car, .int tur, .int pre, .ref y2, .int mb, .ref y3, .ref y4, .ref y5, .int off, .ref y6, .ref y7, .int wov, .int km, .int ko, .ref y8, .ref y9])), (y1, .inl (E.2.2, 96, .inl f)), (y2, .inl (E.2.2, 6, .inl th)), (y3, .inl (E.2.2, 6, .inl pa)), (y4, .inl (E.2.2, 96, .inl so)), (y5, .inl (E.2.2, 96, .inl cl)), (y6, .inl (E.2.2, 12, .inl (mAdd he (v + b) ((er * 7) / 16)))), (y7, .inl (E.2.2, 12, .inl be)), (y8, .inl (E.2.2, 6, .inl kp)), (y9, .inl (E.2.2, 96, .inl kk))]) F dX5_carryOn_62 (c_X5_add E y6 he (v + b) ((er * 7) / 16) ) rfl gX5_carryOn_X5_add kS_X5_add ⟨by decide, by decide⟩ [6] rfl (by decide +kernel) rfl rfl (Nat.le_of_ble_eq_true rfl) ⟨by decide, by decide⟩ ?_
      refine g_aload_n F dX5_carryOn_65 rfl 0 rfl ?_
      refine g_get F dX5_carryOn_66 0 rfl rfl i5 13 (by decide) rfl (List.mem_of_getElem? (i := 3) rfl) ?_
      refine g_iload_n F dX5_carryOn_69 rfl 1 rfl ?_
      refine g_iload_n F dX5_carryOn_70 rfl 2 rfl ?_
      refine g_isub F dX5_carryOn_71 ?_
      refine g_iload F dX5_carryOn_72 5 rfl ?_
      refine g_callS (ws' := [(y, .inr (5, [.int thr, .ref y1, .int col, .int car, .int tur, .int pre, .ref y2, .int mb, .ref y3, .ref y4, .ref y5, .int off, .ref y6, .ref y7, .int wov, .int km, .int ko, .ref y8, .ref y9])), (y1, .inl (E.2.2, 96, .inl f)), (y2, .inl (E.2.2, 6, .inl th)), (y3, .inl (E.2.2, 6, .inl pa)), (y4, .inl (E.2.2, 96, .inl so)), (y5, .inl (E.2.2, 96, .inl cl)), (y6, .inl (E.2.2, 12, .inl (mAdd he (v + b) ((er * 7) / 16)))), (y7, .inl (E.2.2, 12, .inl (mAdd be (v - b) ((er * 3) / 16)))), (y8, .inl (E.2.2, 6, .inl kp)), (y9, .inl (E.2.2, 96, .inl kk))]) F dX5_carryOn_74 (c_X5_add E y7 be (v - b) ((er * 3) / 16) ) rfl gX5_carryOn_X5_add kS_X5_add ⟨by decide, by decide⟩ [7] rfl (by decide +kernel) rfl rfl (Nat.le_of_ble_eq_true rfl) ⟨by decide, by decide⟩ ?_
      refine g_aload_n F dX5_carryOn_77 rfl 0 rfl ?_
      refine g_get F dX5_carryOn_78 0 rfl rfl i5 13 (by decide) rfl (List.mem_of_getElem? (i := 3) rfl) ?_
      refine g_iload_n F dX5_carryOn_81 rfl 1 rfl ?_
      refine g_iload F dX5_carryOn_82 6 rfl ?_
      refine g_callS (ws' := [(y, .inr (5, [.int thr, .ref y1, .int col, .int car, .int tur, .int pre, .ref y2, .int mb, .ref y3, .ref y4, .ref y5, .int off, .ref y6, .ref y7, .int wov, .int km, .int ko, .ref y8, .ref y9])), (y1, .inl (E.2.2, 96, .inl f)), (y2, .inl (E.2.2, 6, .inl th)), (y3, .inl (E.2.2, 6, .inl pa)), (y4, .inl (E.2.2, 96, .inl so)), (y5, .inl (E.2.2, 96, .inl cl)), (y6, .inl (E.2.2, 12, .inl (mAdd he (v + b) ((er * 7) / 16)))), (y7, .inl (E.2.2, 12, .inl (mAdd (mAdd be (v - b) ((er * 3) / 16)) v ((er * 5) / 16)))), (y8, .inl (E.2.2, 6, .inl kp)), (y9, .inl (E.2.2, 96, .inl kk))]) F dX5_carryOn_84 (c_X5_add E y7 (mAdd be (v - b) ((er * 3) / 16)) v ((er * 5) / 16) ) rfl gX5_carryOn_X5_add kS_X5_add ⟨by decide, by decide⟩ [7] rfl (by decide +kernel) rfl rfl (Nat.le_of_ble_eq_true rfl) ⟨by decide, by decide⟩ ?_
      refine g_aload_n F dX5_carryOn_87 rfl 0 rfl ?_
      refine g_get F dX5_carryOn_88 0 rfl rfl i5 13 (by decide) rfl (List.mem_of_getElem? (i := 3) rfl) ?_
      refine g_iload_n F dX5_carryOn_91 rfl 1 rfl ?_
      refine g_iload_n F dX5_carryOn_92 rfl 2 rfl ?_
      refine g_iadd F dX5_carryOn_93 ?_
      refine g_iload_n F dX5_carryOn_94 rfl 3 rfl ?_
      refine g_iload F dX5_carryOn_95 4 rfl ?_
      refine g_isub F dX5_carryOn_97 ?_
      refine g_iload F dX5_carryOn_98 5 rfl ?_
      refine g_isub F dX5_carryOn_100 ?_
      refine g_iload F dX5_carryOn_101 6 rfl ?_
      refine g_isub F dX5_carryOn_103 ?_
      refine g_callS (ws' := [(y, .inr (5, [.int thr, .ref y1, .int col, .int car, .int tur, .int pre, .ref y2, .int mb, .ref y3, .ref y4, .ref y5, .int off, .ref y6, .ref y7, .int wov, .int km, .int ko, .ref y8, .ref y9])), (y1, .inl (E.2.2, 96, .inl f)), (y2, .inl (E.2.2, 6, .inl th)), (y3, .inl (E.2.2, 6, .inl pa)), (y4, .inl (E.2.2, 96, .inl so)), (y5, .inl (E.2.2, 96, .inl cl)), (y6, .inl (E.2.2, 12, .inl (mAdd he (v + b) ((er * 7) / 16)))), (y7, .inl (E.2.2, 12, .inl (mAdd (mAdd (mAdd be (v - b) ((er * 3) / 16)) v ((er * 5) / 16)) (v + b) (((er - ((er * 7) / 16)) - ((er * 3) / 16)) - ((er * 5) / 16))))), (y8, .inl (E.2.2, 6, .inl kp)), (y9, .inl (E.2.2, 96, .inl kk))]) F dX5_carryOn_104 (c_X5_add E y7 (mAdd (mAdd be (v - b) ((er * 3) / 16)) v ((er * 5) / 16)) (v + b) (((er - ((er * 7) / 16)) - ((er * 3) / 16)) - ((er * 5) / 16)) ) rfl gX5_carryOn_X5_add kS_X5_add ⟨by decide, by decide⟩ [7] rfl (by decide +kernel) rfl rfl (Nat.le_of_ble_eq_true rfl) ⟨by decide, by decide⟩ ?_
      exact g_vret F hQ dX5_carryOn_107 (by simp [mCar, k4, k13])
    · skip
      refine g_aload_n F dX5_carryOn_16 rfl 0 rfl ?_
      refine g_get F dX5_carryOn_17 0 rfl rfl i5 12 (by decide) rfl (List.mem_of_getElem? (i := 2) rfl) ?_
      refine g_iload_n F dX5_carryOn_20 rfl 1 rfl ?_
      refine g_iload_n F dX5_carryOn_21 rfl 2 rfl ?_
      refine g_iadd F dX5_carryOn_22 ?_
      refine g_iload_n F dX5_carryOn_23 rfl 3 rfl ?_
      refine g_callS (ws' := [(y, .inr (5, [.int thr, .ref y1, .int col, .int car, .int tur, .int pre, .ref y2, .int mb, .ref y3, .ref y4, .ref y5, .int off, .ref y6, .ref y7, .int wov, .int km, .int ko, .ref y8, .ref y9])), (y1, .inl (E.2.2, 96, .inl f)), (y2, .inl (E.2.2, 6, .inl th)), (y3, .inl (E.2.2, 6, .inl pa)), (y4, .inl (E.2.2, 96, .inl so)), (y5, .inl (E.2.2, 96, .inl cl)), (y6, .inl (E.2.2, 12, .inl (mAdd he (v + b) er))), (y7, .inl (E.2.2, 12, .inl be)), (y8, .inl (E.2.2, 6, .inl kp)), (y9, .inl (E.2.2, 96, .inl kk))]) F dX5_carryOn_24 (c_X5_add E y6 he (v + b) er ) rfl gX5_carryOn_X5_add kS_X5_add ⟨by decide, by decide⟩ [6] rfl (by decide +kernel) rfl rfl (Nat.le_of_ble_eq_true rfl) ⟨by decide, by decide⟩ ?_
      exact g_vret F hQ dX5_carryOn_27 (by simp [mCar, k4, k13])
  · skip
    exact g_vret F hQ dX5_carryOn_7 (by simp [mCar, k4])
end PMODA
