/-! the class: leaves, and Grid -/
section PGRID
set_option maxHeartbeats 4000000 in
set_option maxRecDepth 100000 in
theorem c_X4_isCell (E : gE) (x : Int32) (y : Int32) : Ct E yX4_isCell wsX4_isCell ({ frames := 0, cells := 0, slots := 0, locals := 0 }) [.int x, .int y] [] (some (.int (sCell x y))) [] := by
  refine Ct.of (cc := cX4_isCell) (maxL := 2) (ret := (some .boolean)) (own := RX4) (L := [(0, .int x), (1, .int y)]) (by decide) rfl rfl rfl (Nat.le_of_ble_eq_true rfl) rfl ?_
  intro X F hQ
  refine g_iload_n F dX4_isCell_0 rfl 0 rfl ?_
  refine g_if_lt (tgt := 24) F dX4_isCell_1 (by decide) (fun k1 => ?_) (fun k1 => ?_)
  · skip
    refine g_iconst (v := 0) F dX4_isCell_24 (by decide) ?_
    exact g_zret F hQ dX4_isCell_25 (Or.inl rfl) (by simp [sCell, k1]) (rfl)
  · skip
    refine g_iload_n F dX4_isCell_4 rfl 0 rfl ?_
    refine g_bipush (v := 12) F dX4_isCell_5 (by decide) ?_
    refine g_icmp_ge (tgt := 24) F dX4_isCell_7 (by decide) (fun k7 => ?_) (fun k7 => ?_)
    · skip
      refine g_iconst (v := 0) F dX4_isCell_24 (by decide) ?_
      exact g_zret F hQ dX4_isCell_25 (Or.inl rfl) (by simp [sCell, k1, k7]) (rfl)
    · skip
      refine g_iload_n F dX4_isCell_10 rfl 1 rfl ?_
      refine g_if_lt (tgt := 24) F dX4_isCell_11 (by decide) (fun k11 => ?_) (fun k11 => ?_)
      · skip
        refine g_iconst (v := 0) F dX4_isCell_24 (by decide) ?_
        exact g_zret F hQ dX4_isCell_25 (Or.inl rfl) (by simp [sCell, k1, k7, k11]) (rfl)
      · skip
        refine g_iload_n F dX4_isCell_14 rfl 1 rfl ?_
        refine g_bipush (v := 8) F dX4_isCell_15 (by decide) ?_
        refine g_icmp_ge (tgt := 24) F dX4_isCell_17 (by decide) (fun k17 => ?_) (fun k17 => ?_)
        · skip
          refine g_iconst (v := 0) F dX4_isCell_24 (by decide) ?_
          exact g_zret F hQ dX4_isCell_25 (Or.inl rfl) (by simp [sCell, k1, k7, k11, k17]) (rfl)
        · skip
          refine g_iconst (v := 1) F dX4_isCell_20 (by decide) ?_
          refine g_goto (tgt := 25) F dX4_isCell_21 (by decide) ?_
          exact g_zret F hQ dX4_isCell_25 (Or.inr rfl) (by simp [sCell, k1, k7, k11, k17]) (rfl)

set_option maxHeartbeats 4000000 in
set_option maxRecDepth 100000 in
theorem c_X4_numberAt (E : gE) (a : Nat) (n : Nat) (f : AF) (k : Int32) (hn : n < 2147483648) : Ct E yX4_numberAt wsX4_numberAt ({ frames := 0, cells := 0, slots := 0, locals := 0 }) [.ref a, .int k] [(a, .inl (E.2.2, n, .inl f))] (some (.int (sAt n f k))) [(a, .inl (E.2.2, n, .inl f))] := by
  refine Ct.of (cc := cX4_numberAt) (maxL := 2) (ret := (some .int)) (own := RX4) (L := [(0, .ref a), (1, .int k)]) (by decide) rfl rfl rfl (Nat.le_of_ble_eq_true rfl) rfl ?_
  intro X F hQ
  refine g_iload_n F dX4_numberAt_0 rfl 1 rfl ?_
  refine g_if_lt (tgt := 16) F dX4_numberAt_1 (by decide) (fun k1 => ?_) (fun k1 => ?_)
  · skip
    refine g_iconst (v := 0) F dX4_numberAt_16 (by decide) ?_
    exact g_iret F hQ dX4_numberAt_17 (by simp [sAt, k1]) (rfl)
  · skip
    refine g_iload_n F dX4_numberAt_4 rfl 1 rfl ?_
    refine g_aload_n F dX4_numberAt_5 rfl 0 rfl ?_
    refine g_alen (v := nI n) F dX4_numberAt_6 0 rfl rfl ?_
    refine g_icmp_ge (tgt := 16) F dX4_numberAt_7 (by decide) (fun k7 => ?_) (fun k7 => ?_)
    · skip
      refine g_iconst (v := 0) F dX4_numberAt_16 (by decide) ?_
      exact g_iret F hQ dX4_numberAt_17 (by simp [sAt, k1, k7]) (rfl)
    · skip
      refine g_aload_n F dX4_numberAt_10 rfl 0 rfl ?_
      refine g_iload_n F dX4_numberAt_11 rfl 1 rfl ?_
      refine g_iald F dX4_numberAt_12 0 rfl (vin_of k1 k7 hn) ?_
      refine g_goto (tgt := 17) F dX4_numberAt_13 (by decide) ?_
      exact g_iret F hQ dX4_numberAt_17 (by simp [sAt, k1, k7]) (rfl)

set_option maxHeartbeats 4000000 in
set_option maxRecDepth 100000 in
theorem c_X4_putNumber (E : gE) (a : Nat) (n : Nat) (f : AF) (k : Int32) (x : Int32) (hn : n < 2147483648) : Ct E yX4_putNumber wsX4_putNumber ({ frames := 0, cells := 0, slots := 0, locals := 0 }) [.ref a, .int k, .int x] [(a, .inl (E.2.2, n, .inl f))] none [(a, .inl (E.2.2, n, .inl (sPut n f k x)))] := by
  refine Ct.of (cc := cX4_putNumber) (maxL := 3) (ret := none) (own := RX4) (L := [(0, .ref a), (1, .int k), (2, .int x)]) (by decide) rfl rfl rfl (Nat.le_of_ble_eq_true rfl) rfl ?_
  intro X F hQ
  refine g_iload_n F dX4_putNumber_0 rfl 1 rfl ?_
  refine g_if_lt (tgt := 14) F dX4_putNumber_1 (by decide) (fun k1 => ?_) (fun k1 => ?_)
  · skip
    exact g_vret F hQ dX4_putNumber_14 (by simp [sPut, k1])
  · skip
    refine g_iload_n F dX4_putNumber_4 rfl 1 rfl ?_
    refine g_aload_n F dX4_putNumber_5 rfl 0 rfl ?_
    refine g_alen (v := nI n) F dX4_putNumber_6 0 rfl rfl ?_
    refine g_icmp_ge (tgt := 14) F dX4_putNumber_7 (by decide) (fun k7 => ?_) (fun k7 => ?_)
    · skip
      exact g_vret F hQ dX4_putNumber_14 (by simp [sPut, k1, k7])
    · skip
      refine g_aload_n F dX4_putNumber_10 rfl 0 rfl ?_
      refine g_iload_n F dX4_putNumber_11 rfl 1 rfl ?_
      refine g_iload_n F dX4_putNumber_12 rfl 2 rfl ?_
      refine g_iast (ws' := [(a, .inl (E.2.2, n, .inl (upd f k.toNatClampNeg x)))]) F dX4_putNumber_13 0 rfl (vin_of k1 k7 hn) rfl ?_
      exact g_vret F hQ dX4_putNumber_14 (by simp [sPut, k1, k7])

set_option maxHeartbeats 4000000 in
set_option maxRecDepth 100000 in
theorem c_X4_fillNumbers (E : gE) (a : Nat) (n : Nat) (f : AF) (x : Int32) (hn : n < 2147483648) : Ct E yX4_fillNumbers wsX4_fillNumbers ({ frames := 0, cells := 0, slots := 0, locals := 0 }) [.ref a, .int x] [(a, .inl (E.2.2, n, .inl f))] none [(a, .inl (E.2.2, n, .inl (sFill x f n)))] := by
  refine Ct.of (cc := cX4_fillNumbers) (maxL := 3) (ret := none) (own := RX4) (L := [(0, .ref a), (1, .int x)]) (by decide) rfl rfl rfl (Nat.le_of_ble_eq_true rfl) rfl ?_
  intro X F hQ
  refine g_iconst (v := 0) F dX4_fillNumbers_0 (by decide) ?_
  refine g_istore_n (L' := [(0, .ref a), (1, .int x), (2, .int 0)]) F dX4_fillNumbers_1 rfl (by decide) [1, 2, 0] rfl ?_
  have lp2 : ∀ (n2 i2 : Nat), i2 + n2 = n → G E X 0 0 2 [(0, .ref a), (1, .int x), (2, .int (nI i2))] [] [(a, .inl (E.2.2, n, .inl (sFill x f i2)))] := by
    intro n2
    induction n2 with
    | zero =>
      intro i2 hi2
      have he2 : i2 = n := by omega
      rw [he2]
      refine g_iload_n F dX4_fillNumbers_2 rfl 2 rfl ?_
      refine g_aload_n F dX4_fillNumbers_3 rfl 0 rfl ?_
      refine g_alen (v := nI n) F dX4_fillNumbers_4 0 rfl rfl ?_
      refine g_icmp_ge_t (tgt := 18) F dX4_fillNumbers_5 (by decide) (le_nI (Nat.le_refl n) hn) ?_
      exact g_vret F hQ dX4_fillNumbers_18 (rfl)
    | succ n2 ih2 =>
      intro i2 hi2
      have hl2 : i2 < n := by omega
      refine g_iload_n F dX4_fillNumbers_2 rfl 2 rfl ?_
      refine g_aload_n F dX4_fillNumbers_3 rfl 0 rfl ?_
      refine g_alen (v := nI n) F dX4_fillNumbers_4 0 rfl rfl ?_
      refine g_icmp_ge_f (tgt := 18) F dX4_fillNumbers_5 (by decide) (nle_nI hl2 hn) ?_
      refine g_aload_n F dX4_fillNumbers_8 rfl 0 rfl ?_
      refine g_iload_n F dX4_fillNumbers_9 rfl 2 rfl ?_
      refine g_iload_n F dX4_fillNumbers_10 rfl 1 rfl ?_
      refine g_iast (ws' := [(a, .inl (E.2.2, n, .inl (upd (sFill x f i2) (nI i2).toNatClampNeg x)))]) F dX4_fillNumbers_11 0 rfl (vin_nI hl2 hn) rfl ?_
      refine g_iinc (L' := [(0, .ref a), (1, .int x), (2, .int (nI (i2 + 1)))]) (v := nI (i2 + 1)) F dX4_fillNumbers_12 2 rfl (nI_1 _) (by decide) [1, 2, 0] rfl ?_
      refine g_goto (tgt := 2) F dX4_fillNumbers_15 (by decide) ?_
      exact ih2 (i2 + 1) (by omega)
  exact lp2 n 0 (by omega)

set_option maxHeartbeats 4000000 in
set_option maxRecDepth 100000 in
theorem c_X4_digested (E : gE) (a : Nat) (n : Nat) (m : Nat) (f : AF) (d : Int64) (hn : n < 2147483648) (hm : m < 2147483648) : Ct E yX4_digested wsX4_digested ({ frames := 1, cells := 0, slots := 0, locals := 21 }) [.long d, .ref a, .int (nI m)] [(a, .inl (E.2.2, n, .inl f))] (some (.long (sDig n f d m))) [(a, .inl (E.2.2, n, .inl f))] := by
  refine Ct.of (cc := cX4_digested) (maxL := 7) (ret := (some .long)) (own := RX4) (L := [(0, .long d), (2, .ref a), (3, .int (nI m))]) (by decide) rfl rfl rfl (Nat.le_of_ble_eq_true rfl) rfl ?_
  intro X F hQ
  refine g_lload_n F dX4_digested_0 rfl 0 rfl ?_
  refine g_lstore (L' := [(0, .long d), (2, .ref a), (3, .int (nI m)), (4, .long d)]) F dX4_digested_1 (by decide) [1, 2, 3, 0] rfl ?_
  refine g_iconst (v := 0) F dX4_digested_3 (by decide) ?_
  refine g_istore (L' := [(0, .long d), (2, .ref a), (3, .int (nI m)), (4, .long d), (6, .int 0)]) F dX4_digested_4 (by decide) [1, 2, 3, 4, 0] rfl ?_
  have lp6 : ∀ (n6 i6 : Nat), i6 + n6 = m → G E X 0 0 6 [(0, .long d), (2, .ref a), (3, .int (nI m)), (4, .long (sDig n f d i6)), (6, .int (nI i6))] [] [(a, .inl (E.2.2, n, .inl f))] := by
    intro n6
    induction n6 with
    | zero =>
      intro i6 hi6
      have he6 : i6 = m := by omega
      rw [he6]
      refine g_iload F dX4_digested_6 4 rfl ?_
      refine g_iload_n F dX4_digested_8 rfl 2 rfl ?_
      refine g_icmp_ge_t (tgt := 34) F dX4_digested_9 (by decide) (le_nI (Nat.le_refl m) hm) ?_
      refine g_lload F dX4_digested_34 3 rfl ?_
      exact g_lret F hQ dX4_digested_36 (rfl) (rfl)
    | succ n6 ih6 =>
      intro i6 hi6
      have hl6 : i6 < m := by omega
      refine g_iload F dX4_digested_6 4 rfl ?_
      refine g_iload_n F dX4_digested_8 rfl 2 rfl ?_
      refine g_icmp_ge_f (tgt := 34) F dX4_digested_9 (by decide) (nle_nI hl6 hm) ?_
      refine g_lload F dX4_digested_12 3 rfl ?_
      refine g_ldc2l (v := 31) F dX4_digested_14 (List.mem_of_getElem? (i := 1) rfl) ?_
      refine g_lmul F dX4_digested_17 ?_
      refine g_aload_n F dX4_digested_18 rfl 1 rfl ?_
      refine g_iload F dX4_digested_19 4 rfl ?_
      refine g_callS (ws' := [(a, .inl (E.2.2, n, .inl f))]) F dX4_digested_21 (c_X4_numberAt E a n f (nI i6) (by first | assumption | decide | omega)) rfl gX4_digested_X4_numberAt kS_X4_numberAt ⟨by decide, by decide⟩ [0] rfl (by decide +kernel) rfl rfl (Nat.le_of_ble_eq_true rfl) ⟨by decide, by decide⟩ ?_
      refine g_i2l (v := (sAt n f (nI i6)).toInt64) F dX4_digested_24 rfl ?_
      refine g_ladd F dX4_digested_25 ?_
      refine g_lstore (L' := [(0, .long d), (2, .ref a), (3, .int (nI m)), (4, .long (((sDig n f d i6) * 31) + ((sAt n f (nI i6)).toInt64))), (6, .int (nI i6))]) F dX4_digested_26 (by decide) [1, 2, 3, 0, 4] rfl ?_
      refine g_iinc (L' := [(0, .long d), (2, .ref a), (3, .int (nI m)), (4, .long (((sDig n f d i6) * 31) + ((sAt n f (nI i6)).toInt64))), (6, .int (nI (i6 + 1)))]) (v := nI (i6 + 1)) F dX4_digested_28 4 rfl (nI_1 _) (by decide) [1, 2, 3, 4, 0] rfl ?_
      refine g_goto (tgt := 6) F dX4_digested_31 (by decide) ?_
      exact ih6 (i6 + 1) (by omega)
  exact lp6 m 0 (by omega)

set_option maxHeartbeats 4000000 in
set_option maxRecDepth 100000 in
theorem c_X1_at (E : gE) (g : Nat) (ga : Nat) (f : AF) (x : Int32) (y : Int32) : Ct E yX1_at wsX1_at ({ frames := 1, cells := 0, slots := 0, locals := 21 }) [.ref g, .int x, .int y] [(g, .inr (1, [.ref ga])), (ga, .inl (E.2.2, 96, .inl f))] (some (.int (sGAt f x y))) [(g, .inr (1, [.ref ga])), (ga, .inl (E.2.2, 96, .inl f))] := by
  refine Ct.of (cc := cX1_at) (maxL := 3) (ret := (some .int)) (own := RX1) (L := [(0, .ref g), (1, .int x), (2, .int y)]) (by decide) rfl rfl rfl (Nat.le_of_ble_eq_true rfl) rfl ?_
  intro X F hQ
  have i1 : ∀ w ∈ u_ws RX1 TX1 1, w ∈ wsX1_at := gsub [7] rfl
  refine g_iload_n F dX1_at_0 rfl 1 rfl ?_
  refine g_iload_n F dX1_at_1 rfl 2 rfl ?_
  refine g_callSN (ws' := [(g, .inr (1, [.ref ga])), (ga, .inl (E.2.2, 96, .inl f))]) F dX1_at_2 (c_X4_isCell E x y ) rfl gX1_at_X4_isCell_n15 (List.mem_of_getElem? (i := 2) rfl) (List.mem_of_getElem? (i := 3) rfl) (List.mem_of_getElem? (i := 7) rfl) kS_X4_isCell ⟨by decide, by decide⟩ [] rfl (by decide +kernel) rfl rfl (Nat.le_of_ble_eq_true rfl) ⟨by decide, by decide⟩ ?_
  refine g_if_eq (tgt := 24) F dX1_at_5 (by decide) (fun k5 => ?_) (fun k5 => ?_)
  · skip
    refine g_iconst (v := 0) F dX1_at_24 (by decide) ?_
    exact g_iret F hQ dX1_at_25 (by simp [sGAt, k5]) (rfl)
  · skip
    refine g_aload_n F dX1_at_8 rfl 0 rfl ?_
    refine g_get F dX1_at_9 0 rfl rfl i1 0 (by decide) rfl (List.mem_of_getElem? (i := 1) rfl) ?_
    refine g_iload_n F dX1_at_12 rfl 2 rfl ?_
    refine g_bipush (v := 12) F dX1_at_13 (by decide) ?_
    refine g_imul F dX1_at_15 ?_
    refine g_iload_n F dX1_at_16 rfl 1 rfl ?_
    refine g_iadd F dX1_at_17 ?_
    refine g_callSN (ws' := [(g, .inr (1, [.ref ga])), (ga, .inl (E.2.2, 96, .inl f))]) F dX1_at_18 (c_X4_numberAt E ga 96 f ((y * 12) + x) (by first | assumption | decide | omega)) rfl gX1_at_X4_numberAt_n19 (List.mem_of_getElem? (i := 5) rfl) (List.mem_of_getElem? (i := 3) rfl) (List.mem_of_getElem? (i := 8) rfl) kS_X4_numberAt ⟨by decide, by decide⟩ [1] rfl (by decide +kernel) rfl rfl (Nat.le_of_ble_eq_true rfl) ⟨by decide, by decide⟩ ?_
    refine g_goto (tgt := 25) F dX1_at_21 (by decide) ?_
    exact g_iret F hQ dX1_at_25 (by simp [sGAt, k5]) (rfl)

set_option maxHeartbeats 4000000 in
set_option maxRecDepth 100000 in
theorem c_X1_put (E : gE) (g : Nat) (ga : Nat) (f : AF) (x : Int32) (y : Int32) (v : Int32) : Ct E yX1_put wsX1_put ({ frames := 1, cells := 0, slots := 0, locals := 22 }) [.ref g, .int x, .int y, .int v] [(g, .inr (1, [.ref ga])), (ga, .inl (E.2.2, 96, .inl f))] none [(g, .inr (1, [.ref ga])), (ga, .inl (E.2.2, 96, .inl (sGPut f x y v)))] := by
  refine Ct.of (cc := cX1_put) (maxL := 4) (ret := none) (own := RX1) (L := [(0, .ref g), (1, .int x), (2, .int y), (3, .int v)]) (by decide) rfl rfl rfl (Nat.le_of_ble_eq_true rfl) rfl ?_
  intro X F hQ
  have i1 : ∀ w ∈ u_ws RX1 TX1 1, w ∈ wsX1_put := gsub [7] rfl
  refine g_iload_n F dX1_put_0 rfl 1 rfl ?_
  refine g_iload_n F dX1_put_1 rfl 2 rfl ?_
  refine g_callSN (ws' := [(g, .inr (1, [.ref ga])), (ga, .inl (E.2.2, 96, .inl f))]) F dX1_put_2 (c_X4_isCell E x y ) rfl gX1_put_X4_isCell_n15 (List.mem_of_getElem? (i := 2) rfl) (List.mem_of_getElem? (i := 3) rfl) (List.mem_of_getElem? (i := 7) rfl) kS_X4_isCell ⟨by decide, by decide⟩ [] rfl (by decide +kernel) rfl rfl (Nat.le_of_ble_eq_true rfl) ⟨by decide, by decide⟩ ?_
  refine g_if_eq (tgt := 22) F dX1_put_5 (by decide) (fun k5 => ?_) (fun k5 => ?_)
  · skip
    exact g_vret F hQ dX1_put_22 (by simp [sGPut, k5])
  · skip
    refine g_aload_n F dX1_put_8 rfl 0 rfl ?_
    refine g_get F dX1_put_9 0 rfl rfl i1 0 (by decide) rfl (List.mem_of_getElem? (i := 1) rfl) ?_
    refine g_iload_n F dX1_put_12 rfl 2 rfl ?_
    refine g_bipush (v := 12) F dX1_put_13 (by decide) ?_
    refine g_imul F dX1_put_15 ?_
    refine g_iload_n F dX1_put_16 rfl 1 rfl ?_
    refine g_iadd F dX1_put_17 ?_
    refine g_iload_n F dX1_put_18 rfl 3 rfl ?_
    refine g_callSN (ws' := [(g, .inr (1, [.ref ga])), (ga, .inl (E.2.2, 96, .inl (sPut 96 f ((y * 12) + x) v)))]) F dX1_put_19 (c_X4_putNumber E ga 96 f ((y * 12) + x) v (by first | assumption | decide | omega)) rfl gX1_put_X4_putNumber_n23 (List.mem_of_getElem? (i := 5) rfl) (List.mem_of_getElem? (i := 3) rfl) (List.mem_of_getElem? (i := 15) rfl) kS_X4_putNumber ⟨by decide, by decide⟩ [1] rfl (by decide +kernel) rfl rfl (Nat.le_of_ble_eq_true rfl) ⟨by decide, by decide⟩ ?_
    exact g_vret F hQ dX1_put_22 (by simp [sGPut, k5])

set_option maxHeartbeats 4000000 in
set_option maxRecDepth 100000 in
theorem c_X1_add (E : gE) (g : Nat) (ga : Nat) (f : AF) (x : Int32) (y : Int32) (v : Int32) : Ct E yX1_add wsX1_add ({ frames := 2, cells := 0, slots := 0, locals := 45 }) [.ref g, .int x, .int y, .int v] [(g, .inr (1, [.ref ga])), (ga, .inl (E.2.2, 96, .inl f))] none [(g, .inr (1, [.ref ga])), (ga, .inl (E.2.2, 96, .inl (sGAdd f x y v)))] := by
  refine Ct.of (cc := cX1_add) (maxL := 4) (ret := none) (own := RX1) (L := [(0, .ref g), (1, .int x), (2, .int y), (3, .int v)]) (by decide) rfl rfl rfl (Nat.le_of_ble_eq_true rfl) rfl ?_
  intro X F hQ
  have i1 : ∀ w ∈ u_ws RX1 TX1 1, w ∈ wsX1_add := gsub [18] rfl
  refine g_aload_n F dX1_add_0 rfl 0 rfl ?_
  refine g_iload_n F dX1_add_1 rfl 1 rfl ?_
  refine g_iload_n F dX1_add_2 rfl 2 rfl ?_
  refine g_aload_n F dX1_add_3 rfl 0 rfl ?_
  refine g_iload_n F dX1_add_4 rfl 1 rfl ?_
  refine g_iload_n F dX1_add_5 rfl 2 rfl ?_
  refine g_callV (ws' := [(g, .inr (1, [.ref ga])), (ga, .inl (E.2.2, 96, .inl f))]) F dX1_add_6 (c_X1_at E g ga f x y ) rfl gX1_add_X1_at 0 rfl rfl kV_X1_at ⟨by decide, by decide⟩ [0, 1] rfl (by decide +kernel) rfl rfl (Nat.le_of_ble_eq_true rfl) ⟨by decide, by decide⟩ ?_
  refine g_iload_n F dX1_add_9 rfl 3 rfl ?_
  refine g_iadd F dX1_add_10 ?_
  refine g_callV (ws' := [(g, .inr (1, [.ref ga])), (ga, .inl (E.2.2, 96, .inl (sGPut f x y ((sGAt f x y) + v))))]) F dX1_add_11 (c_X1_put E g ga f x y ((sGAt f x y) + v) ) rfl gX1_add_X1_put 0 rfl rfl kV_X1_put ⟨by decide, by decide⟩ [0, 1] rfl (by decide +kernel) rfl rfl (Nat.le_of_ble_eq_true rfl) ⟨by decide, by decide⟩ ?_
  exact g_vret F hQ dX1_add_14 (rfl)

set_option maxHeartbeats 4000000 in
set_option maxRecDepth 100000 in
theorem c_X1_fill (E : gE) (g : Nat) (ga : Nat) (f : AF) (v : Int32) : Ct E yX1_fill wsX1_fill ({ frames := 1, cells := 0, slots := 0, locals := 22 }) [.ref g, .int v] [(g, .inr (1, [.ref ga])), (ga, .inl (E.2.2, 96, .inl f))] none [(g, .inr (1, [.ref ga])), (ga, .inl (E.2.2, 96, .inl (sFill v f 96)))] := by
  refine Ct.of (cc := cX1_fill) (maxL := 2) (ret := none) (own := RX1) (L := [(0, .ref g), (1, .int v)]) (by decide) rfl rfl rfl (Nat.le_of_ble_eq_true rfl) rfl ?_
  intro X F hQ
  have i1 : ∀ w ∈ u_ws RX1 TX1 1, w ∈ wsX1_fill := gsub [5] rfl
  refine g_aload_n F dX1_fill_0 rfl 0 rfl ?_
  refine g_get F dX1_fill_1 0 rfl rfl i1 0 (by decide) rfl (List.mem_of_getElem? (i := 1) rfl) ?_
  refine g_iload_n F dX1_fill_4 rfl 1 rfl ?_
  refine g_callSN (ws' := [(g, .inr (1, [.ref ga])), (ga, .inl (E.2.2, 96, .inl (sFill v f 96)))]) F dX1_fill_5 (c_X4_fillNumbers E ga 96 f v (by first | assumption | decide | omega)) rfl gX1_fill_X4_fillNumbers_n35 (List.mem_of_getElem? (i := 2) rfl) (List.mem_of_getElem? (i := 3) rfl) (List.mem_of_getElem? (i := 6) rfl) kS_X4_fillNumbers ⟨by decide, by decide⟩ [1] rfl (by decide +kernel) rfl rfl (Nat.le_of_ble_eq_true rfl) ⟨by decide, by decide⟩ ?_
  exact g_vret F hQ dX1_fill_8 (rfl)

set_option maxHeartbeats 4000000 in
set_option maxRecDepth 100000 in
theorem c_X1_digestFrom (E : gE) (g : Nat) (ga : Nat) (f : AF) (d : Int64) : Ct E yX1_digestFrom wsX1_digestFrom ({ frames := 2, cells := 0, slots := 0, locals := 47 }) [.ref g, .long d] [(g, .inr (1, [.ref ga])), (ga, .inl (E.2.2, 96, .inl f))] (some (.long (sDig 96 f d 96))) [(g, .inr (1, [.ref ga])), (ga, .inl (E.2.2, 96, .inl f))] := by
  refine Ct.of (cc := cX1_digestFrom) (maxL := 3) (ret := (some .long)) (own := RX1) (L := [(0, .ref g), (1, .long d)]) (by decide) rfl rfl rfl (Nat.le_of_ble_eq_true rfl) rfl ?_
  intro X F hQ
  have i1 : ∀ w ∈ u_ws RX1 TX1 1, w ∈ wsX1_digestFrom := gsub [9] rfl
  refine g_lload_n F dX1_digestFrom_0 rfl 1 rfl ?_
  refine g_aload_n F dX1_digestFrom_1 rfl 0 rfl ?_
  refine g_get F dX1_digestFrom_2 0 rfl rfl i1 0 (by decide) rfl (List.mem_of_getElem? (i := 1) rfl) ?_
  refine g_bipush (v := 96) F dX1_digestFrom_5 (by decide) ?_
  refine g_callSN (ws' := [(g, .inr (1, [.ref ga])), (ga, .inl (E.2.2, 96, .inl f))]) F dX1_digestFrom_7 (c_X4_digested E ga 96 96 f d (by first | assumption | decide | omega) (by first | assumption | decide | omega)) rfl gX1_digestFrom_X4_digested_n39 (List.mem_of_getElem? (i := 2) rfl) (List.mem_of_getElem? (i := 3) rfl) (List.mem_of_getElem? (i := 17) rfl) kS_X4_digested ⟨by decide, by decide⟩ [1] rfl (by decide +kernel) rfl rfl (Nat.le_of_ble_eq_true rfl) ⟨by decide, by decide⟩ ?_
  exact g_lret F hQ dX1_digestFrom_10 (rfl) (rfl)
end PGRID
