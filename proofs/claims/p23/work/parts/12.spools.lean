/-! the class: Spools, and the tests of arguments, where they hold -/
section PSPO
set_option maxHeartbeats 4000000 in
set_option maxRecDepth 100000 in
theorem c_X3_holds (E : gE) (s : Nat) (sa : Nat) (th : AF) (c : Int32) : Ct E yX3_holds wsX3_holds ({ frames := 1, cells := 0, slots := 0, locals := 21 }) [.ref s, .int c] [(s, .inr (3, [.ref sa])), (sa, .inl (E.2.2, 6, .inl th))] (some (.int (sAt 6 th c))) [(s, .inr (3, [.ref sa])), (sa, .inl (E.2.2, 6, .inl th))] := by
  refine Ct.of (cc := cX3_holds) (maxL := 2) (ret := (some .int)) (own := RX3) (L := [(0, .ref s), (1, .int c)]) (by decide) rfl rfl rfl (Nat.le_of_ble_eq_true rfl) rfl ?_
  intro X F hQ
  have i3 : ∀ w ∈ u_ws RX3 TX3 1, w ∈ wsX3_holds := gsub [5] rfl
  refine g_aload_n F dX3_holds_0 rfl 0 rfl ?_
  refine g_get F dX3_holds_1 0 rfl rfl i3 0 (by decide) rfl (List.mem_of_getElem? (i := 1) rfl) ?_
  refine g_iload_n F dX3_holds_4 rfl 1 rfl ?_
  refine g_callSN (ws' := [(s, .inr (3, [.ref sa])), (sa, .inl (E.2.2, 6, .inl th))]) F dX3_holds_5 (c_X4_numberAt E sa 6 th c (by first | assumption | decide | omega)) rfl gX3_holds_X4_numberAt_n19 (List.mem_of_getElem? (i := 2) rfl) (List.mem_of_getElem? (i := 3) rfl) (List.mem_of_getElem? (i := 12) rfl) kS_X4_numberAt ⟨by decide, by decide⟩ [1] rfl (by decide +kernel) rfl rfl (Nat.le_of_ble_eq_true rfl) ⟨by decide, by decide⟩ ?_
  exact g_iret F hQ dX3_holds_8 (rfl) (rfl)

set_option maxHeartbeats 4000000 in
set_option maxRecDepth 100000 in
theorem c_X3_holdInAll (E : gE) (s : Nat) (sa : Nat) (th : AF) : Ct E yX3_holdInAll wsX3_holdInAll ({ frames := 2, cells := 0, slots := 0, locals := 42 }) [.ref s] [(s, .inr (3, [.ref sa])), (sa, .inl (E.2.2, 6, .inl th))] (some (.int (sHold th 6))) [(s, .inr (3, [.ref sa])), (sa, .inl (E.2.2, 6, .inl th))] := by
  refine Ct.of (cc := cX3_holdInAll) (maxL := 3) (ret := (some .int)) (own := RX3) (L := [(0, .ref s)]) (by decide) rfl rfl rfl (Nat.le_of_ble_eq_true rfl) rfl ?_
  intro X F hQ
  have i3 : ∀ w ∈ u_ws RX3 TX3 1, w ∈ wsX3_holdInAll := gsub [10] rfl
  refine g_iconst (v := 0) F dX3_holdInAll_0 (by decide) ?_
  refine g_istore_n (L' := [(0, .ref s), (1, .int 0)]) F dX3_holdInAll_1 rfl (by decide) [1, 0] rfl ?_
  refine g_iconst (v := 0) F dX3_holdInAll_2 (by decide) ?_
  refine g_istore_n (L' := [(0, .ref s), (1, .int 0), (2, .int 0)]) F dX3_holdInAll_3 rfl (by decide) [1, 2, 0] rfl ?_
  have lp4 : ∀ (n4 i4 : Nat), i4 + n4 = 6 → G E X 0 0 4 [(0, .ref s), (1, .int (sHold th i4)), (2, .int (nI i4))] [] [(s, .inr (3, [.ref sa])), (sa, .inl (E.2.2, 6, .inl th))] := by
    intro n4
    induction n4 with
    | zero =>
      intro i4 hi4
      have he4 : i4 = 6 := by omega
      rw [he4]
      refine g_iload_n F dX3_holdInAll_4 rfl 2 rfl ?_
      refine g_bipush (v := 6) F dX3_holdInAll_5 (by decide) ?_
      refine g_icmp_ge_t (tgt := 24) F dX3_holdInAll_7 (by decide) (by decide) ?_
      refine g_iload_n F dX3_holdInAll_24 rfl 1 rfl ?_
      exact g_iret F hQ dX3_holdInAll_25 (rfl) (rfl)
    | succ n4 ih4 =>
      intro i4 hi4
      have hl4 : i4 < 6 := by omega
      refine g_iload_n F dX3_holdInAll_4 rfl 2 rfl ?_
      refine g_bipush (v := 6) F dX3_holdInAll_5 (by decide) ?_
      refine g_icmp_ge_f (tgt := 24) F dX3_holdInAll_7 (by decide) (nle_nI (n := 6) hl4 (by omega)) ?_
      refine g_iload_n F dX3_holdInAll_10 rfl 1 rfl ?_
      refine g_aload_n F dX3_holdInAll_11 rfl 0 rfl ?_
      refine g_iload_n F dX3_holdInAll_12 rfl 2 rfl ?_
      refine g_callV (ws' := [(s, .inr (3, [.ref sa])), (sa, .inl (E.2.2, 6, .inl th))]) F dX3_holdInAll_13 (c_X3_holds E s sa th (nI i4) ) rfl gX3_holdInAll_X3_holds 0 rfl rfl kV_X3_holds ⟨by decide, by decide⟩ [0, 1] rfl (by decide +kernel) rfl rfl (Nat.le_of_ble_eq_true rfl) ⟨by decide, by decide⟩ ?_
      refine g_iadd F dX3_holdInAll_16 ?_
      refine g_istore_n (L' := [(0, .ref s), (1, .int ((sHold th i4) + (sAt 6 th (nI i4)))), (2, .int (nI i4))]) F dX3_holdInAll_17 rfl (by decide) [1, 0, 2] rfl ?_
      refine g_iinc (L' := [(0, .ref s), (1, .int ((sHold th i4) + (sAt 6 th (nI i4)))), (2, .int (nI (i4 + 1)))]) (v := nI (i4 + 1)) F dX3_holdInAll_18 2 rfl (nI_1 _) (by decide) [1, 2, 0] rfl ?_
      refine g_goto (tgt := 4) F dX3_holdInAll_21 (by decide) ?_
      exact ih4 (i4 + 1) (by omega)
  exact lp4 6 0 (by omega)

set_option maxHeartbeats 4000000 in
set_option maxRecDepth 100000 in
theorem c_X3_add (E : gE) (s : Nat) (sa : Nat) (th : AF) (c : Int32) (n : Int32) : Ct E yX3_add wsX3_add ({ frames := 2, cells := 0, slots := 0, locals := 42 }) [.ref s, .int c, .int n] [(s, .inr (3, [.ref sa])), (sa, .inl (E.2.2, 6, .inl th))] none [(s, .inr (3, [.ref sa])), (sa, .inl (E.2.2, 6, .inl (sWind th c n)))] := by
  refine Ct.of (cc := cX3_add) (maxL := 3) (ret := none) (own := RX3) (L := [(0, .ref s), (1, .int c), (2, .int n)]) (by decide) rfl rfl rfl (Nat.le_of_ble_eq_true rfl) rfl ?_
  intro X F hQ
  have i3 : ∀ w ∈ u_ws RX3 TX3 1, w ∈ wsX3_add := gsub [16] rfl
  refine g_aload_n F dX3_add_0 rfl 0 rfl ?_
  refine g_get F dX3_add_1 0 rfl rfl i3 0 (by decide) rfl (List.mem_of_getElem? (i := 1) rfl) ?_
  refine g_iload_n F dX3_add_4 rfl 1 rfl ?_
  refine g_sipush (v := 999) F dX3_add_5 (by decide) ?_
  refine g_aload_n F dX3_add_8 rfl 0 rfl ?_
  refine g_iload_n F dX3_add_9 rfl 1 rfl ?_
  refine g_callV (ws' := [(s, .inr (3, [.ref sa])), (sa, .inl (E.2.2, 6, .inl th))]) F dX3_add_10 (c_X3_holds E s sa th c ) rfl gX3_add_X3_holds 0 rfl rfl kV_X3_holds ⟨by decide, by decide⟩ [0, 1] rfl (by decide +kernel) rfl rfl (Nat.le_of_ble_eq_true rfl) ⟨by decide, by decide⟩ ?_
  refine g_iload_n F dX3_add_13 rfl 2 rfl ?_
  refine g_iadd F dX3_add_14 ?_
  refine g_min F dX3_add_15 (List.mem_of_getElem? (i := 2) rfl) (List.mem_of_getElem? (i := 3) rfl) (List.mem_of_getElem? (i := 4) rfl) (List.mem_of_getElem? (i := 5) rfl) (by decide) (Nat.le_of_ble_eq_true rfl) (by decide) (by decide) ?_
  refine g_callSN (ws' := [(s, .inr (3, [.ref sa])), (sa, .inl (E.2.2, 6, .inl (sPut 6 th c (sMin 999 ((sAt 6 th c) + n)))))]) F dX3_add_18 (c_X4_putNumber E sa 6 th c (sMin 999 ((sAt 6 th c) + n)) (by first | assumption | decide | omega)) rfl gX3_add_X4_putNumber_n33 (List.mem_of_getElem? (i := 14) rfl) (List.mem_of_getElem? (i := 12) rfl) (List.mem_of_getElem? (i := 20) rfl) kS_X4_putNumber ⟨by decide, by decide⟩ [1] rfl (by decide +kernel) rfl rfl (Nat.le_of_ble_eq_true rfl) ⟨by decide, by decide⟩ ?_
  exact g_vret F hQ dX3_add_21 (rfl)

set_option maxHeartbeats 4000000 in
set_option maxRecDepth 100000 in
theorem c_X3_sufficeFor (E : gE) (s : Nat) (sa : Nat) (th : AF) (c : Nat) (d : Nat) (d1 : Nat) (d2 : Nat) (d3 : Nat) (d4 : Nat) (w : Nat) (wa : Nat) (ca : Nat) (cb : Nat) (r : Nat) (ra : Nat) (u : Nat) (t : AF) (so : AF) (st : AF) (sh : AF) (fw : AF) (fc : AF) (fr : AF) (fu : AF) (off : Int32) (bx : Int32) : Ct E yX3_sufficeFor wsX3_sufficeFor ({ frames := 2, cells := 0, slots := 0, locals := 42 }) [.ref s, .ref c] [(s, .inr (3, [.ref sa])), (sa, .inl (E.2.2, 6, .inl th)), (c, .inr (0, [.ref d, .ref w, .ref ca, .ref r, .ref u, .int off])), (d, .inr (2, [.ref d1, .ref d2, .ref d3, .ref d4, .int bx])), (d1, .inl (E.2.2, 256, .inl t)), (d2, .inl (E.2.2, 96, .inl so)), (d3, .inl (E.2.2, 6, .inl st)), (d4, .inl (E.2.2, 6, .inl sh)), (w, .inr (1, [.ref wa])), (wa, .inl (E.2.2, 96, .inl fw)), (ca, .inr (1, [.ref cb])), (cb, .inl (E.2.2, 96, .inl fc)), (r, .inr (1, [.ref ra])), (ra, .inl (E.2.2, 96, .inl fr)), (u, .inl (E.2.2, 6, .inl fu))] (some (.int (sSuf fu th))) [(s, .inr (3, [.ref sa])), (sa, .inl (E.2.2, 6, .inl th)), (c, .inr (0, [.ref d, .ref w, .ref ca, .ref r, .ref u, .int off])), (d, .inr (2, [.ref d1, .ref d2, .ref d3, .ref d4, .int bx])), (d1, .inl (E.2.2, 256, .inl t)), (d2, .inl (E.2.2, 96, .inl so)), (d3, .inl (E.2.2, 6, .inl st)), (d4, .inl (E.2.2, 6, .inl sh)), (w, .inr (1, [.ref wa])), (wa, .inl (E.2.2, 96, .inl fw)), (ca, .inr (1, [.ref cb])), (cb, .inl (E.2.2, 96, .inl fc)), (r, .inr (1, [.ref ra])), (ra, .inl (E.2.2, 96, .inl fr)), (u, .inl (E.2.2, 6, .inl fu))] := by
  refine Ct.of (cc := cX3_sufficeFor) (maxL := 3) (ret := (some .boolean)) (own := RX3) (L := [(0, .ref s), (1, .ref c)]) (by decide) rfl rfl rfl (Nat.le_of_ble_eq_true rfl) rfl ?_
  intro X F hQ
  have i0 : ∀ w ∈ u_ws RX0 TX0 6, w ∈ wsX3_sufficeFor := gsub [16, 17, 18, 19, 20, 21] rfl
  have i3 : ∀ w ∈ u_ws RX3 TX3 1, w ∈ wsX3_sufficeFor := gsub [22] rfl
  refine g_iconst (v := 0) F dX3_sufficeFor_0 (by decide) ?_
  refine g_istore_n (L' := [(0, .ref s), (1, .ref c), (2, .int 0)]) F dX3_sufficeFor_1 rfl (by decide) [1, 2, 0] rfl ?_
  have lp2 : ∀ (n2 i2 : Nat), i2 + n2 = 6 → (∀ c, c < i2 → sAt 6 fu (nI c) ≤ sAt 6 th (nI c)) → G E X 0 0 2 [(0, .ref s), (1, .ref c), (2, .int (nI i2))] [] [(s, .inr (3, [.ref sa])), (sa, .inl (E.2.2, 6, .inl th)), (c, .inr (0, [.ref d, .ref w, .ref ca, .ref r, .ref u, .int off])), (d, .inr (2, [.ref d1, .ref d2, .ref d3, .ref d4, .int bx])), (d1, .inl (E.2.2, 256, .inl t)), (d2, .inl (E.2.2, 96, .inl so)), (d3, .inl (E.2.2, 6, .inl st)), (d4, .inl (E.2.2, 6, .inl sh)), (w, .inr (1, [.ref wa])), (wa, .inl (E.2.2, 96, .inl fw)), (ca, .inr (1, [.ref cb])), (cb, .inl (E.2.2, 96, .inl fc)), (r, .inr (1, [.ref ra])), (ra, .inl (E.2.2, 96, .inl fr)), (u, .inl (E.2.2, 6, .inl fu))] := by
    intro n2
    induction n2 with
    | zero =>
      intro i2 hi2  ha
      have he2 : i2 = 6 := by omega
      rw [he2] at ha
      rw [he2]
      refine g_iload_n F dX3_sufficeFor_2 rfl 2 rfl ?_
      refine g_bipush (v := 6) F dX3_sufficeFor_3 (by decide) ?_
      refine g_icmp_ge_t (tgt := 29) F dX3_sufficeFor_5 (by decide) (by decide) ?_
      refine g_iconst (v := 1) F dX3_sufficeFor_29 (by decide) ?_
      exact g_zret F hQ dX3_sufficeFor_30 (Or.inr rfl) (by rw [sSuf, pIf_pos ha]) (rfl)
    | succ n2 ih2 =>
      intro i2 hi2  ha
      have hl2 : i2 < 6 := by omega
      refine g_iload_n F dX3_sufficeFor_2 rfl 2 rfl ?_
      refine g_bipush (v := 6) F dX3_sufficeFor_3 (by decide) ?_
      refine g_icmp_ge_f (tgt := 29) F dX3_sufficeFor_5 (by decide) (nle_nI (n := 6) hl2 (by omega)) ?_
      refine g_aload_n F dX3_sufficeFor_8 rfl 1 rfl ?_
      refine g_iload_n F dX3_sufficeFor_9 rfl 2 rfl ?_
      refine g_callV (ws' := [(s, .inr (3, [.ref sa])), (sa, .inl (E.2.2, 6, .inl th)), (c, .inr (0, [.ref d, .ref w, .ref ca, .ref r, .ref u, .int off])), (d, .inr (2, [.ref d1, .ref d2, .ref d3, .ref d4, .int bx])), (d1, .inl (E.2.2, 256, .inl t)), (d2, .inl (E.2.2, 96, .inl so)), (d3, .inl (E.2.2, 6, .inl st)), (d4, .inl (E.2.2, 6, .inl sh)), (w, .inr (1, [.ref wa])), (wa, .inl (E.2.2, 96, .inl fw)), (ca, .inr (1, [.ref cb])), (cb, .inl (E.2.2, 96, .inl fc)), (r, .inr (1, [.ref ra])), (ra, .inl (E.2.2, 96, .inl fr)), (u, .inl (E.2.2, 6, .inl fu))]) F dX3_sufficeFor_10 (c_X0_cellsIn E c d d1 d2 d3 d4 w wa ca cb r ra u t so st sh fw fc fr fu off bx (nI i2) ) rfl gX3_sufficeFor_X0_cellsIn 2 rfl rfl kV_X0_cellsIn ⟨by decide, by decide⟩ [2, 3, 4, 5, 6, 7, 8, 9, 10, 11, 12, 13, 14] rfl (by decide +kernel) rfl rfl (Nat.le_of_ble_eq_true rfl) ⟨by decide, by decide⟩ ?_
      refine g_aload_n F dX3_sufficeFor_13 rfl 0 rfl ?_
      refine g_iload_n F dX3_sufficeFor_14 rfl 2 rfl ?_
      refine g_callV (ws' := [(s, .inr (3, [.ref sa])), (sa, .inl (E.2.2, 6, .inl th)), (c, .inr (0, [.ref d, .ref w, .ref ca, .ref r, .ref u, .int off])), (d, .inr (2, [.ref d1, .ref d2, .ref d3, .ref d4, .int bx])), (d1, .inl (E.2.2, 256, .inl t)), (d2, .inl (E.2.2, 96, .inl so)), (d3, .inl (E.2.2, 6, .inl st)), (d4, .inl (E.2.2, 6, .inl sh)), (w, .inr (1, [.ref wa])), (wa, .inl (E.2.2, 96, .inl fw)), (ca, .inr (1, [.ref cb])), (cb, .inl (E.2.2, 96, .inl fc)), (r, .inr (1, [.ref ra])), (ra, .inl (E.2.2, 96, .inl fr)), (u, .inl (E.2.2, 6, .inl fu))]) F dX3_sufficeFor_15 (c_X3_holds E s sa th (nI i2) ) rfl gX3_sufficeFor_X3_holds 0 rfl rfl kV_X3_holds ⟨by decide, by decide⟩ [0, 1] rfl (by decide +kernel) rfl rfl (Nat.le_of_ble_eq_true rfl) ⟨by decide, by decide⟩ ?_
      refine g_icmp_le (tgt := 23) F dX3_sufficeFor_18 (by decide) (fun k18 => ?_) (fun k18 => ?_)
      · skip
        refine g_iinc (L' := [(0, .ref s), (1, .ref c), (2, .int (nI (i2 + 1)))]) (v := nI (i2 + 1)) F dX3_sufficeFor_23 2 rfl (nI_1 _) (by decide) [1, 2, 0] rfl ?_
        refine g_goto (tgt := 2) F dX3_sufficeFor_26 (by decide) ?_
        exact ih2 (i2 + 1) (by omega) (lt_s ha k18)
      · skip
        refine g_iconst (v := 0) F dX3_sufficeFor_21 (by decide) ?_
        exact g_zret F hQ dX3_sufficeFor_22 (Or.inl rfl) (by rw [sSuf, pIf_neg (fun h => k18 (h _ hl2))]) (rfl)
  exact lp2 6 0 (by omega) (fun x hx => absurd hx (Nat.not_lt_zero x))

set_option maxHeartbeats 4000000 in
set_option maxRecDepth 100000 in
theorem c_X3_takeFor (E : gE) (s : Nat) (sa : Nat) (th : AF) (c : Nat) (d : Nat) (d1 : Nat) (d2 : Nat) (d3 : Nat) (d4 : Nat) (w : Nat) (wa : Nat) (ca : Nat) (cb : Nat) (r : Nat) (ra : Nat) (u : Nat) (t : AF) (so : AF) (st : AF) (sh : AF) (fw : AF) (fc : AF) (fr : AF) (fu : AF) (off : Int32) (bx : Int32) : Ct E yX3_takeFor wsX3_takeFor ({ frames := 2, cells := 0, slots := 0, locals := 42 }) [.ref s, .ref c] [(s, .inr (3, [.ref sa])), (sa, .inl (E.2.2, 6, .inl th)), (c, .inr (0, [.ref d, .ref w, .ref ca, .ref r, .ref u, .int off])), (d, .inr (2, [.ref d1, .ref d2, .ref d3, .ref d4, .int bx])), (d1, .inl (E.2.2, 256, .inl t)), (d2, .inl (E.2.2, 96, .inl so)), (d3, .inl (E.2.2, 6, .inl st)), (d4, .inl (E.2.2, 6, .inl sh)), (w, .inr (1, [.ref wa])), (wa, .inl (E.2.2, 96, .inl fw)), (ca, .inr (1, [.ref cb])), (cb, .inl (E.2.2, 96, .inl fc)), (r, .inr (1, [.ref ra])), (ra, .inl (E.2.2, 96, .inl fr)), (u, .inl (E.2.2, 6, .inl fu))] none [(s, .inr (3, [.ref sa])), (sa, .inl (E.2.2, 6, .inl (sTake fu th 6))), (c, .inr (0, [.ref d, .ref w, .ref ca, .ref r, .ref u, .int off])), (d, .inr (2, [.ref d1, .ref d2, .ref d3, .ref d4, .int bx])), (d1, .inl (E.2.2, 256, .inl t)), (d2, .inl (E.2.2, 96, .inl so)), (d3, .inl (E.2.2, 6, .inl st)), (d4, .inl (E.2.2, 6, .inl sh)), (w, .inr (1, [.ref wa])), (wa, .inl (E.2.2, 96, .inl fw)), (ca, .inr (1, [.ref cb])), (cb, .inl (E.2.2, 96, .inl fc)), (r, .inr (1, [.ref ra])), (ra, .inl (E.2.2, 96, .inl fr)), (u, .inl (E.2.2, 6, .inl fu))] := by
  refine Ct.of (cc := cX3_takeFor) (maxL := 3) (ret := none) (own := RX3) (L := [(0, .ref s), (1, .ref c)]) (by decide) rfl rfl rfl (Nat.le_of_ble_eq_true rfl) rfl ?_
  intro X F hQ
  have i0 : ∀ w ∈ u_ws RX0 TX0 6, w ∈ wsX3_takeFor := gsub [19, 20, 21, 22, 23, 24] rfl
  have i3 : ∀ w ∈ u_ws RX3 TX3 1, w ∈ wsX3_takeFor := gsub [18] rfl
  refine g_iconst (v := 0) F dX3_takeFor_0 (by decide) ?_
  refine g_istore_n (L' := [(0, .ref s), (1, .ref c), (2, .int 0)]) F dX3_takeFor_1 rfl (by decide) [1, 2, 0] rfl ?_
  have lp2 : ∀ (n2 i2 : Nat), i2 + n2 = 6 → G E X 0 0 2 [(0, .ref s), (1, .ref c), (2, .int (nI i2))] [] [(s, .inr (3, [.ref sa])), (sa, .inl (E.2.2, 6, .inl (sTake fu th i2))), (c, .inr (0, [.ref d, .ref w, .ref ca, .ref r, .ref u, .int off])), (d, .inr (2, [.ref d1, .ref d2, .ref d3, .ref d4, .int bx])), (d1, .inl (E.2.2, 256, .inl t)), (d2, .inl (E.2.2, 96, .inl so)), (d3, .inl (E.2.2, 6, .inl st)), (d4, .inl (E.2.2, 6, .inl sh)), (w, .inr (1, [.ref wa])), (wa, .inl (E.2.2, 96, .inl fw)), (ca, .inr (1, [.ref cb])), (cb, .inl (E.2.2, 96, .inl fc)), (r, .inr (1, [.ref ra])), (ra, .inl (E.2.2, 96, .inl fr)), (u, .inl (E.2.2, 6, .inl fu))] := by
    intro n2
    induction n2 with
    | zero =>
      intro i2 hi2
      have he2 : i2 = 6 := by omega
      rw [he2]
      refine g_iload_n F dX3_takeFor_2 rfl 2 rfl ?_
      refine g_bipush (v := 6) F dX3_takeFor_3 (by decide) ?_
      refine g_icmp_ge_t (tgt := 33) F dX3_takeFor_5 (by decide) (by decide) ?_
      exact g_vret F hQ dX3_takeFor_33 (rfl)
    | succ n2 ih2 =>
      intro i2 hi2
      have hl2 : i2 < 6 := by omega
      refine g_iload_n F dX3_takeFor_2 rfl 2 rfl ?_
      refine g_bipush (v := 6) F dX3_takeFor_3 (by decide) ?_
      refine g_icmp_ge_f (tgt := 33) F dX3_takeFor_5 (by decide) (nle_nI (n := 6) hl2 (by omega)) ?_
      refine g_aload_n F dX3_takeFor_8 rfl 0 rfl ?_
      refine g_get F dX3_takeFor_9 0 rfl rfl i3 0 (by decide) rfl (List.mem_of_getElem? (i := 1) rfl) ?_
      refine g_iload_n F dX3_takeFor_12 rfl 2 rfl ?_
      refine g_aload_n F dX3_takeFor_13 rfl 0 rfl ?_
      refine g_iload_n F dX3_takeFor_14 rfl 2 rfl ?_
      refine g_callV (ws' := [(s, .inr (3, [.ref sa])), (sa, .inl (E.2.2, 6, .inl (sTake fu th i2))), (c, .inr (0, [.ref d, .ref w, .ref ca, .ref r, .ref u, .int off])), (d, .inr (2, [.ref d1, .ref d2, .ref d3, .ref d4, .int bx])), (d1, .inl (E.2.2, 256, .inl t)), (d2, .inl (E.2.2, 96, .inl so)), (d3, .inl (E.2.2, 6, .inl st)), (d4, .inl (E.2.2, 6, .inl sh)), (w, .inr (1, [.ref wa])), (wa, .inl (E.2.2, 96, .inl fw)), (ca, .inr (1, [.ref cb])), (cb, .inl (E.2.2, 96, .inl fc)), (r, .inr (1, [.ref ra])), (ra, .inl (E.2.2, 96, .inl fr)), (u, .inl (E.2.2, 6, .inl fu))]) F dX3_takeFor_15 (c_X3_holds E s sa (sTake fu th i2) (nI i2) ) rfl gX3_takeFor_X3_holds 0 rfl rfl kV_X3_holds ⟨by decide, by decide⟩ [0, 1] rfl (by decide +kernel) rfl rfl (Nat.le_of_ble_eq_true rfl) ⟨by decide, by decide⟩ ?_
      refine g_aload_n F dX3_takeFor_18 rfl 1 rfl ?_
      refine g_iload_n F dX3_takeFor_19 rfl 2 rfl ?_
      refine g_callV (ws' := [(s, .inr (3, [.ref sa])), (sa, .inl (E.2.2, 6, .inl (sTake fu th i2))), (c, .inr (0, [.ref d, .ref w, .ref ca, .ref r, .ref u, .int off])), (d, .inr (2, [.ref d1, .ref d2, .ref d3, .ref d4, .int bx])), (d1, .inl (E.2.2, 256, .inl t)), (d2, .inl (E.2.2, 96, .inl so)), (d3, .inl (E.2.2, 6, .inl st)), (d4, .inl (E.2.2, 6, .inl sh)), (w, .inr (1, [.ref wa])), (wa, .inl (E.2.2, 96, .inl fw)), (ca, .inr (1, [.ref cb])), (cb, .inl (E.2.2, 96, .inl fc)), (r, .inr (1, [.ref ra])), (ra, .inl (E.2.2, 96, .inl fr)), (u, .inl (E.2.2, 6, .inl fu))]) F dX3_takeFor_20 (c_X0_cellsIn E c d d1 d2 d3 d4 w wa ca cb r ra u t so st sh fw fc fr fu off bx (nI i2) ) rfl gX3_takeFor_X0_cellsIn 2 rfl rfl kV_X0_cellsIn ⟨by decide, by decide⟩ [2, 3, 4, 5, 6, 7, 8, 9, 10, 11, 12, 13, 14] rfl (by decide +kernel) rfl rfl (Nat.le_of_ble_eq_true rfl) ⟨by decide, by decide⟩ ?_
      refine g_isub F dX3_takeFor_23 ?_
      refine g_callSN (ws' := [(s, .inr (3, [.ref sa])), (sa, .inl (E.2.2, 6, .inl (sPut 6 (sTake fu th i2) (nI i2) ((sAt 6 (sTake fu th i2) (nI i2)) - (sAt 6 fu (nI i2)))))), (c, .inr (0, [.ref d, .ref w, .ref ca, .ref r, .ref u, .int off])), (d, .inr (2, [.ref d1, .ref d2, .ref d3, .ref d4, .int bx])), (d1, .inl (E.2.2, 256, .inl t)), (d2, .inl (E.2.2, 96, .inl so)), (d3, .inl (E.2.2, 6, .inl st)), (d4, .inl (E.2.2, 6, .inl sh)), (w, .inr (1, [.ref wa])), (wa, .inl (E.2.2, 96, .inl fw)), (ca, .inr (1, [.ref cb])), (cb, .inl (E.2.2, 96, .inl fc)), (r, .inr (1, [.ref ra])), (ra, .inl (E.2.2, 96, .inl fr)), (u, .inl (E.2.2, 6, .inl fu))]) F dX3_takeFor_24 (c_X4_putNumber E sa 6 (sTake fu th i2) (nI i2) ((sAt 6 (sTake fu th i2) (nI i2)) - (sAt 6 fu (nI i2))) (by first | assumption | decide | omega)) rfl gX3_takeFor_X4_putNumber_n33 (List.mem_of_getElem? (i := 16) rfl) (List.mem_of_getElem? (i := 8) rfl) (List.mem_of_getElem? (i := 20) rfl) kS_X4_putNumber ⟨by decide, by decide⟩ [1] rfl (by decide +kernel) rfl rfl (Nat.le_of_ble_eq_true rfl) ⟨by decide, by decide⟩ ?_
      refine g_iinc (L' := [(0, .ref s), (1, .ref c), (2, .int (nI (i2 + 1)))]) (v := nI (i2 + 1)) F dX3_takeFor_27 2 rfl (nI_1 _) (by decide) [1, 2, 0] rfl ?_
      refine g_goto (tgt := 2) F dX3_takeFor_30 (by decide) ?_
      exact ih2 (i2 + 1) (by omega)
  exact lp2 6 0 (by omega)

set_option maxHeartbeats 4000000 in
set_option maxRecDepth 100000 in
theorem c_X3_digestFrom (E : gE) (s : Nat) (sa : Nat) (th : AF) (z : Int64) : Ct E yX3_digestFrom wsX3_digestFrom ({ frames := 2, cells := 0, slots := 0, locals := 47 }) [.ref s, .long z] [(s, .inr (3, [.ref sa])), (sa, .inl (E.2.2, 6, .inl th))] (some (.long (sDig 6 th z 6))) [(s, .inr (3, [.ref sa])), (sa, .inl (E.2.2, 6, .inl th))] := by
  refine Ct.of (cc := cX3_digestFrom) (maxL := 3) (ret := (some .long)) (own := RX3) (L := [(0, .ref s), (1, .long z)]) (by decide) rfl rfl rfl (Nat.le_of_ble_eq_true rfl) rfl ?_
  intro X F hQ
  have i3 : ∀ w ∈ u_ws RX3 TX3 1, w ∈ wsX3_digestFrom := gsub [9] rfl
  refine g_lload_n F dX3_digestFrom_0 rfl 1 rfl ?_
  refine g_aload_n F dX3_digestFrom_1 rfl 0 rfl ?_
  refine g_get F dX3_digestFrom_2 0 rfl rfl i3 0 (by decide) rfl (List.mem_of_getElem? (i := 1) rfl) ?_
  refine g_bipush (v := 6) F dX3_digestFrom_5 (by decide) ?_
  refine g_callSN (ws' := [(s, .inr (3, [.ref sa])), (sa, .inl (E.2.2, 6, .inl th))]) F dX3_digestFrom_7 (c_X4_digested E sa 6 6 th z (by first | assumption | decide | omega) (by first | assumption | decide | omega)) rfl gX3_digestFrom_X4_digested_n42 (List.mem_of_getElem? (i := 2) rfl) (List.mem_of_getElem? (i := 3) rfl) (List.mem_of_getElem? (i := 18) rfl) kS_X4_digested ⟨by decide, by decide⟩ [1] rfl (by decide +kernel) rfl rfl (Nat.le_of_ble_eq_true rfl) ⟨by decide, by decide⟩ ?_
  exact g_lret F hQ dX3_digestFrom_10 (rfl) (rfl)

set_option maxHeartbeats 4000000 in
set_option maxRecDepth 100000 in
theorem c_X4_heldShade (E : gE) (v : Int32) : Ct E yX4_heldShade wsX4_heldShade ({ frames := 1, cells := 0, slots := 0, locals := 21 }) [.int v] [] (some (.int (sHeld v))) [] := by
  refine Ct.of (cc := cX4_heldShade) (maxL := 1) (ret := (some .int)) (own := RX4) (L := [(0, .int v)]) (by decide) rfl rfl rfl (Nat.le_of_ble_eq_true rfl) rfl ?_
  intro X F hQ
  refine g_iconst (v := 0) F dX4_heldShade_0 (by decide) ?_
  refine g_sipush (v := 255) F dX4_heldShade_1 (by decide) ?_
  refine g_iload_n F dX4_heldShade_4 rfl 0 rfl ?_
  refine g_min F dX4_heldShade_5 (List.mem_of_getElem? (i := 1) rfl) (List.mem_of_getElem? (i := 2) rfl) (List.mem_of_getElem? (i := 3) rfl) (List.mem_of_getElem? (i := 4) rfl) (by decide) (Nat.le_of_ble_eq_true rfl) (by decide) (by decide) ?_
  refine g_max F dX4_heldShade_8 (List.mem_of_getElem? (i := 5) rfl) (List.mem_of_getElem? (i := 6) rfl) (List.mem_of_getElem? (i := 3) rfl) (List.mem_of_getElem? (i := 7) rfl) (by decide) (Nat.le_of_ble_eq_true rfl) (by decide) (by decide) ?_
  exact g_iret F hQ dX4_heldShade_11 (rfl) (rfl)

set_option maxHeartbeats 4000000 in
set_option maxRecDepth 100000 in
theorem c_X4_needUpTo (E : gE) (n : Int32) (t : Int32) (h0 : ¬ n < 0) (h1 : n ≤ t) : Ct E yX4_needUpTo wsX4_needUpTo ({ frames := 6, cells := 0, slots := 0, locals := 90 }) [.int n, .int t] [] none [] := by
  refine Ct.of (cc := cX4_needUpTo) (maxL := 2) (ret := none) (own := RX4) (L := [(0, .int n), (1, .int t)]) (by decide) rfl rfl rfl (Nat.le_of_ble_eq_true rfl) rfl ?_
  intro X F hQ
  refine g_iload_n F dX4_needUpTo_0 rfl 0 rfl ?_
  refine g_if_lt_f (tgt := 9) F dX4_needUpTo_1 (by decide) (h0) ?_
  refine g_iload_n F dX4_needUpTo_4 rfl 0 rfl ?_
  refine g_iload_n F dX4_needUpTo_5 rfl 1 rfl ?_
  refine g_icmp_le_t (tgt := 19) F dX4_needUpTo_6 (by decide) (h1) ?_
  exact g_vret F hQ dX4_needUpTo_19 (rfl)

set_option maxHeartbeats 4000000 in
set_option maxRecDepth 100000 in
theorem c_X4_needWithin (E : gE) (n : Int32) (b : Int32) (t : Int32) (h0 : ¬ n < b) (h1 : n ≤ t) : Ct E yX4_needWithin wsX4_needWithin ({ frames := 6, cells := 0, slots := 0, locals := 90 }) [.int n, .int b, .int t] [] none [] := by
  refine Ct.of (cc := cX4_needWithin) (maxL := 3) (ret := none) (own := RX4) (L := [(0, .int n), (1, .int b), (2, .int t)]) (by decide) rfl rfl rfl (Nat.le_of_ble_eq_true rfl) rfl ?_
  intro X F hQ
  refine g_iload_n F dX4_needWithin_0 rfl 0 rfl ?_
  refine g_iload_n F dX4_needWithin_1 rfl 1 rfl ?_
  refine g_icmp_lt_f (tgt := 10) F dX4_needWithin_2 (by decide) (h0) ?_
  refine g_iload_n F dX4_needWithin_5 rfl 0 rfl ?_
  refine g_iload_n F dX4_needWithin_6 rfl 2 rfl ?_
  refine g_icmp_le_t (tgt := 20) F dX4_needWithin_7 (by decide) (h1) ?_
  exact g_vret F hQ dX4_needWithin_20 (rfl)

set_option maxHeartbeats 4000000 in
set_option maxRecDepth 100000 in
theorem c_X4_needCell (E : gE) (x : Int32) (y : Int32) (h0 : ¬ sCell x y = 0) : Ct E yX4_needCell wsX4_needCell ({ frames := 6, cells := 0, slots := 0, locals := 90 }) [.int x, .int y] [] none [] := by
  refine Ct.of (cc := cX4_needCell) (maxL := 2) (ret := none) (own := RX4) (L := [(0, .int x), (1, .int y)]) (by decide) rfl rfl rfl (Nat.le_of_ble_eq_true rfl) rfl ?_
  intro X F hQ
  refine g_iload_n F dX4_needCell_0 rfl 0 rfl ?_
  refine g_iload_n F dX4_needCell_1 rfl 1 rfl ?_
  refine g_callS (ws' := []) F dX4_needCell_2 (c_X4_isCell E x y ) rfl gX4_needCell_X4_isCell kS_X4_isCell ⟨by decide, by decide⟩ [] rfl (by decide +kernel) rfl rfl (Nat.le_of_ble_eq_true rfl) ⟨by decide, by decide⟩ ?_
  refine g_if_ne_t (tgt := 18) F dX4_needCell_5 (by decide) (h0) ?_
  exact g_vret F hQ dX4_needCell_18 (rfl)

set_option maxHeartbeats 4000000 in
set_option maxRecDepth 100000 in
theorem c_X4_needRow (E : gE) (n : Int32) (h0 : ¬ n < 0) (h1 : n ≤ 7) : Ct E yX4_needRow wsX4_needRow ({ frames := 7, cells := 0, slots := 0, locals := 111 }) [.int n] [] none [] := by
  refine Ct.of (cc := cX4_needRow) (maxL := 1) (ret := none) (own := RX4) (L := [(0, .int n)]) (by decide) rfl rfl rfl (Nat.le_of_ble_eq_true rfl) rfl ?_
  intro X F hQ
  refine g_iload_n F dX4_needRow_0 rfl 0 rfl ?_
  refine g_bipush (v := 7) F dX4_needRow_1 (by decide) ?_
  refine g_callS (ws' := []) F dX4_needRow_3 (c_X4_needUpTo E n 7 (by first | assumption | decide | omega) (by first | assumption | decide | omega)) rfl gX4_needRow_X4_needUpTo kS_X4_needUpTo ⟨by decide, by decide⟩ [] rfl (by decide +kernel) rfl rfl (Nat.le_of_ble_eq_true rfl) ⟨by decide, by decide⟩ ?_
  exact g_vret F hQ dX4_needRow_6 (rfl)

set_option maxHeartbeats 4000000 in
set_option maxRecDepth 100000 in
theorem c_X4_needColour (E : gE) (n : Int32) (h0 : ¬ n < 0) (h1 : n ≤ 5) : Ct E yX4_needColour wsX4_needColour ({ frames := 7, cells := 0, slots := 0, locals := 111 }) [.int n] [] none [] := by
  refine Ct.of (cc := cX4_needColour) (maxL := 1) (ret := none) (own := RX4) (L := [(0, .int n)]) (by decide) rfl rfl rfl (Nat.le_of_ble_eq_true rfl) rfl ?_
  intro X F hQ
  refine g_iload_n F dX4_needColour_0 rfl 0 rfl ?_
  refine g_iconst (v := 5) F dX4_needColour_1 (by decide) ?_
  refine g_callS (ws' := []) F dX4_needColour_2 (c_X4_needUpTo E n 5 (by first | assumption | decide | omega) (by first | assumption | decide | omega)) rfl gX4_needColour_X4_needUpTo kS_X4_needUpTo ⟨by decide, by decide⟩ [] rfl (by decide +kernel) rfl rfl (Nat.le_of_ble_eq_true rfl) ⟨by decide, by decide⟩ ?_
  exact g_vret F hQ dX4_needColour_5 (rfl)

set_option maxHeartbeats 4000000 in
set_option maxRecDepth 100000 in
theorem c_X4_needShade (E : gE) (n : Int32) (h0 : ¬ n < 0) (h1 : n ≤ 255) : Ct E yX4_needShade wsX4_needShade ({ frames := 7, cells := 0, slots := 0, locals := 112 }) [.int n] [] none [] := by
  refine Ct.of (cc := cX4_needShade) (maxL := 1) (ret := none) (own := RX4) (L := [(0, .int n)]) (by decide) rfl rfl rfl (Nat.le_of_ble_eq_true rfl) rfl ?_
  intro X F hQ
  refine g_iload_n F dX4_needShade_0 rfl 0 rfl ?_
  refine g_iconst (v := 0) F dX4_needShade_1 (by decide) ?_
  refine g_sipush (v := 255) F dX4_needShade_2 (by decide) ?_
  refine g_callS (ws' := []) F dX4_needShade_5 (c_X4_needWithin E n 0 255 (by first | assumption | decide | omega) (by first | assumption | decide | omega)) rfl gX4_needShade_X4_needWithin kS_X4_needWithin ⟨by decide, by decide⟩ [] rfl (by decide +kernel) rfl rfl (Nat.le_of_ble_eq_true rfl) ⟨by decide, by decide⟩ ?_
  exact g_vret F hQ dX4_needShade_8 (rfl)

set_option maxHeartbeats 4000000 in
set_option maxRecDepth 100000 in
theorem c_X4_needStep (E : gE) (n : Int32) (h0 : ¬ n < (-60)) (h1 : n ≤ 60) : Ct E yX4_needStep wsX4_needStep ({ frames := 7, cells := 0, slots := 0, locals := 112 }) [.int n] [] none [] := by
  refine Ct.of (cc := cX4_needStep) (maxL := 1) (ret := none) (own := RX4) (L := [(0, .int n)]) (by decide) rfl rfl rfl (Nat.le_of_ble_eq_true rfl) rfl ?_
  intro X F hQ
  refine g_iload_n F dX4_needStep_0 rfl 0 rfl ?_
  refine g_bipush (v := (-60)) F dX4_needStep_1 (by decide) ?_
  refine g_bipush (v := 60) F dX4_needStep_3 (by decide) ?_
  refine g_callS (ws' := []) F dX4_needStep_5 (c_X4_needWithin E n (-60) 60 (by first | assumption | decide | omega) (by first | assumption | decide | omega)) rfl gX4_needStep_X4_needWithin kS_X4_needWithin ⟨by decide, by decide⟩ [] rfl (by decide +kernel) rfl rfl (Nat.le_of_ble_eq_true rfl) ⟨by decide, by decide⟩ ?_
  exact g_vret F hQ dX4_needStep_8 (rfl)

set_option maxHeartbeats 4000000 in
set_option maxRecDepth 100000 in
theorem c_X4_needColours (E : gE) (n : Int32) (h0 : ¬ n < 2) (h1 : n ≤ 6) : Ct E yX4_needColours wsX4_needColours ({ frames := 7, cells := 0, slots := 0, locals := 112 }) [.int n] [] none [] := by
  refine Ct.of (cc := cX4_needColours) (maxL := 1) (ret := none) (own := RX4) (L := [(0, .int n)]) (by decide) rfl rfl rfl (Nat.le_of_ble_eq_true rfl) rfl ?_
  intro X F hQ
  refine g_iload_n F dX4_needColours_0 rfl 0 rfl ?_
  refine g_iconst (v := 2) F dX4_needColours_1 (by decide) ?_
  refine g_bipush (v := 6) F dX4_needColours_2 (by decide) ?_
  refine g_callS (ws' := []) F dX4_needColours_4 (c_X4_needWithin E n 2 6 (by first | assumption | decide | omega) (by first | assumption | decide | omega)) rfl gX4_needColours_X4_needWithin kS_X4_needWithin ⟨by decide, by decide⟩ [] rfl (by decide +kernel) rfl rfl (Nat.le_of_ble_eq_true rfl) ⟨by decide, by decide⟩ ?_
  exact g_vret F hQ dX4_needColours_7 (rfl)

set_option maxHeartbeats 4000000 in
set_option maxRecDepth 100000 in
theorem c_X4_needWindable (E : gE) (n : Int32) (h0 : ¬ n < 1) (h1 : n ≤ 99) : Ct E yX4_needWindable wsX4_needWindable ({ frames := 7, cells := 0, slots := 0, locals := 112 }) [.int n] [] none [] := by
  refine Ct.of (cc := cX4_needWindable) (maxL := 1) (ret := none) (own := RX4) (L := [(0, .int n)]) (by decide) rfl rfl rfl (Nat.le_of_ble_eq_true rfl) rfl ?_
  intro X F hQ
  refine g_iload_n F dX4_needWindable_0 rfl 0 rfl ?_
  refine g_iconst (v := 1) F dX4_needWindable_1 (by decide) ?_
  refine g_bipush (v := 99) F dX4_needWindable_2 (by decide) ?_
  refine g_callS (ws' := []) F dX4_needWindable_4 (c_X4_needWithin E n 1 99 (by first | assumption | decide | omega) (by first | assumption | decide | omega)) rfl gX4_needWindable_X4_needWithin kS_X4_needWithin ⟨by decide, by decide⟩ [] rfl (by decide +kernel) rfl rfl (Nat.le_of_ble_eq_true rfl) ⟨by decide, by decide⟩ ?_
  exact g_vret F hQ dX4_needWindable_7 (rfl)

set_option maxHeartbeats 4000000 in
set_option maxRecDepth 100000 in
theorem c_X4_needKnots (E : gE) (n : Int32) (h0 : ¬ n < 0) (h1 : n ≤ 96) : Ct E yX4_needKnots wsX4_needKnots ({ frames := 7, cells := 0, slots := 0, locals := 112 }) [.int n] [] none [] := by
  refine Ct.of (cc := cX4_needKnots) (maxL := 1) (ret := none) (own := RX4) (L := [(0, .int n)]) (by decide) rfl rfl rfl (Nat.le_of_ble_eq_true rfl) rfl ?_
  intro X F hQ
  refine g_iload_n F dX4_needKnots_0 rfl 0 rfl ?_
  refine g_iconst (v := 0) F dX4_needKnots_1 (by decide) ?_
  refine g_bipush (v := 96) F dX4_needKnots_2 (by decide) ?_
  refine g_callS (ws' := []) F dX4_needKnots_4 (c_X4_needWithin E n 0 96 (by first | assumption | decide | omega) (by first | assumption | decide | omega)) rfl gX4_needKnots_X4_needWithin kS_X4_needWithin ⟨by decide, by decide⟩ [] rfl (by decide +kernel) rfl rfl (Nat.le_of_ble_eq_true rfl) ⟨by decide, by decide⟩ ?_
  exact g_vret F hQ dX4_needKnots_7 (rfl)
end PSPO
