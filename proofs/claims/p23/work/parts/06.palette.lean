/-! the class: Palette, all but fit -/
section PPAL
set_option maxHeartbeats 4000000 in
set_option maxRecDepth 100000 in
theorem c_X2_size (E : gE) (p : Nat) (p1 : Nat) (p2 : Nat) (p3 : Nat) (p4 : Nat) (t : AF) (so : AF) (st : AF) (sh : AF) (bx : Int32) : Ct E yX2_size wsX2_size ({ frames := 0, cells := 0, slots := 0, locals := 0 }) [.ref p] [(p, .inr (2, [.ref p1, .ref p2, .ref p3, .ref p4, .int bx])), (p1, .inl (E.2.2, 256, .inl t)), (p2, .inl (E.2.2, 96, .inl so)), (p3, .inl (E.2.2, 6, .inl st)), (p4, .inl (E.2.2, 6, .inl sh))] (some (.int bx)) [(p, .inr (2, [.ref p1, .ref p2, .ref p3, .ref p4, .int bx])), (p1, .inl (E.2.2, 256, .inl t)), (p2, .inl (E.2.2, 96, .inl so)), (p3, .inl (E.2.2, 6, .inl st)), (p4, .inl (E.2.2, 6, .inl sh))] := by
  refine Ct.of (cc := cX2_size) (maxL := 1) (ret := (some .int)) (own := RX2) (L := [(0, .ref p)]) (by decide) rfl rfl rfl (Nat.le_of_ble_eq_true rfl) rfl ?_
  intro X F hQ
  have i2 : ∀ w ∈ u_ws RX2 TX2 5, w ∈ wsX2_size := gsub [2, 3, 4, 5, 6] rfl
  refine g_aload_n F dX2_size_0 rfl 0 rfl ?_
  refine g_get F dX2_size_1 0 rfl rfl i2 4 (by decide) rfl (List.mem_of_getElem? (i := 1) rfl) ?_
  exact g_iret F hQ dX2_size_4 (rfl) (rfl)

set_option maxHeartbeats 4000000 in
set_option maxRecDepth 100000 in
theorem c_X2_startOf (E : gE) (p : Nat) (p1 : Nat) (p2 : Nat) (p3 : Nat) (p4 : Nat) (t : AF) (so : AF) (st : AF) (sh : AF) (bx : Int32) (c : Int32) : Ct E yX2_startOf wsX2_startOf ({ frames := 1, cells := 0, slots := 0, locals := 21 }) [.ref p, .int c] [(p, .inr (2, [.ref p1, .ref p2, .ref p3, .ref p4, .int bx])), (p1, .inl (E.2.2, 256, .inl t)), (p2, .inl (E.2.2, 96, .inl so)), (p3, .inl (E.2.2, 6, .inl st)), (p4, .inl (E.2.2, 6, .inl sh))] (some (.int (sSt st c))) [(p, .inr (2, [.ref p1, .ref p2, .ref p3, .ref p4, .int bx])), (p1, .inl (E.2.2, 256, .inl t)), (p2, .inl (E.2.2, 96, .inl so)), (p3, .inl (E.2.2, 6, .inl st)), (p4, .inl (E.2.2, 6, .inl sh))] := by
  refine Ct.of (cc := cX2_startOf) (maxL := 2) (ret := (some .int)) (own := RX2) (L := [(0, .ref p), (1, .int c)]) (by decide) rfl rfl rfl (Nat.le_of_ble_eq_true rfl) rfl ?_
  intro X F hQ
  have i2 : ∀ w ∈ u_ws RX2 TX2 5, w ∈ wsX2_startOf := gsub [5, 6, 7, 8, 9] rfl
  refine g_aload_n F dX2_startOf_0 rfl 0 rfl ?_
  refine g_get F dX2_startOf_1 0 rfl rfl i2 2 (by decide) rfl (List.mem_of_getElem? (i := 1) rfl) ?_
  refine g_iload_n F dX2_startOf_4 rfl 1 rfl ?_
  refine g_callSN (ws' := [(p, .inr (2, [.ref p1, .ref p2, .ref p3, .ref p4, .int bx])), (p1, .inl (E.2.2, 256, .inl t)), (p2, .inl (E.2.2, 96, .inl so)), (p3, .inl (E.2.2, 6, .inl st)), (p4, .inl (E.2.2, 6, .inl sh))]) F dX2_startOf_5 (c_X4_numberAt E p3 6 st c (by first | assumption | decide | omega)) rfl gX2_startOf_X4_numberAt_n54 (List.mem_of_getElem? (i := 2) rfl) (List.mem_of_getElem? (i := 3) rfl) (List.mem_of_getElem? (i := 10) rfl) kS_X4_numberAt ⟨by decide, by decide⟩ [3] rfl (by decide +kernel) rfl rfl (Nat.le_of_ble_eq_true rfl) ⟨by decide, by decide⟩ ?_
  exact g_iret F hQ dX2_startOf_8 (rfl) (rfl)

set_option maxHeartbeats 4000000 in
set_option maxRecDepth 100000 in
theorem c_X2_endOf (E : gE) (p : Nat) (p1 : Nat) (p2 : Nat) (p3 : Nat) (p4 : Nat) (t : AF) (so : AF) (st : AF) (sh : AF) (bx : Int32) (c : Int32) : Ct E yX2_endOf wsX2_endOf ({ frames := 1, cells := 0, slots := 0, locals := 21 }) [.ref p, .int c] [(p, .inr (2, [.ref p1, .ref p2, .ref p3, .ref p4, .int bx])), (p1, .inl (E.2.2, 256, .inl t)), (p2, .inl (E.2.2, 96, .inl so)), (p3, .inl (E.2.2, 6, .inl st)), (p4, .inl (E.2.2, 6, .inl sh))] (some (.int (sEn st bx c))) [(p, .inr (2, [.ref p1, .ref p2, .ref p3, .ref p4, .int bx])), (p1, .inl (E.2.2, 256, .inl t)), (p2, .inl (E.2.2, 96, .inl so)), (p3, .inl (E.2.2, 6, .inl st)), (p4, .inl (E.2.2, 6, .inl sh))] := by
  refine Ct.of (cc := cX2_endOf) (maxL := 2) (ret := (some .int)) (own := RX2) (L := [(0, .ref p), (1, .int c)]) (by decide) rfl rfl rfl (Nat.le_of_ble_eq_true rfl) rfl ?_
  intro X F hQ
  have i2 : ∀ w ∈ u_ws RX2 TX2 5, w ∈ wsX2_endOf := gsub [6, 7, 8, 9, 10] rfl
  refine g_iload_n F dX2_endOf_0 rfl 1 rfl ?_
  refine g_iconst (v := 1) F dX2_endOf_1 (by decide) ?_
  refine g_iadd F dX2_endOf_2 ?_
  refine g_aload_n F dX2_endOf_3 rfl 0 rfl ?_
  refine g_get F dX2_endOf_4 0 rfl rfl i2 4 (by decide) rfl (List.mem_of_getElem? (i := 1) rfl) ?_
  refine g_icmp_ge (tgt := 23) F dX2_endOf_7 (by decide) (fun k7 => ?_) (fun k7 => ?_)
  · skip
    refine g_bipush (v := 96) F dX2_endOf_23 (by decide) ?_
    exact g_iret F hQ dX2_endOf_25 (by simp [sEn, k7]) (rfl)
  · skip
    refine g_aload_n F dX2_endOf_10 rfl 0 rfl ?_
    refine g_get F dX2_endOf_11 0 rfl rfl i2 2 (by decide) rfl (List.mem_of_getElem? (i := 2) rfl) ?_
    refine g_iload_n F dX2_endOf_14 rfl 1 rfl ?_
    refine g_iconst (v := 1) F dX2_endOf_15 (by decide) ?_
    refine g_iadd F dX2_endOf_16 ?_
    refine g_callSN (ws' := [(p, .inr (2, [.ref p1, .ref p2, .ref p3, .ref p4, .int bx])), (p1, .inl (E.2.2, 256, .inl t)), (p2, .inl (E.2.2, 96, .inl so)), (p3, .inl (E.2.2, 6, .inl st)), (p4, .inl (E.2.2, 6, .inl sh))]) F dX2_endOf_17 (c_X4_numberAt E p3 6 st (c + 1) (by first | assumption | decide | omega)) rfl gX2_endOf_X4_numberAt_n54 (List.mem_of_getElem? (i := 3) rfl) (List.mem_of_getElem? (i := 4) rfl) (List.mem_of_getElem? (i := 10) rfl) kS_X4_numberAt ⟨by decide, by decide⟩ [3] rfl (by decide +kernel) rfl rfl (Nat.le_of_ble_eq_true rfl) ⟨by decide, by decide⟩ ?_
    refine g_goto (tgt := 25) F dX2_endOf_20 (by decide) ?_
    exact g_iret F hQ dX2_endOf_25 (by simp [sEn, k7]) (rfl)

set_option maxHeartbeats 4000000 in
set_option maxRecDepth 100000 in
theorem c_X2_spreadOf (E : gE) (p : Nat) (p1 : Nat) (p2 : Nat) (p3 : Nat) (p4 : Nat) (t : AF) (so : AF) (st : AF) (sh : AF) (bx : Int32) (c : Int32) : Ct E yX2_spreadOf wsX2_spreadOf ({ frames := 2, cells := 0, slots := 0, locals := 42 }) [.ref p, .int c] [(p, .inr (2, [.ref p1, .ref p2, .ref p3, .ref p4, .int bx])), (p1, .inl (E.2.2, 256, .inl t)), (p2, .inl (E.2.2, 96, .inl so)), (p3, .inl (E.2.2, 6, .inl st)), (p4, .inl (E.2.2, 6, .inl sh))] (some (.int (sSpr so st bx c))) [(p, .inr (2, [.ref p1, .ref p2, .ref p3, .ref p4, .int bx])), (p1, .inl (E.2.2, 256, .inl t)), (p2, .inl (E.2.2, 96, .inl so)), (p3, .inl (E.2.2, 6, .inl st)), (p4, .inl (E.2.2, 6, .inl sh))] := by
  refine Ct.of (cc := cX2_spreadOf) (maxL := 2) (ret := (some .int)) (own := RX2) (L := [(0, .ref p), (1, .int c)]) (by decide) rfl rfl rfl (Nat.le_of_ble_eq_true rfl) rfl ?_
  intro X F hQ
  have i2 : ∀ w ∈ u_ws RX2 TX2 5, w ∈ wsX2_spreadOf := gsub [16, 17, 18, 19, 20] rfl
  refine g_aload_n F dX2_spreadOf_0 rfl 0 rfl ?_
  refine g_get F dX2_spreadOf_1 0 rfl rfl i2 1 (by decide) rfl (List.mem_of_getElem? (i := 1) rfl) ?_
  refine g_aload_n F dX2_spreadOf_4 rfl 0 rfl ?_
  refine g_iload_n F dX2_spreadOf_5 rfl 1 rfl ?_
  refine g_callV (ws' := [(p, .inr (2, [.ref p1, .ref p2, .ref p3, .ref p4, .int bx])), (p1, .inl (E.2.2, 256, .inl t)), (p2, .inl (E.2.2, 96, .inl so)), (p3, .inl (E.2.2, 6, .inl st)), (p4, .inl (E.2.2, 6, .inl sh))]) F dX2_spreadOf_6 (c_X2_endOf E p p1 p2 p3 p4 t so st sh bx c ) rfl gX2_spreadOf_X2_endOf 0 rfl rfl kV_X2_endOf ⟨by decide, by decide⟩ [0, 1, 2, 3, 4] rfl (by decide +kernel) rfl rfl (Nat.le_of_ble_eq_true rfl) ⟨by decide, by decide⟩ ?_
  refine g_iconst (v := 1) F dX2_spreadOf_9 (by decide) ?_
  refine g_isub F dX2_spreadOf_10 ?_
  refine g_callSN (ws' := [(p, .inr (2, [.ref p1, .ref p2, .ref p3, .ref p4, .int bx])), (p1, .inl (E.2.2, 256, .inl t)), (p2, .inl (E.2.2, 96, .inl so)), (p3, .inl (E.2.2, 6, .inl st)), (p4, .inl (E.2.2, 6, .inl sh))]) F dX2_spreadOf_11 (c_X4_numberAt E p2 96 so ((sEn st bx c) - 1) (by first | assumption | decide | omega)) rfl gX2_spreadOf_X4_numberAt_n54 (List.mem_of_getElem? (i := 9) rfl) (List.mem_of_getElem? (i := 10) rfl) (List.mem_of_getElem? (i := 10) rfl) kS_X4_numberAt ⟨by decide, by decide⟩ [2] rfl (by decide +kernel) rfl rfl (Nat.le_of_ble_eq_true rfl) ⟨by decide, by decide⟩ ?_
  refine g_aload_n F dX2_spreadOf_14 rfl 0 rfl ?_
  refine g_get F dX2_spreadOf_15 0 rfl rfl i2 1 (by decide) rfl (List.mem_of_getElem? (i := 1) rfl) ?_
  refine g_aload_n F dX2_spreadOf_18 rfl 0 rfl ?_
  refine g_iload_n F dX2_spreadOf_19 rfl 1 rfl ?_
  refine g_callV (ws' := [(p, .inr (2, [.ref p1, .ref p2, .ref p3, .ref p4, .int bx])), (p1, .inl (E.2.2, 256, .inl t)), (p2, .inl (E.2.2, 96, .inl so)), (p3, .inl (E.2.2, 6, .inl st)), (p4, .inl (E.2.2, 6, .inl sh))]) F dX2_spreadOf_20 (c_X2_startOf E p p1 p2 p3 p4 t so st sh bx c ) rfl gX2_spreadOf_X2_startOf 0 rfl rfl kV_X2_startOf ⟨by decide, by decide⟩ [0, 1, 2, 3, 4] rfl (by decide +kernel) rfl rfl (Nat.le_of_ble_eq_true rfl) ⟨by decide, by decide⟩ ?_
  refine g_callSN (ws' := [(p, .inr (2, [.ref p1, .ref p2, .ref p3, .ref p4, .int bx])), (p1, .inl (E.2.2, 256, .inl t)), (p2, .inl (E.2.2, 96, .inl so)), (p3, .inl (E.2.2, 6, .inl st)), (p4, .inl (E.2.2, 6, .inl sh))]) F dX2_spreadOf_23 (c_X4_numberAt E p2 96 so (sSt st c) (by first | assumption | decide | omega)) rfl gX2_spreadOf_X4_numberAt_n54 (List.mem_of_getElem? (i := 9) rfl) (List.mem_of_getElem? (i := 10) rfl) (List.mem_of_getElem? (i := 10) rfl) kS_X4_numberAt ⟨by decide, by decide⟩ [2] rfl (by decide +kernel) rfl rfl (Nat.le_of_ble_eq_true rfl) ⟨by decide, by decide⟩ ?_
  refine g_isub F dX2_spreadOf_26 ?_
  exact g_iret F hQ dX2_spreadOf_27 (rfl) (rfl)

set_option maxHeartbeats 4000000 in
set_option maxRecDepth 100000 in
theorem c_X2_shadeOf (E : gE) (p : Nat) (p1 : Nat) (p2 : Nat) (p3 : Nat) (p4 : Nat) (t : AF) (so : AF) (st : AF) (sh : AF) (bx : Int32) (c : Int32) : Ct E yX2_shadeOf wsX2_shadeOf ({ frames := 1, cells := 0, slots := 0, locals := 21 }) [.ref p, .int c] [(p, .inr (2, [.ref p1, .ref p2, .ref p3, .ref p4, .int bx])), (p1, .inl (E.2.2, 256, .inl t)), (p2, .inl (E.2.2, 96, .inl so)), (p3, .inl (E.2.2, 6, .inl st)), (p4, .inl (E.2.2, 6, .inl sh))] (some (.int (sShade sh bx c))) [(p, .inr (2, [.ref p1, .ref p2, .ref p3, .ref p4, .int bx])), (p1, .inl (E.2.2, 256, .inl t)), (p2, .inl (E.2.2, 96, .inl so)), (p3, .inl (E.2.2, 6, .inl st)), (p4, .inl (E.2.2, 6, .inl sh))] := by
  refine Ct.of (cc := cX2_shadeOf) (maxL := 2) (ret := (some .int)) (own := RX2) (L := [(0, .ref p), (1, .int c)]) (by decide) rfl rfl rfl (Nat.le_of_ble_eq_true rfl) rfl ?_
  intro X F hQ
  have i2 : ∀ w ∈ u_ws RX2 TX2 5, w ∈ wsX2_shadeOf := gsub [6, 7, 8, 9, 10] rfl
  refine g_iload_n F dX2_shadeOf_0 rfl 1 rfl ?_
  refine g_if_lt (tgt := 23) F dX2_shadeOf_1 (by decide) (fun k1 => ?_) (fun k1 => ?_)
  · skip
    refine g_iconst (v := (-1)) F dX2_shadeOf_23 (by decide) ?_
    exact g_iret F hQ dX2_shadeOf_24 (by simp [sShade, k1]) (rfl)
  · skip
    refine g_iload_n F dX2_shadeOf_4 rfl 1 rfl ?_
    refine g_aload_n F dX2_shadeOf_5 rfl 0 rfl ?_
    refine g_get F dX2_shadeOf_6 0 rfl rfl i2 4 (by decide) rfl (List.mem_of_getElem? (i := 1) rfl) ?_
    refine g_icmp_ge (tgt := 23) F dX2_shadeOf_9 (by decide) (fun k9 => ?_) (fun k9 => ?_)
    · skip
      refine g_iconst (v := (-1)) F dX2_shadeOf_23 (by decide) ?_
      exact g_iret F hQ dX2_shadeOf_24 (by simp [sShade, k1, k9]) (rfl)
    · skip
      refine g_aload_n F dX2_shadeOf_12 rfl 0 rfl ?_
      refine g_get F dX2_shadeOf_13 0 rfl rfl i2 3 (by decide) rfl (List.mem_of_getElem? (i := 2) rfl) ?_
      refine g_iload_n F dX2_shadeOf_16 rfl 1 rfl ?_
      refine g_callSN (ws' := [(p, .inr (2, [.ref p1, .ref p2, .ref p3, .ref p4, .int bx])), (p1, .inl (E.2.2, 256, .inl t)), (p2, .inl (E.2.2, 96, .inl so)), (p3, .inl (E.2.2, 6, .inl st)), (p4, .inl (E.2.2, 6, .inl sh))]) F dX2_shadeOf_17 (c_X4_numberAt E p4 6 sh c (by first | assumption | decide | omega)) rfl gX2_shadeOf_X4_numberAt_n54 (List.mem_of_getElem? (i := 3) rfl) (List.mem_of_getElem? (i := 4) rfl) (List.mem_of_getElem? (i := 10) rfl) kS_X4_numberAt ⟨by decide, by decide⟩ [4] rfl (by decide +kernel) rfl rfl (Nat.le_of_ble_eq_true rfl) ⟨by decide, by decide⟩ ?_
      refine g_goto (tgt := 24) F dX2_shadeOf_20 (by decide) ?_
      exact g_iret F hQ dX2_shadeOf_24 (by simp [sShade, k1, k9]) (rfl)

set_option maxHeartbeats 4000000 in
set_option maxRecDepth 100000 in
theorem c_X2_distance (E : gE) (p : Nat) (p1 : Nat) (p2 : Nat) (p3 : Nat) (p4 : Nat) (t : AF) (so : AF) (st : AF) (sh : AF) (bx : Int32) (c : Int32) (w : Int32) : Ct E yX2_distance wsX2_distance ({ frames := 2, cells := 0, slots := 0, locals := 42 }) [.ref p, .int c, .int w] [(p, .inr (2, [.ref p1, .ref p2, .ref p3, .ref p4, .int bx])), (p1, .inl (E.2.2, 256, .inl t)), (p2, .inl (E.2.2, 96, .inl so)), (p3, .inl (E.2.2, 6, .inl st)), (p4, .inl (E.2.2, 6, .inl sh))] (some (.int (sDist sh bx c w))) [(p, .inr (2, [.ref p1, .ref p2, .ref p3, .ref p4, .int bx])), (p1, .inl (E.2.2, 256, .inl t)), (p2, .inl (E.2.2, 96, .inl so)), (p3, .inl (E.2.2, 6, .inl st)), (p4, .inl (E.2.2, 6, .inl sh))] := by
  refine Ct.of (cc := cX2_distance) (maxL := 3) (ret := (some .int)) (own := RX2) (L := [(0, .ref p), (1, .int c), (2, .int w)]) (by decide) rfl rfl rfl (Nat.le_of_ble_eq_true rfl) rfl ?_
  intro X F hQ
  have i2 : ∀ w ∈ u_ws RX2 TX2 5, w ∈ wsX2_distance := gsub [15, 16, 17, 18, 19] rfl
  refine g_iload_n F dX2_distance_0 rfl 2 rfl ?_
  refine g_aload_n F dX2_distance_1 rfl 0 rfl ?_
  refine g_iload_n F dX2_distance_2 rfl 1 rfl ?_
  refine g_callV (ws' := [(p, .inr (2, [.ref p1, .ref p2, .ref p3, .ref p4, .int bx])), (p1, .inl (E.2.2, 256, .inl t)), (p2, .inl (E.2.2, 96, .inl so)), (p3, .inl (E.2.2, 6, .inl st)), (p4, .inl (E.2.2, 6, .inl sh))]) F dX2_distance_3 (c_X2_shadeOf E p p1 p2 p3 p4 t so st sh bx c ) rfl gX2_distance_X2_shadeOf 0 rfl rfl kV_X2_shadeOf ⟨by decide, by decide⟩ [0, 1, 2, 3, 4] rfl (by decide +kernel) rfl rfl (Nat.le_of_ble_eq_true rfl) ⟨by decide, by decide⟩ ?_
  refine g_isub F dX2_distance_6 ?_
  refine g_abs F dX2_distance_7 (List.mem_of_getElem? (i := 1) rfl) (List.mem_of_getElem? (i := 2) rfl) (List.mem_of_getElem? (i := 3) rfl) (List.mem_of_getElem? (i := 4) rfl) (by decide) (Nat.le_of_ble_eq_true rfl) (by decide) (by decide) ?_
  exact g_iret F hQ dX2_distance_10 (rfl) (rfl)

set_option maxHeartbeats 4000000 in
set_option maxRecDepth 100000 in
theorem c_X2_nearestTo (E : gE) (p : Nat) (p1 : Nat) (p2 : Nat) (p3 : Nat) (p4 : Nat) (t : AF) (so : AF) (st : AF) (sh : AF) (b : Nat) (w : Int32) (h1 : 1 ≤ b) (h6 : b ≤ 6) : Ct E yX2_nearestTo wsX2_nearestTo ({ frames := 3, cells := 0, slots := 0, locals := 64 }) [.ref p, .int w] [(p, .inr (2, [.ref p1, .ref p2, .ref p3, .ref p4, .int (nI b)])), (p1, .inl (E.2.2, 256, .inl t)), (p2, .inl (E.2.2, 96, .inl so)), (p3, .inl (E.2.2, 6, .inl st)), (p4, .inl (E.2.2, 6, .inl sh))] (some (.int ((sNear sh (nI b) w (b - 1)).1))) [(p, .inr (2, [.ref p1, .ref p2, .ref p3, .ref p4, .int (nI b)])), (p1, .inl (E.2.2, 256, .inl t)), (p2, .inl (E.2.2, 96, .inl so)), (p3, .inl (E.2.2, 6, .inl st)), (p4, .inl (E.2.2, 6, .inl sh))] := by
  refine Ct.of (cc := cX2_nearestTo) (maxL := 6) (ret := (some .int)) (own := RX2) (L := [(0, .ref p), (1, .int w)]) (by decide) rfl rfl rfl (Nat.le_of_ble_eq_true rfl) rfl ?_
  intro X F hQ
  have i2 : ∀ w ∈ u_ws RX2 TX2 5, w ∈ wsX2_nearestTo := gsub [19, 20, 21, 22, 23] rfl
  refine g_iconst (v := 0) F dX2_nearestTo_0 (by decide) ?_
  refine g_istore_n (L' := [(0, .ref p), (1, .int w), (2, .int 0)]) F dX2_nearestTo_1 rfl (by decide) [1, 2, 0] rfl ?_
  refine g_aload_n F dX2_nearestTo_2 rfl 0 rfl ?_
  refine g_iconst (v := 0) F dX2_nearestTo_3 (by decide) ?_
  refine g_iload_n F dX2_nearestTo_4 rfl 1 rfl ?_
  refine g_callV (ws' := [(p, .inr (2, [.ref p1, .ref p2, .ref p3, .ref p4, .int (nI b)])), (p1, .inl (E.2.2, 256, .inl t)), (p2, .inl (E.2.2, 96, .inl so)), (p3, .inl (E.2.2, 6, .inl st)), (p4, .inl (E.2.2, 6, .inl sh))]) F dX2_nearestTo_5 (c_X2_distance E p p1 p2 p3 p4 t so st sh (nI b) 0 w ) rfl gX2_nearestTo_X2_distance 0 rfl rfl kV_X2_distance ⟨by decide, by decide⟩ [0, 1, 2, 3, 4] rfl (by decide +kernel) rfl rfl (Nat.le_of_ble_eq_true rfl) ⟨by decide, by decide⟩ ?_
  refine g_istore_n (L' := [(0, .ref p), (1, .int w), (2, .int 0), (3, .int (sDist sh (nI b) 0 w))]) F dX2_nearestTo_8 rfl (by decide) [1, 2, 3, 0] rfl ?_
  refine g_iconst (v := 1) F dX2_nearestTo_9 (by decide) ?_
  refine g_istore (L' := [(0, .ref p), (1, .int w), (2, .int 0), (3, .int (sDist sh (nI b) 0 w)), (4, .int 1)]) F dX2_nearestTo_10 (by decide) [1, 2, 3, 4, 0] rfl ?_
  have lp12 : ∀ (n12 i12 : Nat), i12 + n12 = (b - 1) → G E X 0 0 12 [(0, .ref p), (1, .int w), (2, .int ((sNear sh (nI b) w i12).1)), (3, .int ((sNear sh (nI b) w i12).2)), (4, .int (nI (i12 + 1)))] [] [(p, .inr (2, [.ref p1, .ref p2, .ref p3, .ref p4, .int (nI b)])), (p1, .inl (E.2.2, 256, .inl t)), (p2, .inl (E.2.2, 96, .inl so)), (p3, .inl (E.2.2, 6, .inl st)), (p4, .inl (E.2.2, 6, .inl sh))] := by
    intro n12
    induction n12 with
    | zero =>
      intro i12 hi12
      have he12 : i12 = (b - 1) := by omega
      rw [he12]
      refine g_iload F dX2_nearestTo_12 4 rfl ?_
      refine g_aload_n F dX2_nearestTo_14 rfl 0 rfl ?_
      refine g_get F dX2_nearestTo_15 0 rfl rfl i2 4 (by decide) rfl (List.mem_of_getElem? (i := 1) rfl) ?_
      refine g_icmp_ge_t (tgt := 48) F dX2_nearestTo_18 (by decide) (le_nI (by omega) (by omega)) ?_
      refine g_iload_n F dX2_nearestTo_48 rfl 2 rfl ?_
      exact g_iret F hQ dX2_nearestTo_49 (rfl) (rfl)
    | succ n12 ih12 =>
      intro i12 hi12
      have hl12 : i12 < (b - 1) := by omega
      refine g_iload F dX2_nearestTo_12 4 rfl ?_
      refine g_aload_n F dX2_nearestTo_14 rfl 0 rfl ?_
      refine g_get F dX2_nearestTo_15 0 rfl rfl i2 4 (by decide) rfl (List.mem_of_getElem? (i := 1) rfl) ?_
      refine g_icmp_ge_f (tgt := 48) F dX2_nearestTo_18 (by decide) (nle_nI (by omega) (by omega)) ?_
      refine g_aload_n F dX2_nearestTo_21 rfl 0 rfl ?_
      refine g_iload F dX2_nearestTo_22 4 rfl ?_
      refine g_iload_n F dX2_nearestTo_24 rfl 1 rfl ?_
      refine g_callV (ws' := [(p, .inr (2, [.ref p1, .ref p2, .ref p3, .ref p4, .int (nI b)])), (p1, .inl (E.2.2, 256, .inl t)), (p2, .inl (E.2.2, 96, .inl so)), (p3, .inl (E.2.2, 6, .inl st)), (p4, .inl (E.2.2, 6, .inl sh))]) F dX2_nearestTo_25 (c_X2_distance E p p1 p2 p3 p4 t so st sh (nI b) (nI (i12 + 1)) w ) rfl gX2_nearestTo_X2_distance 0 rfl rfl kV_X2_distance ⟨by decide, by decide⟩ [0, 1, 2, 3, 4] rfl (by decide +kernel) rfl rfl (Nat.le_of_ble_eq_true rfl) ⟨by decide, by decide⟩ ?_
      refine g_istore (L' := [(0, .ref p), (1, .int w), (2, .int ((sNear sh (nI b) w i12).1)), (3, .int ((sNear sh (nI b) w i12).2)), (4, .int (nI (i12 + 1))), (5, .int (sDist sh (nI b) (nI (i12 + 1)) w))]) F dX2_nearestTo_28 (by decide) [1, 2, 3, 4, 5, 0] rfl ?_
      refine g_iload F dX2_nearestTo_30 5 rfl ?_
      refine g_iload_n F dX2_nearestTo_32 rfl 3 rfl ?_
      refine g_icmp_ge (tgt := 42) F dX2_nearestTo_33 (by decide) (fun k33 => ?_) (fun k33 => ?_)
      · skip
        refine g_iinc (L' := [(0, .ref p), (1, .int w), (2, .int ((sNear sh (nI b) w i12).1)), (3, .int ((sNear sh (nI b) w i12).2)), (4, .int (nI (i12 + 1 + 1))), (5, .int (sDist sh (nI b) (nI (i12 + 1)) w))]) (v := nI (i12 + 1 + 1)) F dX2_nearestTo_42 4 rfl (nI_1 _) (by decide) [1, 2, 3, 4, 0, 5] rfl ?_
        refine g_goto (tgt := 12) F dX2_nearestTo_45 (by decide) ?_
        refine g_lv (L' := [(0, .ref p), (1, .int w), (2, .int ((sNear sh (nI b) w i12).1)), (3, .int ((sNear sh (nI b) w i12).2)), (4, .int (nI (i12 + 1 + 1)))]) [0, 1, 2, 3, 4] rfl ?_
        have q := ih12 (i12 + 1) (by omega)
        simp only [sNear, k33, if_true, if_false, not_true_eq_false, not_false_eq_true] at q
        exact q
      · skip
        refine g_iload F dX2_nearestTo_36 4 rfl ?_
        refine g_istore_n (L' := [(0, .ref p), (1, .int w), (2, .int (nI (i12 + 1))), (3, .int ((sNear sh (nI b) w i12).2)), (4, .int (nI (i12 + 1))), (5, .int (sDist sh (nI b) (nI (i12 + 1)) w))]) F dX2_nearestTo_38 rfl (by decide) [1, 2, 0, 3, 4, 5] rfl ?_
        refine g_iload F dX2_nearestTo_39 5 rfl ?_
        refine g_istore_n (L' := [(0, .ref p), (1, .int w), (2, .int (nI (i12 + 1))), (3, .int (sDist sh (nI b) (nI (i12 + 1)) w)), (4, .int (nI (i12 + 1))), (5, .int (sDist sh (nI b) (nI (i12 + 1)) w))]) F dX2_nearestTo_41 rfl (by decide) [1, 2, 3, 0, 4, 5] rfl ?_
        refine g_iinc (L' := [(0, .ref p), (1, .int w), (2, .int (nI (i12 + 1))), (3, .int (sDist sh (nI b) (nI (i12 + 1)) w)), (4, .int (nI (i12 + 1 + 1))), (5, .int (sDist sh (nI b) (nI (i12 + 1)) w))]) (v := nI (i12 + 1 + 1)) F dX2_nearestTo_42 4 rfl (nI_1 _) (by decide) [1, 2, 3, 4, 0, 5] rfl ?_
        refine g_goto (tgt := 12) F dX2_nearestTo_45 (by decide) ?_
        refine g_lv (L' := [(0, .ref p), (1, .int w), (2, .int (nI (i12 + 1))), (3, .int (sDist sh (nI b) (nI (i12 + 1)) w)), (4, .int (nI (i12 + 1 + 1)))]) [0, 1, 2, 3, 4] rfl ?_
        have q := ih12 (i12 + 1) (by omega)
        simp only [sNear, k33, if_true, if_false, not_true_eq_false, not_false_eq_true] at q
        exact q
  exact lp12 (b - 1) 0 (by omega)

set_option maxHeartbeats 4000000 in
set_option maxRecDepth 100000 in
theorem c_X2_widestBox (E : gE) (p : Nat) (p1 : Nat) (p2 : Nat) (p3 : Nat) (p4 : Nat) (t : AF) (so : AF) (st : AF) (sh : AF) (b : Nat) (h1 : 1 ≤ b) (h6 : b ≤ 6) : Ct E yX2_widestBox wsX2_widestBox ({ frames := 3, cells := 0, slots := 0, locals := 63 }) [.ref p] [(p, .inr (2, [.ref p1, .ref p2, .ref p3, .ref p4, .int (nI b)])), (p1, .inl (E.2.2, 256, .inl t)), (p2, .inl (E.2.2, 96, .inl so)), (p3, .inl (E.2.2, 6, .inl st)), (p4, .inl (E.2.2, 6, .inl sh))] (some (.int (nI (sWid so st (nI b) (b - 1))))) [(p, .inr (2, [.ref p1, .ref p2, .ref p3, .ref p4, .int (nI b)])), (p1, .inl (E.2.2, 256, .inl t)), (p2, .inl (E.2.2, 96, .inl so)), (p3, .inl (E.2.2, 6, .inl st)), (p4, .inl (E.2.2, 6, .inl sh))] := by
  refine Ct.of (cc := cX2_widestBox) (maxL := 3) (ret := (some .int)) (own := RX2) (L := [(0, .ref p)]) (by decide) rfl rfl rfl (Nat.le_of_ble_eq_true rfl) rfl ?_
  intro X F hQ
  have i2 : ∀ w ∈ u_ws RX2 TX2 5, w ∈ wsX2_widestBox := gsub [20, 21, 22, 23, 24] rfl
  refine g_iconst (v := 0) F dX2_widestBox_0 (by decide) ?_
  refine g_istore_n (L' := [(0, .ref p), (1, .int 0)]) F dX2_widestBox_1 rfl (by decide) [1, 0] rfl ?_
  refine g_iconst (v := 1) F dX2_widestBox_2 (by decide) ?_
  refine g_istore_n (L' := [(0, .ref p), (1, .int 0), (2, .int 1)]) F dX2_widestBox_3 rfl (by decide) [1, 2, 0] rfl ?_
  have lp4 : ∀ (n4 i4 : Nat), i4 + n4 = (b - 1) → G E X 0 0 4 [(0, .ref p), (1, .int (nI (sWid so st (nI b) i4))), (2, .int (nI (i4 + 1)))] [] [(p, .inr (2, [.ref p1, .ref p2, .ref p3, .ref p4, .int (nI b)])), (p1, .inl (E.2.2, 256, .inl t)), (p2, .inl (E.2.2, 96, .inl so)), (p3, .inl (E.2.2, 6, .inl st)), (p4, .inl (E.2.2, 6, .inl sh))] := by
    intro n4
    induction n4 with
    | zero =>
      intro i4 hi4
      have he4 : i4 = (b - 1) := by omega
      rw [he4]
      refine g_iload_n F dX2_widestBox_4 rfl 2 rfl ?_
      refine g_aload_n F dX2_widestBox_5 rfl 0 rfl ?_
      refine g_get F dX2_widestBox_6 0 rfl rfl i2 4 (by decide) rfl (List.mem_of_getElem? (i := 1) rfl) ?_
      refine g_icmp_ge_t (tgt := 33) F dX2_widestBox_9 (by decide) (le_nI (by omega) (by omega)) ?_
      refine g_iload_n F dX2_widestBox_33 rfl 1 rfl ?_
      exact g_iret F hQ dX2_widestBox_34 (rfl) (rfl)
    | succ n4 ih4 =>
      intro i4 hi4
      have hl4 : i4 < (b - 1) := by omega
      refine g_iload_n F dX2_widestBox_4 rfl 2 rfl ?_
      refine g_aload_n F dX2_widestBox_5 rfl 0 rfl ?_
      refine g_get F dX2_widestBox_6 0 rfl rfl i2 4 (by decide) rfl (List.mem_of_getElem? (i := 1) rfl) ?_
      refine g_icmp_ge_f (tgt := 33) F dX2_widestBox_9 (by decide) (nle_nI (by omega) (by omega)) ?_
      refine g_aload_n F dX2_widestBox_12 rfl 0 rfl ?_
      refine g_iload_n F dX2_widestBox_13 rfl 2 rfl ?_
      refine g_callV (ws' := [(p, .inr (2, [.ref p1, .ref p2, .ref p3, .ref p4, .int (nI b)])), (p1, .inl (E.2.2, 256, .inl t)), (p2, .inl (E.2.2, 96, .inl so)), (p3, .inl (E.2.2, 6, .inl st)), (p4, .inl (E.2.2, 6, .inl sh))]) F dX2_widestBox_14 (c_X2_spreadOf E p p1 p2 p3 p4 t so st sh (nI b) (nI (i4 + 1)) ) rfl gX2_widestBox_X2_spreadOf 0 rfl rfl kV_X2_spreadOf ⟨by decide, by decide⟩ [0, 1, 2, 3, 4] rfl (by decide +kernel) rfl rfl (Nat.le_of_ble_eq_true rfl) ⟨by decide, by decide⟩ ?_
      refine g_aload_n F dX2_widestBox_17 rfl 0 rfl ?_
      refine g_iload_n F dX2_widestBox_18 rfl 1 rfl ?_
      refine g_callV (ws' := [(p, .inr (2, [.ref p1, .ref p2, .ref p3, .ref p4, .int (nI b)])), (p1, .inl (E.2.2, 256, .inl t)), (p2, .inl (E.2.2, 96, .inl so)), (p3, .inl (E.2.2, 6, .inl st)), (p4, .inl (E.2.2, 6, .inl sh))]) F dX2_widestBox_19 (c_X2_spreadOf E p p1 p2 p3 p4 t so st sh (nI b) (nI (sWid so st (nI b) i4)) ) rfl gX2_widestBox_X2_spreadOf 0 rfl rfl kV_X2_spreadOf ⟨by decide, by decide⟩ [0, 1, 2, 3, 4] rfl (by decide +kernel) rfl rfl (Nat.le_of_ble_eq_true rfl) ⟨by decide, by decide⟩ ?_
      refine g_icmp_le (tgt := 27) F dX2_widestBox_22 (by decide) (fun k22 => ?_) (fun k22 => ?_)
      · skip
        refine g_iinc (L' := [(0, .ref p), (1, .int (nI (sWid so st (nI b) i4))), (2, .int (nI (i4 + 1 + 1)))]) (v := nI (i4 + 1 + 1)) F dX2_widestBox_27 2 rfl (nI_1 _) (by decide) [1, 2, 0] rfl ?_
        refine g_goto (tgt := 4) F dX2_widestBox_30 (by decide) ?_
        have q := ih4 (i4 + 1) (by omega)
        simp only [sWid, k22, if_true, if_false, not_true_eq_false, not_false_eq_true] at q
        exact q
      · skip
        refine g_iload_n F dX2_widestBox_25 rfl 2 rfl ?_
        refine g_istore_n (L' := [(0, .ref p), (1, .int (nI (i4 + 1))), (2, .int (nI (i4 + 1)))]) F dX2_widestBox_26 rfl (by decide) [1, 0, 2] rfl ?_
        refine g_iinc (L' := [(0, .ref p), (1, .int (nI (i4 + 1))), (2, .int (nI (i4 + 1 + 1)))]) (v := nI (i4 + 1 + 1)) F dX2_widestBox_27 2 rfl (nI_1 _) (by decide) [1, 2, 0] rfl ?_
        refine g_goto (tgt := 4) F dX2_widestBox_30 (by decide) ?_
        have q := ih4 (i4 + 1) (by omega)
        simp only [sWid, k22, if_true, if_false, not_true_eq_false, not_false_eq_true] at q
        exact q
  exact lp4 (b - 1) 0 (by omega)

set_option maxHeartbeats 4000000 in
set_option maxRecDepth 100000 in
theorem c_X2_split (E : gE) (p : Nat) (p1 : Nat) (p2 : Nat) (p3 : Nat) (p4 : Nat) (t : AF) (so : AF) (st : AF) (sh : AF) (b : Nat) (k : Nat) (hk : k < b) (h6 : b ≤ 6) : Ct E yX2_split wsX2_split ({ frames := 2, cells := 0, slots := 0, locals := 42 }) [.ref p, .int (nI k)] [(p, .inr (2, [.ref p1, .ref p2, .ref p3, .ref p4, .int (nI b)])), (p1, .inl (E.2.2, 256, .inl t)), (p2, .inl (E.2.2, 96, .inl so)), (p3, .inl (E.2.2, 6, .inl st)), (p4, .inl (E.2.2, 6, .inl sh))] none [(p, .inr (2, [.ref p1, .ref p2, .ref p3, .ref p4, .int (nI (b + 1))])), (p1, .inl (E.2.2, 256, .inl t)), (p2, .inl (E.2.2, 96, .inl so)), (p3, .inl (E.2.2, 6, .inl (sSplit st b k))), (p4, .inl (E.2.2, 6, .inl sh))] := by
  refine Ct.of (cc := cX2_split) (maxL := 4) (ret := none) (own := RX2) (L := [(0, .ref p), (1, .int (nI k))]) (by decide) rfl rfl rfl (Nat.le_of_ble_eq_true rfl) rfl ?_
  intro X F hQ
  have i2 : ∀ w ∈ u_ws RX2 TX2 5, w ∈ wsX2_split := gsub [17, 18, 19, 20, 21] rfl
  refine g_aload_n F dX2_split_0 rfl 0 rfl ?_
  refine g_iload_n F dX2_split_1 rfl 1 rfl ?_
  refine g_callV (ws' := [(p, .inr (2, [.ref p1, .ref p2, .ref p3, .ref p4, .int (nI b)])), (p1, .inl (E.2.2, 256, .inl t)), (p2, .inl (E.2.2, 96, .inl so)), (p3, .inl (E.2.2, 6, .inl st)), (p4, .inl (E.2.2, 6, .inl sh))]) F dX2_split_2 (c_X2_startOf E p p1 p2 p3 p4 t so st sh (nI b) (nI k) ) rfl gX2_split_X2_startOf 0 rfl rfl kV_X2_startOf ⟨by decide, by decide⟩ [0, 1, 2, 3, 4] rfl (by decide +kernel) rfl rfl (Nat.le_of_ble_eq_true rfl) ⟨by decide, by decide⟩ ?_
  refine g_aload_n F dX2_split_5 rfl 0 rfl ?_
  refine g_iload_n F dX2_split_6 rfl 1 rfl ?_
  refine g_callV (ws' := [(p, .inr (2, [.ref p1, .ref p2, .ref p3, .ref p4, .int (nI b)])), (p1, .inl (E.2.2, 256, .inl t)), (p2, .inl (E.2.2, 96, .inl so)), (p3, .inl (E.2.2, 6, .inl st)), (p4, .inl (E.2.2, 6, .inl sh))]) F dX2_split_7 (c_X2_endOf E p p1 p2 p3 p4 t so st sh (nI b) (nI k) ) rfl gX2_split_X2_endOf 0 rfl rfl kV_X2_endOf ⟨by decide, by decide⟩ [0, 1, 2, 3, 4] rfl (by decide +kernel) rfl rfl (Nat.le_of_ble_eq_true rfl) ⟨by decide, by decide⟩ ?_
  refine g_aload_n F dX2_split_10 rfl 0 rfl ?_
  refine g_iload_n F dX2_split_11 rfl 1 rfl ?_
  refine g_callV (ws' := [(p, .inr (2, [.ref p1, .ref p2, .ref p3, .ref p4, .int (nI b)])), (p1, .inl (E.2.2, 256, .inl t)), (p2, .inl (E.2.2, 96, .inl so)), (p3, .inl (E.2.2, 6, .inl st)), (p4, .inl (E.2.2, 6, .inl sh))]) F dX2_split_12 (c_X2_startOf E p p1 p2 p3 p4 t so st sh (nI b) (nI k) ) rfl gX2_split_X2_startOf 0 rfl rfl kV_X2_startOf ⟨by decide, by decide⟩ [0, 1, 2, 3, 4] rfl (by decide +kernel) rfl rfl (Nat.le_of_ble_eq_true rfl) ⟨by decide, by decide⟩ ?_
  refine g_isub F dX2_split_15 ?_
  refine g_iconst (v := 2) F dX2_split_16 (by decide) ?_
  refine g_idiv F dX2_split_17 (by decide) ?_
  refine g_iadd F dX2_split_18 ?_
  refine g_istore_n (L' := [(0, .ref p), (1, .int (nI k)), (2, .int ((sSt st (nI k)) + (((sEn st (nI b) (nI k)) - (sSt st (nI k))) / 2)))]) F dX2_split_19 rfl (by decide) [1, 2, 0] rfl ?_
  refine g_aload_n F dX2_split_20 rfl 0 rfl ?_
  refine g_get F dX2_split_21 0 rfl rfl i2 4 (by decide) rfl (List.mem_of_getElem? (i := 1) rfl) ?_
  refine g_istore_n (L' := [(0, .ref p), (1, .int (nI k)), (2, .int ((sSt st (nI k)) + (((sEn st (nI b) (nI k)) - (sSt st (nI k))) / 2))), (3, .int (nI b))]) F dX2_split_24 rfl (by decide) [1, 2, 3, 0] rfl ?_
  have lp25 : ∀ (n25 i25 : Nat), i25 + n25 = (b - k - 1) → G E X 0 0 25 [(0, .ref p), (1, .int (nI k)), (2, .int ((sSt st (nI k)) + (((sEn st (nI b) (nI k)) - (sSt st (nI k))) / 2))), (3, .int (nI (b - i25)))] [] [(p, .inr (2, [.ref p1, .ref p2, .ref p3, .ref p4, .int (nI b)])), (p1, .inl (E.2.2, 256, .inl t)), (p2, .inl (E.2.2, 96, .inl so)), (p3, .inl (E.2.2, 6, .inl (sShift st b i25))), (p4, .inl (E.2.2, 6, .inl sh))] := by
    intro n25
    induction n25 with
    | zero =>
      intro i25 hi25
      have he25 : i25 = (b - k - 1) := by omega
      rw [he25]
      refine g_iload_n F dX2_split_25 rfl 3 rfl ?_
      refine g_iload_n F dX2_split_26 rfl 1 rfl ?_
      refine g_iconst (v := 1) F dX2_split_27 (by decide) ?_
      refine g_iadd F dX2_split_28 ?_
      refine g_icmp_le_t (tgt := 56) F dX2_split_29 (by decide) (by rw [nI_1]; exact le_nI (by omega) (by omega)) ?_
      refine g_aload_n F dX2_split_56 rfl 0 rfl ?_
      refine g_get F dX2_split_57 0 rfl rfl i2 2 (by decide) rfl (List.mem_of_getElem? (i := 2) rfl) ?_
      refine g_iload_n F dX2_split_60 rfl 1 rfl ?_
      refine g_iconst (v := 1) F dX2_split_61 (by decide) ?_
      refine g_iadd F dX2_split_62 ?_
      refine g_iload_n F dX2_split_63 rfl 2 rfl ?_
      refine g_callSN (ws' := [(p, .inr (2, [.ref p1, .ref p2, .ref p3, .ref p4, .int (nI b)])), (p1, .inl (E.2.2, 256, .inl t)), (p2, .inl (E.2.2, 96, .inl so)), (p3, .inl (E.2.2, 6, .inl (sPut 6 (sShift st b (b - k - 1)) ((nI k) + 1) ((sSt st (nI k)) + (((sEn st (nI b) (nI k)) - (sSt st (nI k))) / 2))))), (p4, .inl (E.2.2, 6, .inl sh))]) F dX2_split_64 (c_X4_putNumber E p3 6 (sShift st b (b - k - 1)) ((nI k) + 1) ((sSt st (nI k)) + (((sEn st (nI b) (nI k)) - (sSt st (nI k))) / 2)) (by first | assumption | decide | omega)) rfl gX2_split_X4_putNumber_n35 (List.mem_of_getElem? (i := 15) rfl) (List.mem_of_getElem? (i := 9) rfl) (List.mem_of_getElem? (i := 11) rfl) kS_X4_putNumber ⟨by decide, by decide⟩ [3] rfl (by decide +kernel) rfl rfl (Nat.le_of_ble_eq_true rfl) ⟨by decide, by decide⟩ ?_
      refine g_aload_n F dX2_split_67 rfl 0 rfl ?_
      refine g_dup F dX2_split_68 rfl ?_
      refine g_get F dX2_split_69 0 rfl rfl i2 4 (by decide) rfl (List.mem_of_getElem? (i := 1) rfl) ?_
      refine g_iconst (v := 1) F dX2_split_72 (by decide) ?_
      refine g_iadd F dX2_split_73 ?_
      refine g_topr (y := nI (b + 1)) (nI_1 b) ?_
      refine g_put (ws' := [(p, .inr (2, [.ref p1, .ref p2, .ref p3, .ref p4, .int (nI (b + 1))])), (p1, .inl (E.2.2, 256, .inl t)), (p2, .inl (E.2.2, 96, .inl so)), (p3, .inl (E.2.2, 6, .inl (sPut 6 (sShift st b (b - k - 1)) ((nI k) + 1) ((sSt st (nI k)) + (((sEn st (nI b) (nI k)) - (sSt st (nI k))) / 2))))), (p4, .inl (E.2.2, 6, .inl sh))]) F dX2_split_74 0 rfl rfl i2 tyX2 tyX2_ok nmX2 4 (by decide) rfl (rfl) (rfl) (Nat.le_of_ble_eq_true rfl) (List.mem_of_getElem? (i := 1) rfl) rfl ?_
      exact g_vret F hQ dX2_split_77 (rfl)
    | succ n25 ih25 =>
      intro i25 hi25
      have hl25 : i25 < (b - k - 1) := by omega
      refine g_iload_n F dX2_split_25 rfl 3 rfl ?_
      refine g_iload_n F dX2_split_26 rfl 1 rfl ?_
      refine g_iconst (v := 1) F dX2_split_27 (by decide) ?_
      refine g_iadd F dX2_split_28 ?_
      refine g_icmp_le_f (tgt := 56) F dX2_split_29 (by decide) (by rw [nI_1]; exact nle_nI (by omega) (by omega)) ?_
      refine g_aload_n F dX2_split_32 rfl 0 rfl ?_
      refine g_get F dX2_split_33 0 rfl rfl i2 2 (by decide) rfl (List.mem_of_getElem? (i := 2) rfl) ?_
      refine g_iload_n F dX2_split_36 rfl 3 rfl ?_
      refine g_aload_n F dX2_split_37 rfl 0 rfl ?_
      refine g_get F dX2_split_38 0 rfl rfl i2 2 (by decide) rfl (List.mem_of_getElem? (i := 2) rfl) ?_
      refine g_iload_n F dX2_split_41 rfl 3 rfl ?_
      refine g_iconst (v := 1) F dX2_split_42 (by decide) ?_
      refine g_isub F dX2_split_43 ?_
      refine g_callSN (ws' := [(p, .inr (2, [.ref p1, .ref p2, .ref p3, .ref p4, .int (nI b)])), (p1, .inl (E.2.2, 256, .inl t)), (p2, .inl (E.2.2, 96, .inl so)), (p3, .inl (E.2.2, 6, .inl (sShift st b i25))), (p4, .inl (E.2.2, 6, .inl sh))]) F dX2_split_44 (c_X4_numberAt E p3 6 (sShift st b i25) ((nI (b - i25)) - 1) (by first | assumption | decide | omega)) rfl gX2_split_X4_numberAt_n54 (List.mem_of_getElem? (i := 8) rfl) (List.mem_of_getElem? (i := 9) rfl) (List.mem_of_getElem? (i := 10) rfl) kS_X4_numberAt ⟨by decide, by decide⟩ [3] rfl (by decide +kernel) rfl rfl (Nat.le_of_ble_eq_true rfl) ⟨by decide, by decide⟩ ?_
      refine g_callSN (ws' := [(p, .inr (2, [.ref p1, .ref p2, .ref p3, .ref p4, .int (nI b)])), (p1, .inl (E.2.2, 256, .inl t)), (p2, .inl (E.2.2, 96, .inl so)), (p3, .inl (E.2.2, 6, .inl (sPut 6 (sShift st b i25) (nI (b - i25)) (sAt 6 (sShift st b i25) ((nI (b - i25)) - 1))))), (p4, .inl (E.2.2, 6, .inl sh))]) F dX2_split_47 (c_X4_putNumber E p3 6 (sShift st b i25) (nI (b - i25)) (sAt 6 (sShift st b i25) ((nI (b - i25)) - 1)) (by first | assumption | decide | omega)) rfl gX2_split_X4_putNumber_n35 (List.mem_of_getElem? (i := 15) rfl) (List.mem_of_getElem? (i := 9) rfl) (List.mem_of_getElem? (i := 11) rfl) kS_X4_putNumber ⟨by decide, by decide⟩ [3] rfl (by decide +kernel) rfl rfl (Nat.le_of_ble_eq_true rfl) ⟨by decide, by decide⟩ ?_
      refine g_iinc (L' := [(0, .ref p), (1, .int (nI k)), (2, .int ((sSt st (nI k)) + (((sEn st (nI b) (nI k)) - (sSt st (nI k))) / 2))), (3, .int (nI (b - (i25 + 1))))]) (v := nI (b - (i25 + 1))) F dX2_split_50 3 rfl (by have := pk_m1 (b - (i25 + 1)); rw [show b - (i25 + 1) + 1 = b - i25 by omega] at this; exact this) (by decide) [1, 2, 3, 0] rfl ?_
      refine g_goto (tgt := 25) F dX2_split_53 (by decide) ?_
      exact ih25 (i25 + 1) (by omega)
  exact lp25 (b - k - 1) 0 (by omega)

set_option maxHeartbeats 4000000 in
set_option maxRecDepth 100000 in
theorem c_X2_meanOf (E : gE) (p : Nat) (p1 : Nat) (p2 : Nat) (p3 : Nat) (p4 : Nat) (t : AF) (so : AF) (st : AF) (sh : AF) (bx : Int32) (c : Int32) (s : Nat) (e : Nat) (hs : sSt st c = nI s) (he : sEn st bx c = nI e) (hlt : s < e) (hle : e ≤ 96) : Ct E yX2_meanOf wsX2_meanOf ({ frames := 2, cells := 0, slots := 0, locals := 42 }) [.ref p, .int c] [(p, .inr (2, [.ref p1, .ref p2, .ref p3, .ref p4, .int bx])), (p1, .inl (E.2.2, 256, .inl t)), (p2, .inl (E.2.2, 96, .inl so)), (p3, .inl (E.2.2, 6, .inl st)), (p4, .inl (E.2.2, 6, .inl sh))] (some (.int (sSum so s (e - s) / nI (e - s)))) [(p, .inr (2, [.ref p1, .ref p2, .ref p3, .ref p4, .int bx])), (p1, .inl (E.2.2, 256, .inl t)), (p2, .inl (E.2.2, 96, .inl so)), (p3, .inl (E.2.2, 6, .inl st)), (p4, .inl (E.2.2, 6, .inl sh))] := by
  refine Ct.of (cc := cX2_meanOf) (maxL := 7) (ret := (some .int)) (own := RX2) (L := [(0, .ref p), (1, .int c)]) (by decide) rfl rfl rfl (Nat.le_of_ble_eq_true rfl) rfl ?_
  intro X F hQ
  have i2 : ∀ w ∈ u_ws RX2 TX2 5, w ∈ wsX2_meanOf := gsub [16, 17, 18, 19, 20] rfl
  refine g_aload_n F dX2_meanOf_0 rfl 0 rfl ?_
  refine g_iload_n F dX2_meanOf_1 rfl 1 rfl ?_
  refine g_callV (ws' := [(p, .inr (2, [.ref p1, .ref p2, .ref p3, .ref p4, .int bx])), (p1, .inl (E.2.2, 256, .inl t)), (p2, .inl (E.2.2, 96, .inl so)), (p3, .inl (E.2.2, 6, .inl st)), (p4, .inl (E.2.2, 6, .inl sh))]) F dX2_meanOf_2 (c_X2_startOf E p p1 p2 p3 p4 t so st sh bx c ) rfl gX2_meanOf_X2_startOf 0 rfl rfl kV_X2_startOf ⟨by decide, by decide⟩ [0, 1, 2, 3, 4] rfl (by decide +kernel) rfl rfl (Nat.le_of_ble_eq_true rfl) ⟨by decide, by decide⟩ ?_
  refine g_topr (y := nI s) (hs) ?_
  refine g_istore_n (L' := [(0, .ref p), (1, .int c), (2, .int (nI s))]) F dX2_meanOf_5 rfl (by decide) [1, 2, 0] rfl ?_
  refine g_aload_n F dX2_meanOf_6 rfl 0 rfl ?_
  refine g_iload_n F dX2_meanOf_7 rfl 1 rfl ?_
  refine g_callV (ws' := [(p, .inr (2, [.ref p1, .ref p2, .ref p3, .ref p4, .int bx])), (p1, .inl (E.2.2, 256, .inl t)), (p2, .inl (E.2.2, 96, .inl so)), (p3, .inl (E.2.2, 6, .inl st)), (p4, .inl (E.2.2, 6, .inl sh))]) F dX2_meanOf_8 (c_X2_endOf E p p1 p2 p3 p4 t so st sh bx c ) rfl gX2_meanOf_X2_endOf 0 rfl rfl kV_X2_endOf ⟨by decide, by decide⟩ [0, 1, 2, 3, 4] rfl (by decide +kernel) rfl rfl (Nat.le_of_ble_eq_true rfl) ⟨by decide, by decide⟩ ?_
  refine g_topr (y := nI e) (he) ?_
  refine g_istore_n (L' := [(0, .ref p), (1, .int c), (2, .int (nI s)), (3, .int (nI e))]) F dX2_meanOf_11 rfl (by decide) [1, 2, 3, 0] rfl ?_
  refine g_iload_n F dX2_meanOf_12 rfl 3 rfl ?_
  refine g_iload_n F dX2_meanOf_13 rfl 2 rfl ?_
  refine g_isub F dX2_meanOf_14 ?_
  refine g_topr (y := nI (e - s)) (pk_sub (Nat.le_of_lt hlt)) ?_
  refine g_istore (L' := [(0, .ref p), (1, .int c), (2, .int (nI s)), (3, .int (nI e)), (4, .int (nI (e - s)))]) F dX2_meanOf_15 (by decide) [1, 2, 3, 4, 0] rfl ?_
  refine g_iload F dX2_meanOf_17 4 rfl ?_
  refine g_if_gt_t (tgt := 24) F dX2_meanOf_19 (by decide) (nI_lt (a := 0) (by omega) (by omega)) ?_
  refine g_iconst (v := 0) F dX2_meanOf_24 (by decide) ?_
  refine g_istore (L' := [(0, .ref p), (1, .int c), (2, .int (nI s)), (3, .int (nI e)), (4, .int (nI (e - s))), (5, .int 0)]) F dX2_meanOf_25 (by decide) [1, 2, 3, 4, 5, 0] rfl ?_
  refine g_iload_n F dX2_meanOf_27 rfl 2 rfl ?_
  refine g_istore (L' := [(0, .ref p), (1, .int c), (2, .int (nI s)), (3, .int (nI e)), (4, .int (nI (e - s))), (5, .int 0), (6, .int (nI s))]) F dX2_meanOf_28 (by decide) [1, 2, 3, 4, 5, 6, 0] rfl ?_
  have lp30 : ∀ (n30 i30 : Nat), i30 + n30 = (e - s) → G E X 0 0 30 [(0, .ref p), (1, .int c), (2, .int (nI s)), (3, .int (nI e)), (4, .int (nI (e - s))), (5, .int (sSum so s i30)), (6, .int (nI (s + i30)))] [] [(p, .inr (2, [.ref p1, .ref p2, .ref p3, .ref p4, .int bx])), (p1, .inl (E.2.2, 256, .inl t)), (p2, .inl (E.2.2, 96, .inl so)), (p3, .inl (E.2.2, 6, .inl st)), (p4, .inl (E.2.2, 6, .inl sh))] := by
    intro n30
    induction n30 with
    | zero =>
      intro i30 hi30
      have he30 : i30 = (e - s) := by omega
      rw [he30]
      refine g_iload F dX2_meanOf_30 6 rfl ?_
      refine g_iload_n F dX2_meanOf_32 rfl 3 rfl ?_
      refine g_icmp_ge_t (tgt := 56) F dX2_meanOf_33 (by decide) (le_nI (by omega) (by omega)) ?_
      refine g_iload F dX2_meanOf_56 5 rfl ?_
      refine g_iload F dX2_meanOf_58 4 rfl ?_
      refine g_idiv F dX2_meanOf_60 (nI_ne0 (by omega) (by omega)) ?_
      exact g_iret F hQ dX2_meanOf_61 (rfl) (rfl)
    | succ n30 ih30 =>
      intro i30 hi30
      have hl30 : i30 < (e - s) := by omega
      refine g_iload F dX2_meanOf_30 6 rfl ?_
      refine g_iload_n F dX2_meanOf_32 rfl 3 rfl ?_
      refine g_icmp_ge_f (tgt := 56) F dX2_meanOf_33 (by decide) (nle_nI (by omega) (by omega)) ?_
      refine g_iload F dX2_meanOf_36 5 rfl ?_
      refine g_aload_n F dX2_meanOf_38 rfl 0 rfl ?_
      refine g_get F dX2_meanOf_39 0 rfl rfl i2 1 (by decide) rfl (List.mem_of_getElem? (i := 1) rfl) ?_
      refine g_iload F dX2_meanOf_42 6 rfl ?_
      refine g_callSN (ws' := [(p, .inr (2, [.ref p1, .ref p2, .ref p3, .ref p4, .int bx])), (p1, .inl (E.2.2, 256, .inl t)), (p2, .inl (E.2.2, 96, .inl so)), (p3, .inl (E.2.2, 6, .inl st)), (p4, .inl (E.2.2, 6, .inl sh))]) F dX2_meanOf_44 (c_X4_numberAt E p2 96 so (nI (s + i30)) (by first | assumption | decide | omega)) rfl gX2_meanOf_X4_numberAt_n54 (List.mem_of_getElem? (i := 8) rfl) (List.mem_of_getElem? (i := 9) rfl) (List.mem_of_getElem? (i := 10) rfl) kS_X4_numberAt ⟨by decide, by decide⟩ [2] rfl (by decide +kernel) rfl rfl (Nat.le_of_ble_eq_true rfl) ⟨by decide, by decide⟩ ?_
      refine g_iadd F dX2_meanOf_47 ?_
      refine g_istore (L' := [(0, .ref p), (1, .int c), (2, .int (nI s)), (3, .int (nI e)), (4, .int (nI (e - s))), (5, .int ((sSum so s i30) + (sAt 96 so (nI (s + i30))))), (6, .int (nI (s + i30)))]) F dX2_meanOf_48 (by decide) [1, 2, 3, 4, 5, 0, 6] rfl ?_
      refine g_iinc (L' := [(0, .ref p), (1, .int c), (2, .int (nI s)), (3, .int (nI e)), (4, .int (nI (e - s))), (5, .int ((sSum so s i30) + (sAt 96 so (nI (s + i30))))), (6, .int (nI (s + i30 + 1)))]) (v := nI (s + i30 + 1)) F dX2_meanOf_50 6 rfl (nI_1 _) (by decide) [1, 2, 3, 4, 5, 6, 0] rfl ?_
      refine g_goto (tgt := 30) F dX2_meanOf_53 (by decide) ?_
      exact ih30 (i30 + 1) (by omega)
  exact lp30 (e - s) 0 (by omega)

set_option maxHeartbeats 4000000 in
set_option maxRecDepth 100000 in
theorem c_X2_tallyShades (E : gE) (p : Nat) (p1 : Nat) (p2 : Nat) (p3 : Nat) (p4 : Nat) (t : AF) (so : AF) (st : AF) (sh : AF) (bx : Int32) (g : Nat) (ga : Nat) (f : AF) : Ct E yX2_tallyShades wsX2_tallyShades ({ frames := 2, cells := 0, slots := 0, locals := 43 }) [.ref p, .ref g] [(p, .inr (2, [.ref p1, .ref p2, .ref p3, .ref p4, .int bx])), (p1, .inl (E.2.2, 256, .inl t)), (p2, .inl (E.2.2, 96, .inl so)), (p3, .inl (E.2.2, 6, .inl st)), (p4, .inl (E.2.2, 6, .inl sh)), (g, .inr (1, [.ref ga])), (ga, .inl (E.2.2, 96, .inl f))] none [(p, .inr (2, [.ref p1, .ref p2, .ref p3, .ref p4, .int bx])), (p1, .inl (E.2.2, 256, .inl (sTally f t))), (p2, .inl (E.2.2, 96, .inl so)), (p3, .inl (E.2.2, 6, .inl st)), (p4, .inl (E.2.2, 6, .inl sh)), (g, .inr (1, [.ref ga])), (ga, .inl (E.2.2, 96, .inl f))] := by
  refine Ct.of (cc := cX2_tallyShades) (maxL := 5) (ret := none) (own := RX2) (L := [(0, .ref p), (1, .ref g)]) (by decide) rfl rfl rfl (Nat.le_of_ble_eq_true rfl) rfl ?_
  intro X F hQ
  have i1 : ∀ w ∈ u_ws RX1 TX1 1, w ∈ wsX2_tallyShades := gsub [22] rfl
  have i2 : ∀ w ∈ u_ws RX2 TX2 5, w ∈ wsX2_tallyShades := gsub [17, 18, 19, 20, 21] rfl
  refine g_aload_n F dX2_tallyShades_0 rfl 0 rfl ?_
  refine g_get F dX2_tallyShades_1 0 rfl rfl i2 0 (by decide) rfl (List.mem_of_getElem? (i := 1) rfl) ?_
  refine g_iconst (v := 0) F dX2_tallyShades_4 (by decide) ?_
  refine g_callSN (ws' := [(p, .inr (2, [.ref p1, .ref p2, .ref p3, .ref p4, .int bx])), (p1, .inl (E.2.2, 256, .inl (sFill 0 t 256))), (p2, .inl (E.2.2, 96, .inl so)), (p3, .inl (E.2.2, 6, .inl st)), (p4, .inl (E.2.2, 6, .inl sh)), (g, .inr (1, [.ref ga])), (ga, .inl (E.2.2, 96, .inl f))]) F dX2_tallyShades_5 (c_X4_fillNumbers E p1 256 t 0 (by first | assumption | decide | omega)) rfl gX2_tallyShades_X4_fillNumbers_n74 (List.mem_of_getElem? (i := 2) rfl) (List.mem_of_getElem? (i := 3) rfl) (List.mem_of_getElem? (i := 9) rfl) kS_X4_fillNumbers ⟨by decide, by decide⟩ [1] rfl (by decide +kernel) rfl rfl (Nat.le_of_ble_eq_true rfl) ⟨by decide, by decide⟩ ?_
  refine g_iconst (v := 0) F dX2_tallyShades_8 (by decide) ?_
  refine g_istore_n (L' := [(0, .ref p), (1, .ref g), (2, .int 0)]) F dX2_tallyShades_9 rfl (by decide) [1, 2, 0] rfl ?_
  have lp10 : ∀ (n10 i10 : Nat), i10 + n10 = 8 → G E X 0 0 10 [(0, .ref p), (1, .ref g), (2, .int (nI i10))] [] [(p, .inr (2, [.ref p1, .ref p2, .ref p3, .ref p4, .int bx])), (p1, .inl (E.2.2, 256, .inl (sTalY f (sFill 0 t 256) i10))), (p2, .inl (E.2.2, 96, .inl so)), (p3, .inl (E.2.2, 6, .inl st)), (p4, .inl (E.2.2, 6, .inl sh)), (g, .inr (1, [.ref ga])), (ga, .inl (E.2.2, 96, .inl f))] := by
    intro n10
    induction n10 with
    | zero =>
      intro i10 hi10
      have he10 : i10 = 8 := by omega
      rw [he10]
      refine g_iload_n F dX2_tallyShades_10 rfl 2 rfl ?_
      refine g_bipush (v := 8) F dX2_tallyShades_11 (by decide) ?_
      refine g_icmp_ge_t (tgt := 64) F dX2_tallyShades_13 (by decide) (by decide) ?_
      exact g_vret F hQ dX2_tallyShades_64 (rfl)
    | succ n10 ih10 =>
      intro i10 hi10
      have hl10 : i10 < 8 := by omega
      refine g_iload_n F dX2_tallyShades_10 rfl 2 rfl ?_
      refine g_bipush (v := 8) F dX2_tallyShades_11 (by decide) ?_
      refine g_icmp_ge_f (tgt := 64) F dX2_tallyShades_13 (by decide) (nle_nI (n := 8) hl10 (by omega)) ?_
      refine g_iconst (v := 0) F dX2_tallyShades_16 (by decide) ?_
      refine g_istore_n (L' := [(0, .ref p), (1, .ref g), (2, .int (nI i10)), (3, .int 0)]) F dX2_tallyShades_17 rfl (by decide) [1, 2, 3, 0] rfl ?_
      have lp18 : ∀ (n18 i18 : Nat), i18 + n18 = 12 → G E X 0 0 18 [(0, .ref p), (1, .ref g), (2, .int (nI i10)), (3, .int (nI i18))] [] [(p, .inr (2, [.ref p1, .ref p2, .ref p3, .ref p4, .int bx])), (p1, .inl (E.2.2, 256, .inl (sTalX f i10 (sTalY f (sFill 0 t 256) i10) i18))), (p2, .inl (E.2.2, 96, .inl so)), (p3, .inl (E.2.2, 6, .inl st)), (p4, .inl (E.2.2, 6, .inl sh)), (g, .inr (1, [.ref ga])), (ga, .inl (E.2.2, 96, .inl f))] := by
        intro n18
        induction n18 with
        | zero =>
          intro i18 hi18
          have he18 : i18 = 12 := by omega
          rw [he18]
          refine g_iload_n F dX2_tallyShades_18 rfl 3 rfl ?_
          refine g_bipush (v := 12) F dX2_tallyShades_19 (by decide) ?_
          refine g_icmp_ge_t (tgt := 58) F dX2_tallyShades_21 (by decide) (by decide) ?_
          refine g_iinc (L' := [(0, .ref p), (1, .ref g), (2, .int (nI (i10 + 1))), (3, .int (nI 12))]) (v := nI (i10 + 1)) F dX2_tallyShades_58 2 rfl (nI_1 _) (by decide) [1, 2, 0, 3] rfl ?_
          refine g_goto (tgt := 10) F dX2_tallyShades_61 (by decide) ?_
          refine g_lv (L' := [(0, .ref p), (1, .ref g), (2, .int (nI (i10 + 1)))]) [0, 1, 2] rfl ?_
          exact ih10 (i10 + 1) (by omega)
        | succ n18 ih18 =>
          intro i18 hi18
          have hl18 : i18 < 12 := by omega
          refine g_iload_n F dX2_tallyShades_18 rfl 3 rfl ?_
          refine g_bipush (v := 12) F dX2_tallyShades_19 (by decide) ?_
          refine g_icmp_ge_f (tgt := 58) F dX2_tallyShades_21 (by decide) (nle_nI (n := 12) hl18 (by omega)) ?_
          refine g_aload_n F dX2_tallyShades_24 rfl 1 rfl ?_
          refine g_iload_n F dX2_tallyShades_25 rfl 3 rfl ?_
          refine g_iload_n F dX2_tallyShades_26 rfl 2 rfl ?_
          refine g_callV (ws' := [(p, .inr (2, [.ref p1, .ref p2, .ref p3, .ref p4, .int bx])), (p1, .inl (E.2.2, 256, .inl (sTalX f i10 (sTalY f (sFill 0 t 256) i10) i18))), (p2, .inl (E.2.2, 96, .inl so)), (p3, .inl (E.2.2, 6, .inl st)), (p4, .inl (E.2.2, 6, .inl sh)), (g, .inr (1, [.ref ga])), (ga, .inl (E.2.2, 96, .inl f))]) F dX2_tallyShades_27 (c_X1_at E g ga f (nI i18) (nI i10) ) rfl gX2_tallyShades_X1_at 5 rfl rfl kV_X1_at ⟨by decide, by decide⟩ [5, 6] rfl (by decide +kernel) rfl rfl (Nat.le_of_ble_eq_true rfl) ⟨by decide, by decide⟩ ?_
          refine g_istore (L' := [(0, .ref p), (1, .ref g), (2, .int (nI i10)), (3, .int (nI i18)), (4, .int (sGAt f (nI i18) (nI i10)))]) F dX2_tallyShades_30 (by decide) [1, 2, 3, 4, 0] rfl ?_
          refine g_aload_n F dX2_tallyShades_32 rfl 0 rfl ?_
          refine g_get F dX2_tallyShades_33 0 rfl rfl i2 0 (by decide) rfl (List.mem_of_getElem? (i := 1) rfl) ?_
          refine g_iload F dX2_tallyShades_36 4 rfl ?_
          refine g_aload_n F dX2_tallyShades_38 rfl 0 rfl ?_
          refine g_get F dX2_tallyShades_39 0 rfl rfl i2 0 (by decide) rfl (List.mem_of_getElem? (i := 1) rfl) ?_
          refine g_iload F dX2_tallyShades_42 4 rfl ?_
          refine g_callSN (ws' := [(p, .inr (2, [.ref p1, .ref p2, .ref p3, .ref p4, .int bx])), (p1, .inl (E.2.2, 256, .inl (sTalX f i10 (sTalY f (sFill 0 t 256) i10) i18))), (p2, .inl (E.2.2, 96, .inl so)), (p3, .inl (E.2.2, 6, .inl st)), (p4, .inl (E.2.2, 6, .inl sh)), (g, .inr (1, [.ref ga])), (ga, .inl (E.2.2, 96, .inl f))]) F dX2_tallyShades_44 (c_X4_numberAt E p1 256 (sTalX f i10 (sTalY f (sFill 0 t 256) i10) i18) (sGAt f (nI i18) (nI i10)) (by first | assumption | decide | omega)) rfl gX2_tallyShades_X4_numberAt_n54 (List.mem_of_getElem? (i := 13) rfl) (List.mem_of_getElem? (i := 3) rfl) (List.mem_of_getElem? (i := 10) rfl) kS_X4_numberAt ⟨by decide, by decide⟩ [1] rfl (by decide +kernel) rfl rfl (Nat.le_of_ble_eq_true rfl) ⟨by decide, by decide⟩ ?_
          refine g_iconst (v := 1) F dX2_tallyShades_47 (by decide) ?_
          refine g_iadd F dX2_tallyShades_48 ?_
          refine g_callSN (ws' := [(p, .inr (2, [.ref p1, .ref p2, .ref p3, .ref p4, .int bx])), (p1, .inl (E.2.2, 256, .inl (sPut 256 (sTalX f i10 (sTalY f (sFill 0 t 256) i10) i18) (sGAt f (nI i18) (nI i10)) ((sAt 256 (sTalX f i10 (sTalY f (sFill 0 t 256) i10) i18) (sGAt f (nI i18) (nI i10))) + 1)))), (p2, .inl (E.2.2, 96, .inl so)), (p3, .inl (E.2.2, 6, .inl st)), (p4, .inl (E.2.2, 6, .inl sh)), (g, .inr (1, [.ref ga])), (ga, .inl (E.2.2, 96, .inl f))]) F dX2_tallyShades_49 (c_X4_putNumber E p1 256 (sTalX f i10 (sTalY f (sFill 0 t 256) i10) i18) (sGAt f (nI i18) (nI i10)) ((sAt 256 (sTalX f i10 (sTalY f (sFill 0 t 256) i10) i18) (sGAt f (nI i18) (nI i10))) + 1) (by first | assumption | decide | omega)) rfl gX2_tallyShades_X4_putNumber_n35 (List.mem_of_getElem? (i := 15) rfl) (List.mem_of_getElem? (i := 3) rfl) (List.mem_of_getElem? (i := 11) rfl) kS_X4_putNumber ⟨by decide, by decide⟩ [1] rfl (by decide +kernel) rfl rfl (Nat.le_of_ble_eq_true rfl) ⟨by decide, by decide⟩ ?_
          refine g_iinc (L' := [(0, .ref p), (1, .ref g), (2, .int (nI i10)), (3, .int (nI (i18 + 1))), (4, .int (sGAt f (nI i18) (nI i10)))]) (v := nI (i18 + 1)) F dX2_tallyShades_52 3 rfl (nI_1 _) (by decide) [1, 2, 3, 0, 4] rfl ?_
          refine g_goto (tgt := 18) F dX2_tallyShades_55 (by decide) ?_
          refine g_lv (L' := [(0, .ref p), (1, .ref g), (2, .int (nI i10)), (3, .int (nI (i18 + 1)))]) [0, 1, 2, 3] rfl ?_
          exact ih18 (i18 + 1) (by omega)
      exact lp18 12 0 (by omega)
  exact lp10 8 0 (by omega)

set_option maxHeartbeats 4000000 in
set_option maxRecDepth 100000 in
theorem c_X2_sortShades (E : gE) (p : Nat) (p1 : Nat) (p2 : Nat) (p3 : Nat) (p4 : Nat) (t : AF) (so : AF) (st : AF) (sh : AF) (bx : Int32) (cn : Nat → Nat) (hc : ∀ s, s < 256 → sAt 256 t (nI s) = nI (cn s)) (hcb : ∀ s, cn s ≤ 96) : Ct E yX2_sortShades wsX2_sortShades ({ frames := 1, cells := 0, slots := 0, locals := 22 }) [.ref p] [(p, .inr (2, [.ref p1, .ref p2, .ref p3, .ref p4, .int bx])), (p1, .inl (E.2.2, 256, .inl t)), (p2, .inl (E.2.2, 96, .inl so)), (p3, .inl (E.2.2, 6, .inl st)), (p4, .inl (E.2.2, 6, .inl sh))] none [(p, .inr (2, [.ref p1, .ref p2, .ref p3, .ref p4, .int bx])), (p1, .inl (E.2.2, 256, .inl t)), (p2, .inl (E.2.2, 96, .inl ((sSoS cn so 256).1))), (p3, .inl (E.2.2, 6, .inl st)), (p4, .inl (E.2.2, 6, .inl sh))] := by
  refine Ct.of (cc := cX2_sortShades) (maxL := 5) (ret := none) (own := RX2) (L := [(0, .ref p)]) (by decide) rfl rfl rfl (Nat.le_of_ble_eq_true rfl) rfl ?_
  intro X F hQ
  have i2 : ∀ w ∈ u_ws RX2 TX2 5, w ∈ wsX2_sortShades := gsub [8, 9, 10, 11, 12] rfl
  refine g_iconst (v := 0) F dX2_sortShades_0 (by decide) ?_
  refine g_istore_n (L' := [(0, .ref p), (1, .int 0)]) F dX2_sortShades_1 rfl (by decide) [1, 0] rfl ?_
  refine g_iconst (v := 0) F dX2_sortShades_2 (by decide) ?_
  refine g_istore_n (L' := [(0, .ref p), (1, .int 0), (2, .int 0)]) F dX2_sortShades_3 rfl (by decide) [1, 2, 0] rfl ?_
  have lp4 : ∀ (n4 i4 : Nat), i4 + n4 = 256 → G E X 0 0 4 [(0, .ref p), (1, .int (nI (sSoS cn so i4).2)), (2, .int (nI i4))] [] [(p, .inr (2, [.ref p1, .ref p2, .ref p3, .ref p4, .int bx])), (p1, .inl (E.2.2, 256, .inl t)), (p2, .inl (E.2.2, 96, .inl ((sSoS cn so i4).1))), (p3, .inl (E.2.2, 6, .inl st)), (p4, .inl (E.2.2, 6, .inl sh))] := by
    intro n4
    induction n4 with
    | zero =>
      intro i4 hi4
      have he4 : i4 = 256 := by omega
      rw [he4]
      refine g_iload_n F dX2_sortShades_4 rfl 2 rfl ?_
      refine g_sipush (v := 256) F dX2_sortShades_5 (by decide) ?_
      refine g_icmp_ge_t (tgt := 53) F dX2_sortShades_8 (by decide) (by decide) ?_
      exact g_vret F hQ dX2_sortShades_53 (rfl)
    | succ n4 ih4 =>
      intro i4 hi4
      have hl4 : i4 < 256 := by omega
      refine g_iload_n F dX2_sortShades_4 rfl 2 rfl ?_
      refine g_sipush (v := 256) F dX2_sortShades_5 (by decide) ?_
      refine g_icmp_ge_f (tgt := 53) F dX2_sortShades_8 (by decide) (nle_nI (n := 256) hl4 (by omega)) ?_
      refine g_aload_n F dX2_sortShades_11 rfl 0 rfl ?_
      refine g_get F dX2_sortShades_12 0 rfl rfl i2 0 (by decide) rfl (List.mem_of_getElem? (i := 1) rfl) ?_
      refine g_iload_n F dX2_sortShades_15 rfl 2 rfl ?_
      refine g_callSN (ws' := [(p, .inr (2, [.ref p1, .ref p2, .ref p3, .ref p4, .int bx])), (p1, .inl (E.2.2, 256, .inl t)), (p2, .inl (E.2.2, 96, .inl ((sSoS cn so i4).1))), (p3, .inl (E.2.2, 6, .inl st)), (p4, .inl (E.2.2, 6, .inl sh))]) F dX2_sortShades_16 (c_X4_numberAt E p1 256 t (nI i4) (by first | assumption | decide | omega)) rfl gX2_sortShades_X4_numberAt_n54 (List.mem_of_getElem? (i := 3) rfl) (List.mem_of_getElem? (i := 4) rfl) (List.mem_of_getElem? (i := 10) rfl) kS_X4_numberAt ⟨by decide, by decide⟩ [1] rfl (by decide +kernel) rfl rfl (Nat.le_of_ble_eq_true rfl) ⟨by decide, by decide⟩ ?_
      refine g_topr (y := nI (cn i4)) (hc i4 hl4) ?_
      refine g_istore_n (L' := [(0, .ref p), (1, .int (nI (sSoS cn so i4).2)), (2, .int (nI i4)), (3, .int (nI (cn i4)))]) F dX2_sortShades_19 rfl (by decide) [1, 2, 3, 0] rfl ?_
      have hb4 := hcb i4
      refine g_iconst (v := 0) F dX2_sortShades_20 (by decide) ?_
      refine g_istore (L' := [(0, .ref p), (1, .int (nI (sSoS cn so i4).2)), (2, .int (nI i4)), (3, .int (nI (cn i4))), (4, .int 0)]) F dX2_sortShades_21 (by decide) [1, 2, 3, 4, 0] rfl ?_
      have lp23 : ∀ (n23 i23 : Nat), i23 + n23 = (cn i4) → G E X 0 0 23 [(0, .ref p), (1, .int (nI (sSoN i4 (sSoS cn so i4) i23).2)), (2, .int (nI i4)), (3, .int (nI (cn i4))), (4, .int (nI i23))] [] [(p, .inr (2, [.ref p1, .ref p2, .ref p3, .ref p4, .int bx])), (p1, .inl (E.2.2, 256, .inl t)), (p2, .inl (E.2.2, 96, .inl ((sSoN i4 (sSoS cn so i4) i23).1))), (p3, .inl (E.2.2, 6, .inl st)), (p4, .inl (E.2.2, 6, .inl sh))] := by
        intro n23
        induction n23 with
        | zero =>
          intro i23 hi23
          have he23 : i23 = (cn i4) := by omega
          rw [he23]
          refine g_iload F dX2_sortShades_23 4 rfl ?_
          refine g_iload_n F dX2_sortShades_25 rfl 3 rfl ?_
          refine g_icmp_ge_t (tgt := 47) F dX2_sortShades_26 (by decide) (le_nI (by omega) (by omega)) ?_
          refine g_iinc (L' := [(0, .ref p), (1, .int (nI (sSoN i4 (sSoS cn so i4) (cn i4)).2)), (2, .int (nI (i4 + 1))), (3, .int (nI (cn i4))), (4, .int (nI (cn i4)))]) (v := nI (i4 + 1)) F dX2_sortShades_47 2 rfl (nI_1 _) (by decide) [1, 2, 0, 3, 4] rfl ?_
          refine g_goto (tgt := 4) F dX2_sortShades_50 (by decide) ?_
          refine g_lv (L' := [(0, .ref p), (1, .int (nI (sSoN i4 (sSoS cn so i4) (cn i4)).2)), (2, .int (nI (i4 + 1)))]) [0, 1, 2] rfl ?_
          exact ih4 (i4 + 1) (by omega)
        | succ n23 ih23 =>
          intro i23 hi23
          have hl23 : i23 < (cn i4) := by omega
          refine g_iload F dX2_sortShades_23 4 rfl ?_
          refine g_iload_n F dX2_sortShades_25 rfl 3 rfl ?_
          refine g_icmp_ge_f (tgt := 47) F dX2_sortShades_26 (by decide) (nle_nI hl23 (by omega)) ?_
          refine g_aload_n F dX2_sortShades_29 rfl 0 rfl ?_
          refine g_get F dX2_sortShades_30 0 rfl rfl i2 1 (by decide) rfl (List.mem_of_getElem? (i := 2) rfl) ?_
          refine g_iload_n F dX2_sortShades_33 rfl 1 rfl ?_
          refine g_iload_n F dX2_sortShades_34 rfl 2 rfl ?_
          refine g_callSN (ws' := [(p, .inr (2, [.ref p1, .ref p2, .ref p3, .ref p4, .int bx])), (p1, .inl (E.2.2, 256, .inl t)), (p2, .inl (E.2.2, 96, .inl (sPut 96 ((sSoN i4 (sSoS cn so i4) i23).1) (nI (sSoN i4 (sSoS cn so i4) i23).2) (nI i4)))), (p3, .inl (E.2.2, 6, .inl st)), (p4, .inl (E.2.2, 6, .inl sh))]) F dX2_sortShades_35 (c_X4_putNumber E p2 96 ((sSoN i4 (sSoS cn so i4) i23).1) (nI (sSoN i4 (sSoS cn so i4) i23).2) (nI i4) (by first | assumption | decide | omega)) rfl gX2_sortShades_X4_putNumber_n35 (List.mem_of_getElem? (i := 6) rfl) (List.mem_of_getElem? (i := 4) rfl) (List.mem_of_getElem? (i := 11) rfl) kS_X4_putNumber ⟨by decide, by decide⟩ [2] rfl (by decide +kernel) rfl rfl (Nat.le_of_ble_eq_true rfl) ⟨by decide, by decide⟩ ?_
          refine g_iinc (L' := [(0, .ref p), (1, .int (nI ((sSoN i4 (sSoS cn so i4) i23).2 + 1))), (2, .int (nI i4)), (3, .int (nI (cn i4))), (4, .int (nI i23))]) (v := nI ((sSoN i4 (sSoS cn so i4) i23).2 + 1)) F dX2_sortShades_38 1 rfl (nI_1 _) (by decide) [1, 0, 2, 3, 4] rfl ?_
          refine g_iinc (L' := [(0, .ref p), (1, .int (nI ((sSoN i4 (sSoS cn so i4) i23).2 + 1))), (2, .int (nI i4)), (3, .int (nI (cn i4))), (4, .int (nI (i23 + 1)))]) (v := nI (i23 + 1)) F dX2_sortShades_41 4 rfl (nI_1 _) (by decide) [1, 2, 3, 4, 0] rfl ?_
          refine g_goto (tgt := 23) F dX2_sortShades_44 (by decide) ?_
          exact ih23 (i23 + 1) (by omega)
      exact lp23 (cn i4) 0 (by omega)
  exact lp4 256 0 (by omega)

set_option maxHeartbeats 4000000 in
set_option maxRecDepth 100000 in
theorem c_X2_digestFrom (E : gE) (p : Nat) (p1 : Nat) (p2 : Nat) (p3 : Nat) (p4 : Nat) (t : AF) (so : AF) (st : AF) (sh : AF) (b : Nat) (d : Int64) (h6 : b ≤ 6) : Ct E yX2_digestFrom wsX2_digestFrom ({ frames := 2, cells := 0, slots := 0, locals := 47 }) [.ref p, .long d] [(p, .inr (2, [.ref p1, .ref p2, .ref p3, .ref p4, .int (nI b)])), (p1, .inl (E.2.2, 256, .inl t)), (p2, .inl (E.2.2, 96, .inl so)), (p3, .inl (E.2.2, 6, .inl st)), (p4, .inl (E.2.2, 6, .inl sh))] (some (.long (sDig 6 sh d b))) [(p, .inr (2, [.ref p1, .ref p2, .ref p3, .ref p4, .int (nI b)])), (p1, .inl (E.2.2, 256, .inl t)), (p2, .inl (E.2.2, 96, .inl so)), (p3, .inl (E.2.2, 6, .inl st)), (p4, .inl (E.2.2, 6, .inl sh))] := by
  refine Ct.of (cc := cX2_digestFrom) (maxL := 3) (ret := (some .long)) (own := RX2) (L := [(0, .ref p), (1, .long d)]) (by decide) rfl rfl rfl (Nat.le_of_ble_eq_true rfl) rfl ?_
  intro X F hQ
  have i2 : ∀ w ∈ u_ws RX2 TX2 5, w ∈ wsX2_digestFrom := gsub [10, 11, 12, 13, 14] rfl
  refine g_lload_n F dX2_digestFrom_0 rfl 1 rfl ?_
  refine g_aload_n F dX2_digestFrom_1 rfl 0 rfl ?_
  refine g_get F dX2_digestFrom_2 0 rfl rfl i2 3 (by decide) rfl (List.mem_of_getElem? (i := 1) rfl) ?_
  refine g_aload_n F dX2_digestFrom_5 rfl 0 rfl ?_
  refine g_get F dX2_digestFrom_6 0 rfl rfl i2 4 (by decide) rfl (List.mem_of_getElem? (i := 2) rfl) ?_
  refine g_callSN (ws' := [(p, .inr (2, [.ref p1, .ref p2, .ref p3, .ref p4, .int (nI b)])), (p1, .inl (E.2.2, 256, .inl t)), (p2, .inl (E.2.2, 96, .inl so)), (p3, .inl (E.2.2, 6, .inl st)), (p4, .inl (E.2.2, 6, .inl sh))]) F dX2_digestFrom_9 (c_X4_digested E p4 6 b sh d (by first | assumption | decide | omega) (by first | assumption | decide | omega)) rfl gX2_digestFrom_X4_digested_n62 (List.mem_of_getElem? (i := 3) rfl) (List.mem_of_getElem? (i := 4) rfl) (List.mem_of_getElem? (i := 19) rfl) kS_X4_digested ⟨by decide, by decide⟩ [4] rfl (by decide +kernel) rfl rfl (Nat.le_of_ble_eq_true rfl) ⟨by decide, by decide⟩ ?_
  exact g_lret F hQ dX2_digestFrom_12 (rfl) (rfl)
end PPAL
