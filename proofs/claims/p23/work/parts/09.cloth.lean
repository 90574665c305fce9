/-! the class: Cloth, all but makeRow and make -/
section PCLO
set_option maxHeartbeats 4000000 in
set_option maxRecDepth 100000 in
theorem c_X0_colourCount (E : gE) (c : Nat) (d : Nat) (d1 : Nat) (d2 : Nat) (d3 : Nat) (d4 : Nat) (w : Nat) (wa : Nat) (ca : Nat) (cb : Nat) (r : Nat) (ra : Nat) (u : Nat) (t : AF) (so : AF) (st : AF) (sh : AF) (fw : AF) (fc : AF) (fr : AF) (fu : AF) (off : Int32) (bx : Int32) : Ct E yX0_colourCount wsX0_colourCount ({ frames := 1, cells := 0, slots := 0, locals := 20 }) [.ref c] [(c, .inr (0, [.ref d, .ref w, .ref ca, .ref r, .ref u, .int off])), (d, .inr (2, [.ref d1, .ref d2, .ref d3, .ref d4, .int bx])), (d1, .inl (E.2.2, 256, .inl t)), (d2, .inl (E.2.2, 96, .inl so)), (d3, .inl (E.2.2, 6, .inl st)), (d4, .inl (E.2.2, 6, .inl sh)), (w, .inr (1, [.ref wa])), (wa, .inl (E.2.2, 96, .inl fw)), (ca, .inr (1, [.ref cb])), (cb, .inl (E.2.2, 96, .inl fc)), (r, .inr (1, [.ref ra])), (ra, .inl (E.2.2, 96, .inl fr)), (u, .inl (E.2.2, 6, .inl fu))] (some (.int bx)) [(c, .inr (0, [.ref d, .ref w, .ref ca, .ref r, .ref u, .int off])), (d, .inr (2, [.ref d1, .ref d2, .ref d3, .ref d4, .int bx])), (d1, .inl (E.2.2, 256, .inl t)), (d2, .inl (E.2.2, 96, .inl so)), (d3, .inl (E.2.2, 6, .inl st)), (d4, .inl (E.2.2, 6, .inl sh)), (w, .inr (1, [.ref wa])), (wa, .inl (E.2.2, 96, .inl fw)), (ca, .inr (1, [.ref cb])), (cb, .inl (E.2.2, 96, .inl fc)), (r, .inr (1, [.ref ra])), (ra, .inl (E.2.2, 96, .inl fr)), (u, .inl (E.2.2, 6, .inl fu))] := by
  refine Ct.of (cc := cX0_colourCount) (maxL := 1) (ret := (some .int)) (own := RX0) (L := [(0, .ref c)]) (by decide) rfl rfl rfl (Nat.le_of_ble_eq_true rfl) rfl ?_
  intro X F hQ
  have i0 : ∀ w ∈ u_ws RX0 TX0 6, w ∈ wsX0_colourCount := gsub [8, 9, 10, 11, 12, 13] rfl
  have i2 : ∀ w ∈ u_ws RX2 TX2 5, w ∈ wsX0_colourCount := gsub [14, 15, 16, 17, 18] rfl
  refine g_aload_n F dX0_colourCount_0 rfl 0 rfl ?_
  refine g_get F dX0_colourCount_1 0 rfl rfl i0 0 (by decide) rfl (List.mem_of_getElem? (i := 1) rfl) ?_
  refine g_callV (ws' := [(c, .inr (0, [.ref d, .ref w, .ref ca, .ref r, .ref u, .int off])), (d, .inr (2, [.ref d1, .ref d2, .ref d3, .ref d4, .int bx])), (d1, .inl (E.2.2, 256, .inl t)), (d2, .inl (E.2.2, 96, .inl so)), (d3, .inl (E.2.2, 6, .inl st)), (d4, .inl (E.2.2, 6, .inl sh)), (w, .inr (1, [.ref wa])), (wa, .inl (E.2.2, 96, .inl fw)), (ca, .inr (1, [.ref cb])), (cb, .inl (E.2.2, 96, .inl fc)), (r, .inr (1, [.ref ra])), (ra, .inl (E.2.2, 96, .inl fr)), (u, .inl (E.2.2, 6, .inl fu))]) F dX0_colourCount_4 (c_X2_size E d d1 d2 d3 d4 t so st sh bx ) rfl gX0_colourCount_X2_size 1 rfl rfl kV_X2_size ⟨by decide, by decide⟩ [1, 2, 3, 4, 5] rfl (by decide +kernel) rfl rfl (Nat.le_of_ble_eq_true rfl) ⟨by decide, by decide⟩ ?_
  exact g_iret F hQ dX0_colourCount_7 (rfl) (rfl)

set_option maxHeartbeats 4000000 in
set_option maxRecDepth 100000 in
theorem c_X0_shadeOf (E : gE) (c : Nat) (d : Nat) (d1 : Nat) (d2 : Nat) (d3 : Nat) (d4 : Nat) (w : Nat) (wa : Nat) (ca : Nat) (cb : Nat) (r : Nat) (ra : Nat) (u : Nat) (t : AF) (so : AF) (st : AF) (sh : AF) (fw : AF) (fc : AF) (fr : AF) (fu : AF) (off : Int32) (bx : Int32) (k : Int32) : Ct E yX0_shadeOf wsX0_shadeOf ({ frames := 2, cells := 0, slots := 0, locals := 42 }) [.ref c, .int k] [(c, .inr (0, [.ref d, .ref w, .ref ca, .ref r, .ref u, .int off])), (d, .inr (2, [.ref d1, .ref d2, .ref d3, .ref d4, .int bx])), (d1, .inl (E.2.2, 256, .inl t)), (d2, .inl (E.2.2, 96, .inl so)), (d3, .inl (E.2.2, 6, .inl st)), (d4, .inl (E.2.2, 6, .inl sh)), (w, .inr (1, [.ref wa])), (wa, .inl (E.2.2, 96, .inl fw)), (ca, .inr (1, [.ref cb])), (cb, .inl (E.2.2, 96, .inl fc)), (r, .inr (1, [.ref ra])), (ra, .inl (E.2.2, 96, .inl fr)), (u, .inl (E.2.2, 6, .inl fu))] (some (.int (sShade sh bx k))) [(c, .inr (0, [.ref d, .ref w, .ref ca, .ref r, .ref u, .int off])), (d, .inr (2, [.ref d1, .ref d2, .ref d3, .ref d4, .int bx])), (d1, .inl (E.2.2, 256, .inl t)), (d2, .inl (E.2.2, 96, .inl so)), (d3, .inl (E.2.2, 6, .inl st)), (d4, .inl (E.2.2, 6, .inl sh)), (w, .inr (1, [.ref wa])), (wa, .inl (E.2.2, 96, .inl fw)), (ca, .inr (1, [.ref cb])), (cb, .inl (E.2.2, 96, .inl fc)), (r, .inr (1, [.ref ra])), (ra, .inl (E.2.2, 96, .inl fr)), (u, .inl (E.2.2, 6, .inl fu))] := by
  refine Ct.of (cc := cX0_shadeOf) (maxL := 2) (ret := (some .int)) (own := RX0) (L := [(0, .ref c), (1, .int k)]) (by decide) rfl rfl rfl (Nat.le_of_ble_eq_true rfl) rfl ?_
  intro X F hQ
  have i0 : ∀ w ∈ u_ws RX0 TX0 6, w ∈ wsX0_shadeOf := gsub [12, 13, 14, 15, 16, 17] rfl
  have i2 : ∀ w ∈ u_ws RX2 TX2 5, w ∈ wsX0_shadeOf := gsub [18, 19, 20, 21, 22] rfl
  refine g_aload_n F dX0_shadeOf_0 rfl 0 rfl ?_
  refine g_get F dX0_shadeOf_1 0 rfl rfl i0 0 (by decide) rfl (List.mem_of_getElem? (i := 1) rfl) ?_
  refine g_iload_n F dX0_shadeOf_4 rfl 1 rfl ?_
  refine g_callV (ws' := [(c, .inr (0, [.ref d, .ref w, .ref ca, .ref r, .ref u, .int off])), (d, .inr (2, [.ref d1, .ref d2, .ref d3, .ref d4, .int bx])), (d1, .inl (E.2.2, 256, .inl t)), (d2, .inl (E.2.2, 96, .inl so)), (d3, .inl (E.2.2, 6, .inl st)), (d4, .inl (E.2.2, 6, .inl sh)), (w, .inr (1, [.ref wa])), (wa, .inl (E.2.2, 96, .inl fw)), (ca, .inr (1, [.ref cb])), (cb, .inl (E.2.2, 96, .inl fc)), (r, .inr (1, [.ref ra])), (ra, .inl (E.2.2, 96, .inl fr)), (u, .inl (E.2.2, 6, .inl fu))]) F dX0_shadeOf_5 (c_X2_shadeOf E d d1 d2 d3 d4 t so st sh bx k ) rfl gX0_shadeOf_X2_shadeOf 1 rfl rfl kV_X2_shadeOf ⟨by decide, by decide⟩ [1, 2, 3, 4, 5] rfl (by decide +kernel) rfl rfl (Nat.le_of_ble_eq_true rfl) ⟨by decide, by decide⟩ ?_
  exact g_iret F hQ dX0_shadeOf_8 (rfl) (rfl)

set_option maxHeartbeats 4000000 in
set_option maxRecDepth 100000 in
theorem c_X0_colourAt (E : gE) (c : Nat) (d : Nat) (d1 : Nat) (d2 : Nat) (d3 : Nat) (d4 : Nat) (w : Nat) (wa : Nat) (ca : Nat) (cb : Nat) (r : Nat) (ra : Nat) (u : Nat) (t : AF) (so : AF) (st : AF) (sh : AF) (fw : AF) (fc : AF) (fr : AF) (fu : AF) (off : Int32) (bx : Int32) (x : Int32) (y : Int32) : Ct E yX0_colourAt wsX0_colourAt ({ frames := 2, cells := 0, slots := 0, locals := 43 }) [.ref c, .int x, .int y] [(c, .inr (0, [.ref d, .ref w, .ref ca, .ref r, .ref u, .int off])), (d, .inr (2, [.ref d1, .ref d2, .ref d3, .ref d4, .int bx])), (d1, .inl (E.2.2, 256, .inl t)), (d2, .inl (E.2.2, 96, .inl so)), (d3, .inl (E.2.2, 6, .inl st)), (d4, .inl (E.2.2, 6, .inl sh)), (w, .inr (1, [.ref wa])), (wa, .inl (E.2.2, 96, .inl fw)), (ca, .inr (1, [.ref cb])), (cb, .inl (E.2.2, 96, .inl fc)), (r, .inr (1, [.ref ra])), (ra, .inl (E.2.2, 96, .inl fr)), (u, .inl (E.2.2, 6, .inl fu))] (some (.int (sGAt fw x y))) [(c, .inr (0, [.ref d, .ref w, .ref ca, .ref r, .ref u, .int off])), (d, .inr (2, [.ref d1, .ref d2, .ref d3, .ref d4, .int bx])), (d1, .inl (E.2.2, 256, .inl t)), (d2, .inl (E.2.2, 96, .inl so)), (d3, .inl (E.2.2, 6, .inl st)), (d4, .inl (E.2.2, 6, .inl sh)), (w, .inr (1, [.ref wa])), (wa, .inl (E.2.2, 96, .inl fw)), (ca, .inr (1, [.ref cb])), (cb, .inl (E.2.2, 96, .inl fc)), (r, .inr (1, [.ref ra])), (ra, .inl (E.2.2, 96, .inl fr)), (u, .inl (E.2.2, 6, .inl fu))] := by
  refine Ct.of (cc := cX0_colourAt) (maxL := 3) (ret := (some .int)) (own := RX0) (L := [(0, .ref c), (1, .int x), (2, .int y)]) (by decide) rfl rfl rfl (Nat.le_of_ble_eq_true rfl) rfl ?_
  intro X F hQ
  have i0 : ∀ w ∈ u_ws RX0 TX0 6, w ∈ wsX0_colourAt := gsub [13, 14, 15, 16, 17, 18] rfl
  have i1 : ∀ w ∈ u_ws RX1 TX1 1, w ∈ wsX0_colourAt := gsub [19] rfl
  refine g_aload_n F dX0_colourAt_0 rfl 0 rfl ?_
  refine g_get F dX0_colourAt_1 0 rfl rfl i0 1 (by decide) rfl (List.mem_of_getElem? (i := 1) rfl) ?_
  refine g_iload_n F dX0_colourAt_4 rfl 1 rfl ?_
  refine g_iload_n F dX0_colourAt_5 rfl 2 rfl ?_
  refine g_callV (ws' := [(c, .inr (0, [.ref d, .ref w, .ref ca, .ref r, .ref u, .int off])), (d, .inr (2, [.ref d1, .ref d2, .ref d3, .ref d4, .int bx])), (d1, .inl (E.2.2, 256, .inl t)), (d2, .inl (E.2.2, 96, .inl so)), (d3, .inl (E.2.2, 6, .inl st)), (d4, .inl (E.2.2, 6, .inl sh)), (w, .inr (1, [.ref wa])), (wa, .inl (E.2.2, 96, .inl fw)), (ca, .inr (1, [.ref cb])), (cb, .inl (E.2.2, 96, .inl fc)), (r, .inr (1, [.ref ra])), (ra, .inl (E.2.2, 96, .inl fr)), (u, .inl (E.2.2, 6, .inl fu))]) F dX0_colourAt_6 (c_X1_at E w wa fw x y ) rfl gX0_colourAt_X1_at 6 rfl rfl kV_X1_at ⟨by decide, by decide⟩ [6, 7] rfl (by decide +kernel) rfl rfl (Nat.le_of_ble_eq_true rfl) ⟨by decide, by decide⟩ ?_
  exact g_iret F hQ dX0_colourAt_9 (rfl) (rfl)

set_option maxHeartbeats 4000000 in
set_option maxRecDepth 100000 in
theorem c_X0_cellsIn (E : gE) (c : Nat) (d : Nat) (d1 : Nat) (d2 : Nat) (d3 : Nat) (d4 : Nat) (w : Nat) (wa : Nat) (ca : Nat) (cb : Nat) (r : Nat) (ra : Nat) (u : Nat) (t : AF) (so : AF) (st : AF) (sh : AF) (fw : AF) (fc : AF) (fr : AF) (fu : AF) (off : Int32) (bx : Int32) (k : Int32) : Ct E yX0_cellsIn wsX0_cellsIn ({ frames := 1, cells := 0, slots := 0, locals := 21 }) [.ref c, .int k] [(c, .inr (0, [.ref d, .ref w, .ref ca, .ref r, .ref u, .int off])), (d, .inr (2, [.ref d1, .ref d2, .ref d3, .ref d4, .int bx])), (d1, .inl (E.2.2, 256, .inl t)), (d2, .inl (E.2.2, 96, .inl so)), (d3, .inl (E.2.2, 6, .inl st)), (d4, .inl (E.2.2, 6, .inl sh)), (w, .inr (1, [.ref wa])), (wa, .inl (E.2.2, 96, .inl fw)), (ca, .inr (1, [.ref cb])), (cb, .inl (E.2.2, 96, .inl fc)), (r, .inr (1, [.ref ra])), (ra, .inl (E.2.2, 96, .inl fr)), (u, .inl (E.2.2, 6, .inl fu))] (some (.int (sAt 6 fu k))) [(c, .inr (0, [.ref d, .ref w, .ref ca, .ref r, .ref u, .int off])), (d, .inr (2, [.ref d1, .ref d2, .ref d3, .ref d4, .int bx])), (d1, .inl (E.2.2, 256, .inl t)), (d2, .inl (E.2.2, 96, .inl so)), (d3, .inl (E.2.2, 6, .inl st)), (d4, .inl (E.2.2, 6, .inl sh)), (w, .inr (1, [.ref wa])), (wa, .inl (E.2.2, 96, .inl fw)), (ca, .inr (1, [.ref cb])), (cb, .inl (E.2.2, 96, .inl fc)), (r, .inr (1, [.ref ra])), (ra, .inl (E.2.2, 96, .inl fr)), (u, .inl (E.2.2, 6, .inl fu))] := by
  refine Ct.of (cc := cX0_cellsIn) (maxL := 2) (ret := (some .int)) (own := RX0) (L := [(0, .ref c), (1, .int k)]) (by decide) rfl rfl rfl (Nat.le_of_ble_eq_true rfl) rfl ?_
  intro X F hQ
  have i0 : ∀ w ∈ u_ws RX0 TX0 6, w ∈ wsX0_cellsIn := gsub [5, 6, 7, 8, 9, 10] rfl
  refine g_aload_n F dX0_cellsIn_0 rfl 0 rfl ?_
  refine g_get F dX0_cellsIn_1 0 rfl rfl i0 4 (by decide) rfl (List.mem_of_getElem? (i := 1) rfl) ?_
  refine g_iload_n F dX0_cellsIn_4 rfl 1 rfl ?_
  refine g_callSN (ws' := [(c, .inr (0, [.ref d, .ref w, .ref ca, .ref r, .ref u, .int off])), (d, .inr (2, [.ref d1, .ref d2, .ref d3, .ref d4, .int bx])), (d1, .inl (E.2.2, 256, .inl t)), (d2, .inl (E.2.2, 96, .inl so)), (d3, .inl (E.2.2, 6, .inl st)), (d4, .inl (E.2.2, 6, .inl sh)), (w, .inr (1, [.ref wa])), (wa, .inl (E.2.2, 96, .inl fw)), (ca, .inr (1, [.ref cb])), (cb, .inl (E.2.2, 96, .inl fc)), (r, .inr (1, [.ref ra])), (ra, .inl (E.2.2, 96, .inl fr)), (u, .inl (E.2.2, 6, .inl fu))]) F dX0_cellsIn_5 (c_X4_numberAt E u 6 fu k (by first | assumption | decide | omega)) rfl gX0_cellsIn_X4_numberAt_n70 (List.mem_of_getElem? (i := 2) rfl) (List.mem_of_getElem? (i := 3) rfl) (List.mem_of_getElem? (i := 13) rfl) kS_X4_numberAt ⟨by decide, by decide⟩ [12] rfl (by decide +kernel) rfl rfl (Nat.le_of_ble_eq_true rfl) ⟨by decide, by decide⟩ ?_
  exact g_iret F hQ dX0_cellsIn_8 (rfl) (rfl)

set_option maxHeartbeats 4000000 in
set_option maxRecDepth 100000 in
theorem c_X0_offInAll (E : gE) (c : Nat) (d : Nat) (d1 : Nat) (d2 : Nat) (d3 : Nat) (d4 : Nat) (w : Nat) (wa : Nat) (ca : Nat) (cb : Nat) (r : Nat) (ra : Nat) (u : Nat) (t : AF) (so : AF) (st : AF) (sh : AF) (fw : AF) (fc : AF) (fr : AF) (fu : AF) (off : Int32) (bx : Int32) : Ct E yX0_offInAll wsX0_offInAll ({ frames := 0, cells := 0, slots := 0, locals := 0 }) [.ref c] [(c, .inr (0, [.ref d, .ref w, .ref ca, .ref r, .ref u, .int off])), (d, .inr (2, [.ref d1, .ref d2, .ref d3, .ref d4, .int bx])), (d1, .inl (E.2.2, 256, .inl t)), (d2, .inl (E.2.2, 96, .inl so)), (d3, .inl (E.2.2, 6, .inl st)), (d4, .inl (E.2.2, 6, .inl sh)), (w, .inr (1, [.ref wa])), (wa, .inl (E.2.2, 96, .inl fw)), (ca, .inr (1, [.ref cb])), (cb, .inl (E.2.2, 96, .inl fc)), (r, .inr (1, [.ref ra])), (ra, .inl (E.2.2, 96, .inl fr)), (u, .inl (E.2.2, 6, .inl fu))] (some (.int off)) [(c, .inr (0, [.ref d, .ref w, .ref ca, .ref r, .ref u, .int off])), (d, .inr (2, [.ref d1, .ref d2, .ref d3, .ref d4, .int bx])), (d1, .inl (E.2.2, 256, .inl t)), (d2, .inl (E.2.2, 96, .inl so)), (d3, .inl (E.2.2, 6, .inl st)), (d4, .inl (E.2.2, 6, .inl sh)), (w, .inr (1, [.ref wa])), (wa, .inl (E.2.2, 96, .inl fw)), (ca, .inr (1, [.ref cb])), (cb, .inl (E.2.2, 96, .inl fc)), (r, .inr (1, [.ref ra])), (ra, .inl (E.2.2, 96, .inl fr)), (u, .inl (E.2.2, 6, .inl fu))] := by
  refine Ct.of (cc := cX0_offInAll) (maxL := 1) (ret := (some .int)) (own := RX0) (L := [(0, .ref c)]) (by decide) rfl rfl rfl (Nat.le_of_ble_eq_true rfl) rfl ?_
  intro X F hQ
  have i0 : ∀ w ∈ u_ws RX0 TX0 6, w ∈ wsX0_offInAll := gsub [2, 3, 4, 5, 6, 7] rfl
  refine g_aload_n F dX0_offInAll_0 rfl 0 rfl ?_
  refine g_get F dX0_offInAll_1 0 rfl rfl i0 5 (by decide) rfl (List.mem_of_getElem? (i := 1) rfl) ?_
  exact g_iret F hQ dX0_offInAll_4 (rfl) (rfl)

set_option maxHeartbeats 4000000 in
set_option maxRecDepth 100000 in
theorem c_X0_runsOf (E : gE) (c : Nat) (d : Nat) (d1 : Nat) (d2 : Nat) (d3 : Nat) (d4 : Nat) (w : Nat) (wa : Nat) (ca : Nat) (cb : Nat) (r : Nat) (ra : Nat) (u : Nat) (t : AF) (so : AF) (st : AF) (sh : AF) (fw : AF) (fc : AF) (fr : AF) (fu : AF) (off : Int32) (bx : Int32) (y : Int32) : Ct E yX0_runsOf wsX0_runsOf ({ frames := 2, cells := 0, slots := 0, locals := 43 }) [.ref c, .int y] [(c, .inr (0, [.ref d, .ref w, .ref ca, .ref r, .ref u, .int off])), (d, .inr (2, [.ref d1, .ref d2, .ref d3, .ref d4, .int bx])), (d1, .inl (E.2.2, 256, .inl t)), (d2, .inl (E.2.2, 96, .inl so)), (d3, .inl (E.2.2, 6, .inl st)), (d4, .inl (E.2.2, 6, .inl sh)), (w, .inr (1, [.ref wa])), (wa, .inl (E.2.2, 96, .inl fw)), (ca, .inr (1, [.ref cb])), (cb, .inl (E.2.2, 96, .inl fc)), (r, .inr (1, [.ref ra])), (ra, .inl (E.2.2, 96, .inl fr)), (u, .inl (E.2.2, 6, .inl fu))] (some (.int (sRn fr y))) [(c, .inr (0, [.ref d, .ref w, .ref ca, .ref r, .ref u, .int off])), (d, .inr (2, [.ref d1, .ref d2, .ref d3, .ref d4, .int bx])), (d1, .inl (E.2.2, 256, .inl t)), (d2, .inl (E.2.2, 96, .inl so)), (d3, .inl (E.2.2, 6, .inl st)), (d4, .inl (E.2.2, 6, .inl sh)), (w, .inr (1, [.ref wa])), (wa, .inl (E.2.2, 96, .inl fw)), (ca, .inr (1, [.ref cb])), (cb, .inl (E.2.2, 96, .inl fc)), (r, .inr (1, [.ref ra])), (ra, .inl (E.2.2, 96, .inl fr)), (u, .inl (E.2.2, 6, .inl fu))] := by
  refine Ct.of (cc := cX0_runsOf) (maxL := 2) (ret := (some .int)) (own := RX0) (L := [(0, .ref c), (1, .int y)]) (by decide) rfl rfl rfl (Nat.le_of_ble_eq_true rfl) rfl ?_
  intro X F hQ
  have i0 : ∀ w ∈ u_ws RX0 TX0 6, w ∈ wsX0_runsOf := gsub [13, 14, 15, 16, 17, 18] rfl
  have i1 : ∀ w ∈ u_ws RX1 TX1 1, w ∈ wsX0_runsOf := gsub [19] rfl
  refine g_aload_n F dX0_runsOf_0 rfl 0 rfl ?_
  refine g_get F dX0_runsOf_1 0 rfl rfl i0 3 (by decide) rfl (List.mem_of_getElem? (i := 1) rfl) ?_
  refine g_bipush (v := 11) F dX0_runsOf_4 (by decide) ?_
  refine g_iload_n F dX0_runsOf_6 rfl 1 rfl ?_
  refine g_callV (ws' := [(c, .inr (0, [.ref d, .ref w, .ref ca, .ref r, .ref u, .int off])), (d, .inr (2, [.ref d1, .ref d2, .ref d3, .ref d4, .int bx])), (d1, .inl (E.2.2, 256, .inl t)), (d2, .inl (E.2.2, 96, .inl so)), (d3, .inl (E.2.2, 6, .inl st)), (d4, .inl (E.2.2, 6, .inl sh)), (w, .inr (1, [.ref wa])), (wa, .inl (E.2.2, 96, .inl fw)), (ca, .inr (1, [.ref cb])), (cb, .inl (E.2.2, 96, .inl fc)), (r, .inr (1, [.ref ra])), (ra, .inl (E.2.2, 96, .inl fr)), (u, .inl (E.2.2, 6, .inl fu))]) F dX0_runsOf_7 (c_X1_at E r ra fr 11 y ) rfl gX0_runsOf_X1_at 10 rfl rfl kV_X1_at ⟨by decide, by decide⟩ [10, 11] rfl (by decide +kernel) rfl rfl (Nat.le_of_ble_eq_true rfl) ⟨by decide, by decide⟩ ?_
  refine g_iconst (v := 1) F dX0_runsOf_10 (by decide) ?_
  refine g_iadd F dX0_runsOf_11 ?_
  exact g_iret F hQ dX0_runsOf_12 (rfl) (rfl)

set_option maxHeartbeats 4000000 in
set_option maxRecDepth 100000 in
theorem c_X0_colourOfRun (E : gE) (c : Nat) (d : Nat) (d1 : Nat) (d2 : Nat) (d3 : Nat) (d4 : Nat) (w : Nat) (wa : Nat) (ca : Nat) (cb : Nat) (r : Nat) (ra : Nat) (u : Nat) (t : AF) (so : AF) (st : AF) (sh : AF) (fw : AF) (fc : AF) (fr : AF) (fu : AF) (off : Int32) (bx : Int32) (y : Int32) (pl : Int32) : Ct E yX0_colourOfRun wsX0_colourOfRun ({ frames := 2, cells := 0, slots := 0, locals := 43 }) [.ref c, .int y, .int pl] [(c, .inr (0, [.ref d, .ref w, .ref ca, .ref r, .ref u, .int off])), (d, .inr (2, [.ref d1, .ref d2, .ref d3, .ref d4, .int bx])), (d1, .inl (E.2.2, 256, .inl t)), (d2, .inl (E.2.2, 96, .inl so)), (d3, .inl (E.2.2, 6, .inl st)), (d4, .inl (E.2.2, 6, .inl sh)), (w, .inr (1, [.ref wa])), (wa, .inl (E.2.2, 96, .inl fw)), (ca, .inr (1, [.ref cb])), (cb, .inl (E.2.2, 96, .inl fc)), (r, .inr (1, [.ref ra])), (ra, .inl (E.2.2, 96, .inl fr)), (u, .inl (E.2.2, 6, .inl fu))] (some (.int (sCoR fr fw y pl 12 0))) [(c, .inr (0, [.ref d, .ref w, .ref ca, .ref r, .ref u, .int off])), (d, .inr (2, [.ref d1, .ref d2, .ref d3, .ref d4, .int bx])), (d1, .inl (E.2.2, 256, .inl t)), (d2, .inl (E.2.2, 96, .inl so)), (d3, .inl (E.2.2, 6, .inl st)), (d4, .inl (E.2.2, 6, .inl sh)), (w, .inr (1, [.ref wa])), (wa, .inl (E.2.2, 96, .inl fw)), (ca, .inr (1, [.ref cb])), (cb, .inl (E.2.2, 96, .inl fc)), (r, .inr (1, [.ref ra])), (ra, .inl (E.2.2, 96, .inl fr)), (u, .inl (E.2.2, 6, .inl fu))] := by
  refine Ct.of (cc := cX0_colourOfRun) (maxL := 4) (ret := (some .int)) (own := RX0) (L := [(0, .ref c), (1, .int y), (2, .int pl)]) (by decide) rfl rfl rfl (Nat.le_of_ble_eq_true rfl) rfl ?_
  intro X F hQ
  have i0 : ∀ w ∈ u_ws RX0 TX0 6, w ∈ wsX0_colourOfRun := gsub [14, 15, 16, 17, 18, 19] rfl
  have i1 : ∀ w ∈ u_ws RX1 TX1 1, w ∈ wsX0_colourOfRun := gsub [20] rfl
  refine g_iconst (v := 0) F dX0_colourOfRun_0 (by decide) ?_
  refine g_istore_n (L' := [(0, .ref c), (1, .int y), (2, .int pl), (3, .int 0)]) F dX0_colourOfRun_1 rfl (by decide) [1, 2, 3, 0] rfl ?_
  have lp2 : ∀ (n2 i2 : Nat), i2 + n2 = 12 → (sCoR fr fw y pl (12 - i2) i2 = sCoR fr fw y pl 12 0) → G E X 0 0 2 [(0, .ref c), (1, .int y), (2, .int pl), (3, .int (nI i2))] [] [(c, .inr (0, [.ref d, .ref w, .ref ca, .ref r, .ref u, .int off])), (d, .inr (2, [.ref d1, .ref d2, .ref d3, .ref d4, .int bx])), (d1, .inl (E.2.2, 256, .inl t)), (d2, .inl (E.2.2, 96, .inl so)), (d3, .inl (E.2.2, 6, .inl st)), (d4, .inl (E.2.2, 6, .inl sh)), (w, .inr (1, [.ref wa])), (wa, .inl (E.2.2, 96, .inl fw)), (ca, .inr (1, [.ref cb])), (cb, .inl (E.2.2, 96, .inl fc)), (r, .inr (1, [.ref ra])), (ra, .inl (E.2.2, 96, .inl fr)), (u, .inl (E.2.2, 6, .inl fu))] := by
    intro n2
    induction n2 with
    | zero =>
      intro i2 hi2  hc
      have he2 : i2 = 12 := by omega
      rw [he2] at hc
      rw [he2]
      refine g_iload_n F dX0_colourOfRun_2 rfl 3 rfl ?_
      refine g_bipush (v := 12) F dX0_colourOfRun_3 (by decide) ?_
      refine g_icmp_ge_t (tgt := 37) F dX0_colourOfRun_5 (by decide) (by decide) ?_
      refine g_iconst (v := (-1)) F dX0_colourOfRun_37 (by decide) ?_
      exact g_iret F hQ dX0_colourOfRun_38 (hc) (rfl)
    | succ n2 ih2 =>
      intro i2 hi2  hc
      have hl2 : i2 < 12 := by omega
      rw [show 12 - i2 = (12 - (i2 + 1)) + 1 by omega, sCoR] at hc
      refine g_iload_n F dX0_colourOfRun_2 rfl 3 rfl ?_
      refine g_bipush (v := 12) F dX0_colourOfRun_3 (by decide) ?_
      refine g_icmp_ge_f (tgt := 37) F dX0_colourOfRun_5 (by decide) (nle_nI (n := 12) hl2 (by omega)) ?_
      refine g_aload_n F dX0_colourOfRun_8 rfl 0 rfl ?_
      refine g_get F dX0_colourOfRun_9 0 rfl rfl i0 3 (by decide) rfl (List.mem_of_getElem? (i := 1) rfl) ?_
      refine g_iload_n F dX0_colourOfRun_12 rfl 3 rfl ?_
      refine g_iload_n F dX0_colourOfRun_13 rfl 1 rfl ?_
      refine g_callV (ws' := [(c, .inr (0, [.ref d, .ref w, .ref ca, .ref r, .ref u, .int off])), (d, .inr (2, [.ref d1, .ref d2, .ref d3, .ref d4, .int bx])), (d1, .inl (E.2.2, 256, .inl t)), (d2, .inl (E.2.2, 96, .inl so)), (d3, .inl (E.2.2, 6, .inl st)), (d4, .inl (E.2.2, 6, .inl sh)), (w, .inr (1, [.ref wa])), (wa, .inl (E.2.2, 96, .inl fw)), (ca, .inr (1, [.ref cb])), (cb, .inl (E.2.2, 96, .inl fc)), (r, .inr (1, [.ref ra])), (ra, .inl (E.2.2, 96, .inl fr)), (u, .inl (E.2.2, 6, .inl fu))]) F dX0_colourOfRun_14 (c_X1_at E r ra fr (nI i2) y ) rfl gX0_colourOfRun_X1_at 10 rfl rfl kV_X1_at ⟨by decide, by decide⟩ [10, 11] rfl (by decide +kernel) rfl rfl (Nat.le_of_ble_eq_true rfl) ⟨by decide, by decide⟩ ?_
      refine g_iload_n F dX0_colourOfRun_17 rfl 2 rfl ?_
      refine g_icmp_ne (tgt := 31) F dX0_colourOfRun_18 (by decide) (fun k18 => ?_) (fun k18 => ?_)
      · skip
        refine g_iinc (L' := [(0, .ref c), (1, .int y), (2, .int pl), (3, .int (nI (i2 + 1)))]) (v := nI (i2 + 1)) F dX0_colourOfRun_31 3 rfl (nI_1 _) (by decide) [1, 2, 3, 0] rfl ?_
        refine g_goto (tgt := 2) F dX0_colourOfRun_34 (by decide) ?_
        exact ih2 (i2 + 1) (by omega) (by rw [if_pos k18] at hc; exact hc)
      · skip
        refine g_aload_n F dX0_colourOfRun_21 rfl 0 rfl ?_
        refine g_get F dX0_colourOfRun_22 0 rfl rfl i0 1 (by decide) rfl (List.mem_of_getElem? (i := 2) rfl) ?_
        refine g_iload_n F dX0_colourOfRun_25 rfl 3 rfl ?_
        refine g_iload_n F dX0_colourOfRun_26 rfl 1 rfl ?_
        refine g_callV (ws' := [(c, .inr (0, [.ref d, .ref w, .ref ca, .ref r, .ref u, .int off])), (d, .inr (2, [.ref d1, .ref d2, .ref d3, .ref d4, .int bx])), (d1, .inl (E.2.2, 256, .inl t)), (d2, .inl (E.2.2, 96, .inl so)), (d3, .inl (E.2.2, 6, .inl st)), (d4, .inl (E.2.2, 6, .inl sh)), (w, .inr (1, [.ref wa])), (wa, .inl (E.2.2, 96, .inl fw)), (ca, .inr (1, [.ref cb])), (cb, .inl (E.2.2, 96, .inl fc)), (r, .inr (1, [.ref ra])), (ra, .inl (E.2.2, 96, .inl fr)), (u, .inl (E.2.2, 6, .inl fu))]) F dX0_colourOfRun_27 (c_X1_at E w wa fw (nI i2) y ) rfl gX0_colourOfRun_X1_at 6 rfl rfl kV_X1_at ⟨by decide, by decide⟩ [6, 7] rfl (by decide +kernel) rfl rfl (Nat.le_of_ble_eq_true rfl) ⟨by decide, by decide⟩ ?_
        exact g_iret F hQ dX0_colourOfRun_30 (by rw [if_neg k18] at hc; exact hc) (rfl)
  exact lp2 12 0 (by omega) rfl

set_option maxHeartbeats 4000000 in
set_option maxRecDepth 100000 in
theorem c_X0_lengthOfRun (E : gE) (c : Nat) (d : Nat) (d1 : Nat) (d2 : Nat) (d3 : Nat) (d4 : Nat) (w : Nat) (wa : Nat) (ca : Nat) (cb : Nat) (r : Nat) (ra : Nat) (u : Nat) (t : AF) (so : AF) (st : AF) (sh : AF) (fw : AF) (fc : AF) (fr : AF) (fu : AF) (off : Int32) (bx : Int32) (y : Int32) (pl : Int32) : Ct E yX0_lengthOfRun wsX0_lengthOfRun ({ frames := 2, cells := 0, slots := 0, locals := 43 }) [.ref c, .int y, .int pl] [(c, .inr (0, [.ref d, .ref w, .ref ca, .ref r, .ref u, .int off])), (d, .inr (2, [.ref d1, .ref d2, .ref d3, .ref d4, .int bx])), (d1, .inl (E.2.2, 256, .inl t)), (d2, .inl (E.2.2, 96, .inl so)), (d3, .inl (E.2.2, 6, .inl st)), (d4, .inl (E.2.2, 6, .inl sh)), (w, .inr (1, [.ref wa])), (wa, .inl (E.2.2, 96, .inl fw)), (ca, .inr (1, [.ref cb])), (cb, .inl (E.2.2, 96, .inl fc)), (r, .inr (1, [.ref ra])), (ra, .inl (E.2.2, 96, .inl fr)), (u, .inl (E.2.2, 6, .inl fu))] (some (.int (sLoR fr y pl 12))) [(c, .inr (0, [.ref d, .ref w, .ref ca, .ref r, .ref u, .int off])), (d, .inr (2, [.ref d1, .ref d2, .ref d3, .ref d4, .int bx])), (d1, .inl (E.2.2, 256, .inl t)), (d2, .inl (E.2.2, 96, .inl so)), (d3, .inl (E.2.2, 6, .inl st)), (d4, .inl (E.2.2, 6, .inl sh)), (w, .inr (1, [.ref wa])), (wa, .inl (E.2.2, 96, .inl fw)), (ca, .inr (1, [.ref cb])), (cb, .inl (E.2.2, 96, .inl fc)), (r, .inr (1, [.ref ra])), (ra, .inl (E.2.2, 96, .inl fr)), (u, .inl (E.2.2, 6, .inl fu))] := by
  refine Ct.of (cc := cX0_lengthOfRun) (maxL := 5) (ret := (some .int)) (own := RX0) (L := [(0, .ref c), (1, .int y), (2, .int pl)]) (by decide) rfl rfl rfl (Nat.le_of_ble_eq_true rfl) rfl ?_
  intro X F hQ
  have i0 : ∀ w ∈ u_ws RX0 TX0 6, w ∈ wsX0_lengthOfRun := gsub [13, 14, 15, 16, 17, 18] rfl
  have i1 : ∀ w ∈ u_ws RX1 TX1 1, w ∈ wsX0_lengthOfRun := gsub [19] rfl
  refine g_iconst (v := 0) F dX0_lengthOfRun_0 (by decide) ?_
  refine g_istore_n (L' := [(0, .ref c), (1, .int y), (2, .int pl), (3, .int 0)]) F dX0_lengthOfRun_1 rfl (by decide) [1, 2, 3, 0] rfl ?_
  refine g_iconst (v := 0) F dX0_lengthOfRun_2 (by decide) ?_
  refine g_istore (L' := [(0, .ref c), (1, .int y), (2, .int pl), (3, .int 0), (4, .int 0)]) F dX0_lengthOfRun_3 (by decide) [1, 2, 3, 4, 0] rfl ?_
  have lp5 : ∀ (n5 i5 : Nat), i5 + n5 = 12 → G E X 0 0 5 [(0, .ref c), (1, .int y), (2, .int pl), (3, .int (sLoR fr y pl i5)), (4, .int (nI i5))] [] [(c, .inr (0, [.ref d, .ref w, .ref ca, .ref r, .ref u, .int off])), (d, .inr (2, [.ref d1, .ref d2, .ref d3, .ref d4, .int bx])), (d1, .inl (E.2.2, 256, .inl t)), (d2, .inl (E.2.2, 96, .inl so)), (d3, .inl (E.2.2, 6, .inl st)), (d4, .inl (E.2.2, 6, .inl sh)), (w, .inr (1, [.ref wa])), (wa, .inl (E.2.2, 96, .inl fw)), (ca, .inr (1, [.ref cb])), (cb, .inl (E.2.2, 96, .inl fc)), (r, .inr (1, [.ref ra])), (ra, .inl (E.2.2, 96, .inl fr)), (u, .inl (E.2.2, 6, .inl fu))] := by
    intro n5
    induction n5 with
    | zero =>
      intro i5 hi5
      have he5 : i5 = 12 := by omega
      rw [he5]
      refine g_iload F dX0_lengthOfRun_5 4 rfl ?_
      refine g_bipush (v := 12) F dX0_lengthOfRun_7 (by decide) ?_
      refine g_icmp_ge_t (tgt := 35) F dX0_lengthOfRun_9 (by decide) (by decide) ?_
      refine g_iload_n F dX0_lengthOfRun_35 rfl 3 rfl ?_
      exact g_iret F hQ dX0_lengthOfRun_36 (rfl) (rfl)
    | succ n5 ih5 =>
      intro i5 hi5
      have hl5 : i5 < 12 := by omega
      refine g_iload F dX0_lengthOfRun_5 4 rfl ?_
      refine g_bipush (v := 12) F dX0_lengthOfRun_7 (by decide) ?_
      refine g_icmp_ge_f (tgt := 35) F dX0_lengthOfRun_9 (by decide) (nle_nI (n := 12) hl5 (by omega)) ?_
      refine g_aload_n F dX0_lengthOfRun_12 rfl 0 rfl ?_
      refine g_get F dX0_lengthOfRun_13 0 rfl rfl i0 3 (by decide) rfl (List.mem_of_getElem? (i := 1) rfl) ?_
      refine g_iload F dX0_lengthOfRun_16 4 rfl ?_
      refine g_iload_n F dX0_lengthOfRun_18 rfl 1 rfl ?_
      refine g_callV (ws' := [(c, .inr (0, [.ref d, .ref w, .ref ca, .ref r, .ref u, .int off])), (d, .inr (2, [.ref d1, .ref d2, .ref d3, .ref d4, .int bx])), (d1, .inl (E.2.2, 256, .inl t)), (d2, .inl (E.2.2, 96, .inl so)), (d3, .inl (E.2.2, 6, .inl st)), (d4, .inl (E.2.2, 6, .inl sh)), (w, .inr (1, [.ref wa])), (wa, .inl (E.2.2, 96, .inl fw)), (ca, .inr (1, [.ref cb])), (cb, .inl (E.2.2, 96, .inl fc)), (r, .inr (1, [.ref ra])), (ra, .inl (E.2.2, 96, .inl fr)), (u, .inl (E.2.2, 6, .inl fu))]) F dX0_lengthOfRun_19 (c_X1_at E r ra fr (nI i5) y ) rfl gX0_lengthOfRun_X1_at 10 rfl rfl kV_X1_at ⟨by decide, by decide⟩ [10, 11] rfl (by decide +kernel) rfl rfl (Nat.le_of_ble_eq_true rfl) ⟨by decide, by decide⟩ ?_
      refine g_iload_n F dX0_lengthOfRun_22 rfl 2 rfl ?_
      refine g_icmp_ne (tgt := 29) F dX0_lengthOfRun_23 (by decide) (fun k23 => ?_) (fun k23 => ?_)
      · skip
        refine g_iinc (L' := [(0, .ref c), (1, .int y), (2, .int pl), (3, .int (sLoR fr y pl i5)), (4, .int (nI (i5 + 1)))]) (v := nI (i5 + 1)) F dX0_lengthOfRun_29 4 rfl (nI_1 _) (by decide) [1, 2, 3, 4, 0] rfl ?_
        refine g_goto (tgt := 5) F dX0_lengthOfRun_32 (by decide) ?_
        have q := ih5 (i5 + 1) (by omega)
        simp only [sLoR, k23, if_true, if_false, not_true_eq_false, not_false_eq_true] at q
        exact q
      · skip
        refine g_iinc (L' := [(0, .ref c), (1, .int y), (2, .int pl), (3, .int ((sLoR fr y pl i5) + 1)), (4, .int (nI i5))]) (v := (sLoR fr y pl i5) + 1) F dX0_lengthOfRun_26 3 rfl (rfl) (by decide) [1, 2, 3, 0, 4] rfl ?_
        refine g_iinc (L' := [(0, .ref c), (1, .int y), (2, .int pl), (3, .int ((sLoR fr y pl i5) + 1)), (4, .int (nI (i5 + 1)))]) (v := nI (i5 + 1)) F dX0_lengthOfRun_29 4 rfl (nI_1 _) (by decide) [1, 2, 3, 4, 0] rfl ?_
        refine g_goto (tgt := 5) F dX0_lengthOfRun_32 (by decide) ?_
        have q := ih5 (i5 + 1) (by omega)
        simp only [sLoR, k23, if_true, if_false, not_true_eq_false, not_false_eq_true] at q
        exact q
  exact lp5 12 0 (by omega)

set_option maxHeartbeats 4000000 in
set_option maxRecDepth 100000 in
theorem c_X0_isAsAbove (E : gE) (c : Nat) (d : Nat) (d1 : Nat) (d2 : Nat) (d3 : Nat) (d4 : Nat) (w : Nat) (wa : Nat) (ca : Nat) (cb : Nat) (r : Nat) (ra : Nat) (u : Nat) (t : AF) (so : AF) (st : AF) (sh : AF) (fw : AF) (fc : AF) (fr : AF) (fu : AF) (off : Int32) (bx : Int32) (y : Int32) : Ct E yX0_isAsAbove wsX0_isAsAbove ({ frames := 2, cells := 0, slots := 0, locals := 43 }) [.ref c, .int y] [(c, .inr (0, [.ref d, .ref w, .ref ca, .ref r, .ref u, .int off])), (d, .inr (2, [.ref d1, .ref d2, .ref d3, .ref d4, .int bx])), (d1, .inl (E.2.2, 256, .inl t)), (d2, .inl (E.2.2, 96, .inl so)), (d3, .inl (E.2.2, 6, .inl st)), (d4, .inl (E.2.2, 6, .inl sh)), (w, .inr (1, [.ref wa])), (wa, .inl (E.2.2, 96, .inl fw)), (ca, .inr (1, [.ref cb])), (cb, .inl (E.2.2, 96, .inl fc)), (r, .inr (1, [.ref ra])), (ra, .inl (E.2.2, 96, .inl fr)), (u, .inl (E.2.2, 6, .inl fu))] (some (.int (sAsAb fw y))) [(c, .inr (0, [.ref d, .ref w, .ref ca, .ref r, .ref u, .int off])), (d, .inr (2, [.ref d1, .ref d2, .ref d3, .ref d4, .int bx])), (d1, .inl (E.2.2, 256, .inl t)), (d2, .inl (E.2.2, 96, .inl so)), (d3, .inl (E.2.2, 6, .inl st)), (d4, .inl (E.2.2, 6, .inl sh)), (w, .inr (1, [.ref wa])), (wa, .inl (E.2.2, 96, .inl fw)), (ca, .inr (1, [.ref cb])), (cb, .inl (E.2.2, 96, .inl fc)), (r, .inr (1, [.ref ra])), (ra, .inl (E.2.2, 96, .inl fr)), (u, .inl (E.2.2, 6, .inl fu))] := by
  refine Ct.of (cc := cX0_isAsAbove) (maxL := 3) (ret := (some .boolean)) (own := RX0) (L := [(0, .ref c), (1, .int y)]) (by decide) rfl rfl rfl (Nat.le_of_ble_eq_true rfl) rfl ?_
  intro X F hQ
  have i0 : ∀ w ∈ u_ws RX0 TX0 6, w ∈ wsX0_isAsAbove := gsub [13, 14, 15, 16, 17, 18] rfl
  have i1 : ∀ w ∈ u_ws RX1 TX1 1, w ∈ wsX0_isAsAbove := gsub [19] rfl
  refine g_iload_n F dX0_isAsAbove_0 rfl 1 rfl ?_
  refine g_if_gt (tgt := 6) F dX0_isAsAbove_1 (by decide) (fun k1 => ?_) (fun k1 => ?_)
  · skip
    refine g_iconst (v := 0) F dX0_isAsAbove_6 (by decide) ?_
    refine g_istore_n (L' := [(0, .ref c), (1, .int y), (2, .int 0)]) F dX0_isAsAbove_7 rfl (by decide) [1, 2, 0] rfl ?_
    have lp8 : ∀ (n8 i8 : Nat), i8 + n8 = 12 → (∀ x, x < i8 → sGAt fw (nI x) y = sGAt fw (nI x) (y - 1)) → G E X 0 0 8 [(0, .ref c), (1, .int y), (2, .int (nI i8))] [] [(c, .inr (0, [.ref d, .ref w, .ref ca, .ref r, .ref u, .int off])), (d, .inr (2, [.ref d1, .ref d2, .ref d3, .ref d4, .int bx])), (d1, .inl (E.2.2, 256, .inl t)), (d2, .inl (E.2.2, 96, .inl so)), (d3, .inl (E.2.2, 6, .inl st)), (d4, .inl (E.2.2, 6, .inl sh)), (w, .inr (1, [.ref wa])), (wa, .inl (E.2.2, 96, .inl fw)), (ca, .inr (1, [.ref cb])), (cb, .inl (E.2.2, 96, .inl fc)), (r, .inr (1, [.ref ra])), (ra, .inl (E.2.2, 96, .inl fr)), (u, .inl (E.2.2, 6, .inl fu))] := by
      intro n8
      induction n8 with
      | zero =>
        intro i8 hi8  ha
        have he8 : i8 = 12 := by omega
        rw [he8] at ha
        rw [he8]
        refine g_iload_n F dX0_isAsAbove_8 rfl 2 rfl ?_
        refine g_bipush (v := 12) F dX0_isAsAbove_9 (by decide) ?_
        refine g_icmp_ge_t (tgt := 45) F dX0_isAsAbove_11 (by decide) (by decide) ?_
        refine g_iconst (v := 1) F dX0_isAsAbove_45 (by decide) ?_
        exact g_zret F hQ dX0_isAsAbove_46 (Or.inr rfl) (by rw [sAsAb, if_pos k1, pIf_pos ha]) (rfl)
      | succ n8 ih8 =>
        intro i8 hi8  ha
        have hl8 : i8 < 12 := by omega
        refine g_iload_n F dX0_isAsAbove_8 rfl 2 rfl ?_
        refine g_bipush (v := 12) F dX0_isAsAbove_9 (by decide) ?_
        refine g_icmp_ge_f (tgt := 45) F dX0_isAsAbove_11 (by decide) (nle_nI (n := 12) hl8 (by omega)) ?_
        refine g_aload_n F dX0_isAsAbove_14 rfl 0 rfl ?_
        refine g_get F dX0_isAsAbove_15 0 rfl rfl i0 1 (by decide) rfl (List.mem_of_getElem? (i := 1) rfl) ?_
        refine g_iload_n F dX0_isAsAbove_18 rfl 2 rfl ?_
        refine g_iload_n F dX0_isAsAbove_19 rfl 1 rfl ?_
        refine g_callV (ws' := [(c, .inr (0, [.ref d, .ref w, .ref ca, .ref r, .ref u, .int off])), (d, .inr (2, [.ref d1, .ref d2, .ref d3, .ref d4, .int bx])), (d1, .inl (E.2.2, 256, .inl t)), (d2, .inl (E.2.2, 96, .inl so)), (d3, .inl (E.2.2, 6, .inl st)), (d4, .inl (E.2.2, 6, .inl sh)), (w, .inr (1, [.ref wa])), (wa, .inl (E.2.2, 96, .inl fw)), (ca, .inr (1, [.ref cb])), (cb, .inl (E.2.2, 96, .inl fc)), (r, .inr (1, [.ref ra])), (ra, .inl (E.2.2, 96, .inl fr)), (u, .inl (E.2.2, 6, .inl fu))]) F dX0_isAsAbove_20 (c_X1_at E w wa fw (nI i8) y ) rfl gX0_isAsAbove_X1_at 6 rfl rfl kV_X1_at ⟨by decide, by decide⟩ [6, 7] rfl (by decide +kernel) rfl rfl (Nat.le_of_ble_eq_true rfl) ⟨by decide, by decide⟩ ?_
        refine g_aload_n F dX0_isAsAbove_23 rfl 0 rfl ?_
        refine g_get F dX0_isAsAbove_24 0 rfl rfl i0 1 (by decide) rfl (List.mem_of_getElem? (i := 1) rfl) ?_
        refine g_iload_n F dX0_isAsAbove_27 rfl 2 rfl ?_
        refine g_iload_n F dX0_isAsAbove_28 rfl 1 rfl ?_
        refine g_iconst (v := 1) F dX0_isAsAbove_29 (by decide) ?_
        refine g_isub F dX0_isAsAbove_30 ?_
        refine g_callV (ws' := [(c, .inr (0, [.ref d, .ref w, .ref ca, .ref r, .ref u, .int off])), (d, .inr (2, [.ref d1, .ref d2, .ref d3, .ref d4, .int bx])), (d1, .inl (E.2.2, 256, .inl t)), (d2, .inl (E.2.2, 96, .inl so)), (d3, .inl (E.2.2, 6, .inl st)), (d4, .inl (E.2.2, 6, .inl sh)), (w, .inr (1, [.ref wa])), (wa, .inl (E.2.2, 96, .inl fw)), (ca, .inr (1, [.ref cb])), (cb, .inl (E.2.2, 96, .inl fc)), (r, .inr (1, [.ref ra])), (ra, .inl (E.2.2, 96, .inl fr)), (u, .inl (E.2.2, 6, .inl fu))]) F dX0_isAsAbove_31 (c_X1_at E w wa fw (nI i8) (y - 1) ) rfl gX0_isAsAbove_X1_at 6 rfl rfl kV_X1_at ⟨by decide, by decide⟩ [6, 7] rfl (by decide +kernel) rfl rfl (Nat.le_of_ble_eq_true rfl) ⟨by decide, by decide⟩ ?_
        refine g_icmp_eq (tgt := 39) F dX0_isAsAbove_34 (by decide) (fun k34 => ?_) (fun k34 => ?_)
        · skip
          refine g_iinc (L' := [(0, .ref c), (1, .int y), (2, .int (nI (i8 + 1)))]) (v := nI (i8 + 1)) F dX0_isAsAbove_39 2 rfl (nI_1 _) (by decide) [1, 2, 0] rfl ?_
          refine g_goto (tgt := 8) F dX0_isAsAbove_42 (by decide) ?_
          exact ih8 (i8 + 1) (by omega) (lt_s ha k34)
        · skip
          refine g_iconst (v := 0) F dX0_isAsAbove_37 (by decide) ?_
          exact g_zret F hQ dX0_isAsAbove_38 (Or.inl rfl) (by rw [sAsAb, if_pos k1, pIf_neg (fun h => k34 (h _ hl8))]) (rfl)
    exact lp8 12 0 (by omega) (fun x hx => absurd hx (Nat.not_lt_zero x))
  · skip
    refine g_iconst (v := 0) F dX0_isAsAbove_4 (by decide) ?_
    exact g_zret F hQ dX0_isAsAbove_5 (Or.inl rfl) (by rw [sAsAb, if_neg k1]) (rfl)

set_option maxHeartbeats 4000000 in
set_option maxRecDepth 100000 in
theorem c_X0_knotsOf (E : gE) (c : Nat) (d : Nat) (d1 : Nat) (d2 : Nat) (d3 : Nat) (d4 : Nat) (w : Nat) (wa : Nat) (ca : Nat) (cb : Nat) (r : Nat) (ra : Nat) (u : Nat) (t : AF) (so : AF) (st : AF) (sh : AF) (fw : AF) (fc : AF) (fr : AF) (fu : AF) (off : Int32) (bx : Int32) (y : Int32) (pr : Int32) : Ct E yX0_knotsOf wsX0_knotsOf ({ frames := 3, cells := 0, slots := 0, locals := 65 }) [.ref c, .int y, .int pr] [(c, .inr (0, [.ref d, .ref w, .ref ca, .ref r, .ref u, .int off])), (d, .inr (2, [.ref d1, .ref d2, .ref d3, .ref d4, .int bx])), (d1, .inl (E.2.2, 256, .inl t)), (d2, .inl (E.2.2, 96, .inl so)), (d3, .inl (E.2.2, 6, .inl st)), (d4, .inl (E.2.2, 6, .inl sh)), (w, .inr (1, [.ref wa])), (wa, .inl (E.2.2, 96, .inl fw)), (ca, .inr (1, [.ref cb])), (cb, .inl (E.2.2, 96, .inl fc)), (r, .inr (1, [.ref ra])), (ra, .inl (E.2.2, 96, .inl fr)), (u, .inl (E.2.2, 6, .inl fu))] (some (.int (sKn fw fr y pr))) [(c, .inr (0, [.ref d, .ref w, .ref ca, .ref r, .ref u, .int off])), (d, .inr (2, [.ref d1, .ref d2, .ref d3, .ref d4, .int bx])), (d1, .inl (E.2.2, 256, .inl t)), (d2, .inl (E.2.2, 96, .inl so)), (d3, .inl (E.2.2, 6, .inl st)), (d4, .inl (E.2.2, 6, .inl sh)), (w, .inr (1, [.ref wa])), (wa, .inl (E.2.2, 96, .inl fw)), (ca, .inr (1, [.ref cb])), (cb, .inl (E.2.2, 96, .inl fc)), (r, .inr (1, [.ref ra])), (ra, .inl (E.2.2, 96, .inl fr)), (u, .inl (E.2.2, 6, .inl fu))] := by
  refine Ct.of (cc := cX0_knotsOf) (maxL := 3) (ret := (some .int)) (own := RX0) (L := [(0, .ref c), (1, .int y), (2, .int pr)]) (by decide) rfl rfl rfl (Nat.le_of_ble_eq_true rfl) rfl ?_
  intro X F hQ
  have i0 : ∀ w ∈ u_ws RX0 TX0 6, w ∈ wsX0_knotsOf := gsub [23, 24, 25, 26, 27, 28] rfl
  have i1 : ∀ w ∈ u_ws RX1 TX1 1, w ∈ wsX0_knotsOf := gsub [29] rfl
  refine g_iload_n F dX0_knotsOf_0 rfl 2 rfl ?_
  refine g_if_eq (tgt := 16) F dX0_knotsOf_1 (by decide) (fun k1 => ?_) (fun k1 => ?_)
  · skip
    refine g_aload_n F dX0_knotsOf_16 rfl 0 rfl ?_
    refine g_iload_n F dX0_knotsOf_17 rfl 1 rfl ?_
    refine g_callV (ws' := [(c, .inr (0, [.ref d, .ref w, .ref ca, .ref r, .ref u, .int off])), (d, .inr (2, [.ref d1, .ref d2, .ref d3, .ref d4, .int bx])), (d1, .inl (E.2.2, 256, .inl t)), (d2, .inl (E.2.2, 96, .inl so)), (d3, .inl (E.2.2, 6, .inl st)), (d4, .inl (E.2.2, 6, .inl sh)), (w, .inr (1, [.ref wa])), (wa, .inl (E.2.2, 96, .inl fw)), (ca, .inr (1, [.ref cb])), (cb, .inl (E.2.2, 96, .inl fc)), (r, .inr (1, [.ref ra])), (ra, .inl (E.2.2, 96, .inl fr)), (u, .inl (E.2.2, 6, .inl fu))]) F dX0_knotsOf_18 (c_X0_runsOf E c d d1 d2 d3 d4 w wa ca cb r ra u t so st sh fw fc fr fu off bx y ) rfl gX0_knotsOf_X0_runsOf 0 rfl rfl kV_X0_runsOf ⟨by decide, by decide⟩ [0, 1, 2, 3, 4, 5, 6, 7, 8, 9, 10, 11, 12] rfl (by decide +kernel) rfl rfl (Nat.le_of_ble_eq_true rfl) ⟨by decide, by decide⟩ ?_
    exact g_iret F hQ dX0_knotsOf_21 (by simp [sKn, k1]) (rfl)
  · skip
    refine g_aload_n F dX0_knotsOf_4 rfl 0 rfl ?_
    refine g_iload_n F dX0_knotsOf_5 rfl 1 rfl ?_
    refine g_callV (ws' := [(c, .inr (0, [.ref d, .ref w, .ref ca, .ref r, .ref u, .int off])), (d, .inr (2, [.ref d1, .ref d2, .ref d3, .ref d4, .int bx])), (d1, .inl (E.2.2, 256, .inl t)), (d2, .inl (E.2.2, 96, .inl so)), (d3, .inl (E.2.2, 6, .inl st)), (d4, .inl (E.2.2, 6, .inl sh)), (w, .inr (1, [.ref wa])), (wa, .inl (E.2.2, 96, .inl fw)), (ca, .inr (1, [.ref cb])), (cb, .inl (E.2.2, 96, .inl fc)), (r, .inr (1, [.ref ra])), (ra, .inl (E.2.2, 96, .inl fr)), (u, .inl (E.2.2, 6, .inl fu))]) F dX0_knotsOf_6 (c_X0_isAsAbove E c d d1 d2 d3 d4 w wa ca cb r ra u t so st sh fw fc fr fu off bx y ) rfl gX0_knotsOf_X0_isAsAbove 0 rfl rfl kV_X0_isAsAbove ⟨by decide, by decide⟩ [0, 1, 2, 3, 4, 5, 6, 7, 8, 9, 10, 11, 12] rfl (by decide +kernel) rfl rfl (Nat.le_of_ble_eq_true rfl) ⟨by decide, by decide⟩ ?_
    refine g_if_eq (tgt := 16) F dX0_knotsOf_9 (by decide) (fun k9 => ?_) (fun k9 => ?_)
    · skip
      refine g_aload_n F dX0_knotsOf_16 rfl 0 rfl ?_
      refine g_iload_n F dX0_knotsOf_17 rfl 1 rfl ?_
      refine g_callV (ws' := [(c, .inr (0, [.ref d, .ref w, .ref ca, .ref r, .ref u, .int off])), (d, .inr (2, [.ref d1, .ref d2, .ref d3, .ref d4, .int bx])), (d1, .inl (E.2.2, 256, .inl t)), (d2, .inl (E.2.2, 96, .inl so)), (d3, .inl (E.2.2, 6, .inl st)), (d4, .inl (E.2.2, 6, .inl sh)), (w, .inr (1, [.ref wa])), (wa, .inl (E.2.2, 96, .inl fw)), (ca, .inr (1, [.ref cb])), (cb, .inl (E.2.2, 96, .inl fc)), (r, .inr (1, [.ref ra])), (ra, .inl (E.2.2, 96, .inl fr)), (u, .inl (E.2.2, 6, .inl fu))]) F dX0_knotsOf_18 (c_X0_runsOf E c d d1 d2 d3 d4 w wa ca cb r ra u t so st sh fw fc fr fu off bx y ) rfl gX0_knotsOf_X0_runsOf 0 rfl rfl kV_X0_runsOf ⟨by decide, by decide⟩ [0, 1, 2, 3, 4, 5, 6, 7, 8, 9, 10, 11, 12] rfl (by decide +kernel) rfl rfl (Nat.le_of_ble_eq_true rfl) ⟨by decide, by decide⟩ ?_
      exact g_iret F hQ dX0_knotsOf_21 (by simp [sKn, k1, k9]) (rfl)
    · skip
      refine g_iconst (v := 1) F dX0_knotsOf_12 (by decide) ?_
      refine g_goto (tgt := 21) F dX0_knotsOf_13 (by decide) ?_
      exact g_iret F hQ dX0_knotsOf_21 (by simp [sKn, k1, k9]) (rfl)

set_option maxHeartbeats 4000000 in
set_option maxRecDepth 100000 in
theorem c_X0_allKnots (E : gE) (c : Nat) (d : Nat) (d1 : Nat) (d2 : Nat) (d3 : Nat) (d4 : Nat) (w : Nat) (wa : Nat) (ca : Nat) (cb : Nat) (r : Nat) (ra : Nat) (u : Nat) (t : AF) (so : AF) (st : AF) (sh : AF) (fw : AF) (fc : AF) (fr : AF) (fu : AF) (off : Int32) (bx : Int32) (pr : Int32) : Ct E yX0_allKnots wsX0_allKnots ({ frames := 4, cells := 0, slots := 0, locals := 87 }) [.ref c, .int pr] [(c, .inr (0, [.ref d, .ref w, .ref ca, .ref r, .ref u, .int off])), (d, .inr (2, [.ref d1, .ref d2, .ref d3, .ref d4, .int bx])), (d1, .inl (E.2.2, 256, .inl t)), (d2, .inl (E.2.2, 96, .inl so)), (d3, .inl (E.2.2, 6, .inl st)), (d4, .inl (E.2.2, 6, .inl sh)), (w, .inr (1, [.ref wa])), (wa, .inl (E.2.2, 96, .inl fw)), (ca, .inr (1, [.ref cb])), (cb, .inl (E.2.2, 96, .inl fc)), (r, .inr (1, [.ref ra])), (ra, .inl (E.2.2, 96, .inl fr)), (u, .inl (E.2.2, 6, .inl fu))] (some (.int (sAK fw fr pr 8))) [(c, .inr (0, [.ref d, .ref w, .ref ca, .ref r, .ref u, .int off])), (d, .inr (2, [.ref d1, .ref d2, .ref d3, .ref d4, .int bx])), (d1, .inl (E.2.2, 256, .inl t)), (d2, .inl (E.2.2, 96, .inl so)), (d3, .inl (E.2.2, 6, .inl st)), (d4, .inl (E.2.2, 6, .inl sh)), (w, .inr (1, [.ref wa])), (wa, .inl (E.2.2, 96, .inl fw)), (ca, .inr (1, [.ref cb])), (cb, .inl (E.2.2, 96, .inl fc)), (r, .inr (1, [.ref ra])), (ra, .inl (E.2.2, 96, .inl fr)), (u, .inl (E.2.2, 6, .inl fu))] := by
  refine Ct.of (cc := cX0_allKnots) (maxL := 4) (ret := (some .int)) (own := RX0) (L := [(0, .ref c), (1, .int pr)]) (by decide) rfl rfl rfl (Nat.le_of_ble_eq_true rfl) rfl ?_
  intro X F hQ
  have i0 : ∀ w ∈ u_ws RX0 TX0 6, w ∈ wsX0_allKnots := gsub [27, 28, 29, 30, 31, 32] rfl
  have i1 : ∀ w ∈ u_ws RX1 TX1 1, w ∈ wsX0_allKnots := gsub [33] rfl
  refine g_iconst (v := 0) F dX0_allKnots_0 (by decide) ?_
  refine g_istore_n (L' := [(0, .ref c), (1, .int pr), (2, .int 0)]) F dX0_allKnots_1 rfl (by decide) [1, 2, 0] rfl ?_
  refine g_iconst (v := 0) F dX0_allKnots_2 (by decide) ?_
  refine g_istore_n (L' := [(0, .ref c), (1, .int pr), (2, .int 0), (3, .int 0)]) F dX0_allKnots_3 rfl (by decide) [1, 2, 3, 0] rfl ?_
  have lp4 : ∀ (n4 i4 : Nat), i4 + n4 = 8 → G E X 0 0 4 [(0, .ref c), (1, .int pr), (2, .int (sAK fw fr pr i4)), (3, .int (nI i4))] [] [(c, .inr (0, [.ref d, .ref w, .ref ca, .ref r, .ref u, .int off])), (d, .inr (2, [.ref d1, .ref d2, .ref d3, .ref d4, .int bx])), (d1, .inl (E.2.2, 256, .inl t)), (d2, .inl (E.2.2, 96, .inl so)), (d3, .inl (E.2.2, 6, .inl st)), (d4, .inl (E.2.2, 6, .inl sh)), (w, .inr (1, [.ref wa])), (wa, .inl (E.2.2, 96, .inl fw)), (ca, .inr (1, [.ref cb])), (cb, .inl (E.2.2, 96, .inl fc)), (r, .inr (1, [.ref ra])), (ra, .inl (E.2.2, 96, .inl fr)), (u, .inl (E.2.2, 6, .inl fu))] := by
    intro n4
    induction n4 with
    | zero =>
      intro i4 hi4
      have he4 : i4 = 8 := by omega
      rw [he4]
      refine g_iload_n F dX0_allKnots_4 rfl 3 rfl ?_
      refine g_bipush (v := 8) F dX0_allKnots_5 (by decide) ?_
      refine g_icmp_ge_t (tgt := 25) F dX0_allKnots_7 (by decide) (by decide) ?_
      refine g_iload_n F dX0_allKnots_25 rfl 2 rfl ?_
      exact g_iret F hQ dX0_allKnots_26 (rfl) (rfl)
    | succ n4 ih4 =>
      intro i4 hi4
      have hl4 : i4 < 8 := by omega
      refine g_iload_n F dX0_allKnots_4 rfl 3 rfl ?_
      refine g_bipush (v := 8) F dX0_allKnots_5 (by decide) ?_
      refine g_icmp_ge_f (tgt := 25) F dX0_allKnots_7 (by decide) (nle_nI (n := 8) hl4 (by omega)) ?_
      refine g_iload_n F dX0_allKnots_10 rfl 2 rfl ?_
      refine g_aload_n F dX0_allKnots_11 rfl 0 rfl ?_
      refine g_iload_n F dX0_allKnots_12 rfl 3 rfl ?_
      refine g_iload_n F dX0_allKnots_13 rfl 1 rfl ?_
      refine g_callV (ws' := [(c, .inr (0, [.ref d, .ref w, .ref ca, .ref r, .ref u, .int off])), (d, .inr (2, [.ref d1, .ref d2, .ref d3, .ref d4, .int bx])), (d1, .inl (E.2.2, 256, .inl t)), (d2, .inl (E.2.2, 96, .inl so)), (d3, .inl (E.2.2, 6, .inl st)), (d4, .inl (E.2.2, 6, .inl sh)), (w, .inr (1, [.ref wa])), (wa, .inl (E.2.2, 96, .inl fw)), (ca, .inr (1, [.ref cb])), (cb, .inl (E.2.2, 96, .inl fc)), (r, .inr (1, [.ref ra])), (ra, .inl (E.2.2, 96, .inl fr)), (u, .inl (E.2.2, 6, .inl fu))]) F dX0_allKnots_14 (c_X0_knotsOf E c d d1 d2 d3 d4 w wa ca cb r ra u t so st sh fw fc fr fu off bx (nI i4) pr ) rfl gX0_allKnots_X0_knotsOf 0 rfl rfl kV_X0_knotsOf ⟨by decide, by decide⟩ [0, 1, 2, 3, 4, 5, 6, 7, 8, 9, 10, 11, 12] rfl (by decide +kernel) rfl rfl (Nat.le_of_ble_eq_true rfl) ⟨by decide, by decide⟩ ?_
      refine g_iadd F dX0_allKnots_17 ?_
      refine g_istore_n (L' := [(0, .ref c), (1, .int pr), (2, .int ((sAK fw fr pr i4) + (sKn fw fr (nI i4) pr))), (3, .int (nI i4))]) F dX0_allKnots_18 rfl (by decide) [1, 2, 0, 3] rfl ?_
      refine g_iinc (L' := [(0, .ref c), (1, .int pr), (2, .int ((sAK fw fr pr i4) + (sKn fw fr (nI i4) pr))), (3, .int (nI (i4 + 1)))]) (v := nI (i4 + 1)) F dX0_allKnots_19 3 rfl (nI_1 _) (by decide) [1, 2, 3, 0] rfl ?_
      refine g_goto (tgt := 4) F dX0_allKnots_22 (by decide) ?_
      exact ih4 (i4 + 1) (by omega)
  exact lp4 8 0 (by omega)

set_option maxHeartbeats 4000000 in
set_option maxRecDepth 100000 in
theorem c_X0_digestFrom (E : gE) (c : Nat) (d : Nat) (d1 : Nat) (d2 : Nat) (d3 : Nat) (d4 : Nat) (w : Nat) (wa : Nat) (ca : Nat) (cb : Nat) (r : Nat) (ra : Nat) (u : Nat) (t : AF) (so : AF) (st : AF) (sh : AF) (fw : AF) (fc : AF) (fr : AF) (fu : AF) (off : Int32) (b : Nat) (z : Int64) (h6 : b ≤ 6) : Ct E yX0_digestFrom wsX0_digestFrom ({ frames := 3, cells := 0, slots := 0, locals := 69 }) [.ref c, .long z] [(c, .inr (0, [.ref d, .ref w, .ref ca, .ref r, .ref u, .int off])), (d, .inr (2, [.ref d1, .ref d2, .ref d3, .ref d4, .int (nI b)])), (d1, .inl (E.2.2, 256, .inl t)), (d2, .inl (E.2.2, 96, .inl so)), (d3, .inl (E.2.2, 6, .inl st)), (d4, .inl (E.2.2, 6, .inl sh)), (w, .inr (1, [.ref wa])), (wa, .inl (E.2.2, 96, .inl fw)), (ca, .inr (1, [.ref cb])), (cb, .inl (E.2.2, 96, .inl fc)), (r, .inr (1, [.ref ra])), (ra, .inl (E.2.2, 96, .inl fr)), (u, .inl (E.2.2, 6, .inl fu))] (some (.long (sDig 96 fw (sDig 6 sh z b) 96))) [(c, .inr (0, [.ref d, .ref w, .ref ca, .ref r, .ref u, .int off])), (d, .inr (2, [.ref d1, .ref d2, .ref d3, .ref d4, .int (nI b)])), (d1, .inl (E.2.2, 256, .inl t)), (d2, .inl (E.2.2, 96, .inl so)), (d3, .inl (E.2.2, 6, .inl st)), (d4, .inl (E.2.2, 6, .inl sh)), (w, .inr (1, [.ref wa])), (wa, .inl (E.2.2, 96, .inl fw)), (ca, .inr (1, [.ref cb])), (cb, .inl (E.2.2, 96, .inl fc)), (r, .inr (1, [.ref ra])), (ra, .inl (E.2.2, 96, .inl fr)), (u, .inl (E.2.2, 6, .inl fu))] := by
  refine Ct.of (cc := cX0_digestFrom) (maxL := 3) (ret := (some .long)) (own := RX0) (L := [(0, .ref c), (1, .long z)]) (by decide) rfl rfl rfl (Nat.le_of_ble_eq_true rfl) rfl ?_
  intro X F hQ
  have i0 : ∀ w ∈ u_ws RX0 TX0 6, w ∈ wsX0_digestFrom := gsub [23, 24, 25, 26, 27, 28] rfl
  have i1 : ∀ w ∈ u_ws RX1 TX1 1, w ∈ wsX0_digestFrom := gsub [34] rfl
  have i2 : ∀ w ∈ u_ws RX2 TX2 5, w ∈ wsX0_digestFrom := gsub [29, 30, 31, 32, 33] rfl
  refine g_aload_n F dX0_digestFrom_0 rfl 0 rfl ?_
  refine g_get F dX0_digestFrom_1 0 rfl rfl i0 1 (by decide) rfl (List.mem_of_getElem? (i := 1) rfl) ?_
  refine g_aload_n F dX0_digestFrom_4 rfl 0 rfl ?_
  refine g_get F dX0_digestFrom_5 0 rfl rfl i0 0 (by decide) rfl (List.mem_of_getElem? (i := 2) rfl) ?_
  refine g_lload_n F dX0_digestFrom_8 rfl 1 rfl ?_
  refine g_callV (ws' := [(c, .inr (0, [.ref d, .ref w, .ref ca, .ref r, .ref u, .int off])), (d, .inr (2, [.ref d1, .ref d2, .ref d3, .ref d4, .int (nI b)])), (d1, .inl (E.2.2, 256, .inl t)), (d2, .inl (E.2.2, 96, .inl so)), (d3, .inl (E.2.2, 6, .inl st)), (d4, .inl (E.2.2, 6, .inl sh)), (w, .inr (1, [.ref wa])), (wa, .inl (E.2.2, 96, .inl fw)), (ca, .inr (1, [.ref cb])), (cb, .inl (E.2.2, 96, .inl fc)), (r, .inr (1, [.ref ra])), (ra, .inl (E.2.2, 96, .inl fr)), (u, .inl (E.2.2, 6, .inl fu))]) F dX0_digestFrom_9 (c_X2_digestFrom E d d1 d2 d3 d4 t so st sh b z (by first | assumption | decide | omega)) rfl gX0_digestFrom_X2_digestFrom 1 rfl rfl kV_X2_digestFrom ⟨by decide, by decide⟩ [1, 2, 3, 4, 5] rfl (by decide +kernel) rfl rfl (Nat.le_of_ble_eq_true rfl) ⟨by decide, by decide⟩ ?_
  refine g_callV (ws' := [(c, .inr (0, [.ref d, .ref w, .ref ca, .ref r, .ref u, .int off])), (d, .inr (2, [.ref d1, .ref d2, .ref d3, .ref d4, .int (nI b)])), (d1, .inl (E.2.2, 256, .inl t)), (d2, .inl (E.2.2, 96, .inl so)), (d3, .inl (E.2.2, 6, .inl st)), (d4, .inl (E.2.2, 6, .inl sh)), (w, .inr (1, [.ref wa])), (wa, .inl (E.2.2, 96, .inl fw)), (ca, .inr (1, [.ref cb])), (cb, .inl (E.2.2, 96, .inl fc)), (r, .inr (1, [.ref ra])), (ra, .inl (E.2.2, 96, .inl fr)), (u, .inl (E.2.2, 6, .inl fu))]) F dX0_digestFrom_12 (c_X1_digestFrom E w wa fw (sDig 6 sh z b) ) rfl gX0_digestFrom_X1_digestFrom 6 rfl rfl kV_X1_digestFrom ⟨by decide, by decide⟩ [6, 7] rfl (by decide +kernel) rfl rfl (Nat.le_of_ble_eq_true rfl) ⟨by decide, by decide⟩ ?_
  exact g_lret F hQ dX0_digestFrom_15 (rfl) (rfl)

set_option maxHeartbeats 4000000 in
set_option maxRecDepth 100000 in
theorem c_X0_carryOn (E : gE) (c : Nat) (d : Nat) (d1 : Nat) (d2 : Nat) (d3 : Nat) (d4 : Nat) (w : Nat) (wa : Nat) (ca : Nat) (cb : Nat) (r : Nat) (ra : Nat) (u : Nat) (t : AF) (so : AF) (st : AF) (sh : AF) (fw : AF) (fc : AF) (fr : AF) (fu : AF) (off : Int32) (bx : Int32) (er : Int32) (x : Int32) (y : Int32) (ah : Int32) (way : Int32) : Ct E yX0_carryOn wsX0_carryOn ({ frames := 3, cells := 0, slots := 0, locals := 68 }) [.ref c, .int er, .int x, .int y, .int ah, .int way] [(c, .inr (0, [.ref d, .ref w, .ref ca, .ref r, .ref u, .int off])), (d, .inr (2, [.ref d1, .ref d2, .ref d3, .ref d4, .int bx])), (d1, .inl (E.2.2, 256, .inl t)), (d2, .inl (E.2.2, 96, .inl so)), (d3, .inl (E.2.2, 6, .inl st)), (d4, .inl (E.2.2, 6, .inl sh)), (w, .inr (1, [.ref wa])), (wa, .inl (E.2.2, 96, .inl fw)), (ca, .inr (1, [.ref cb])), (cb, .inl (E.2.2, 96, .inl fc)), (r, .inr (1, [.ref ra])), (ra, .inl (E.2.2, 96, .inl fr)), (u, .inl (E.2.2, 6, .inl fu))] none [(c, .inr (0, [.ref d, .ref w, .ref ca, .ref r, .ref u, .int off])), (d, .inr (2, [.ref d1, .ref d2, .ref d3, .ref d4, .int bx])), (d1, .inl (E.2.2, 256, .inl t)), (d2, .inl (E.2.2, 96, .inl so)), (d3, .inl (E.2.2, 6, .inl st)), (d4, .inl (E.2.2, 6, .inl sh)), (w, .inr (1, [.ref wa])), (wa, .inl (E.2.2, 96, .inl fw)), (ca, .inr (1, [.ref cb])), (cb, .inl (E.2.2, 96, .inl (sCarry fc er x y ah way))), (r, .inr (1, [.ref ra])), (ra, .inl (E.2.2, 96, .inl fr)), (u, .inl (E.2.2, 6, .inl fu))] := by
  refine Ct.of (cc := cX0_carryOn) (maxL := 9) (ret := none) (own := RX0) (L := [(0, .ref c), (1, .int er), (2, .int x), (3, .int y), (4, .int ah), (5, .int way)]) (by decide) rfl rfl rfl (Nat.le_of_ble_eq_true rfl) rfl ?_
  intro X F hQ
  have i0 : ∀ w ∈ u_ws RX0 TX0 6, w ∈ wsX0_carryOn := gsub [23, 24, 25, 26, 27, 28] rfl
  have i1 : ∀ w ∈ u_ws RX1 TX1 1, w ∈ wsX0_carryOn := gsub [29] rfl
  refine g_iload F dX0_carryOn_0 5 rfl ?_
  refine g_iconst (v := 1) F dX0_carryOn_2 (by decide) ?_
  refine g_icmp_ne (tgt := 19) F dX0_carryOn_3 (by decide) (fun k3 => ?_) (fun k3 => ?_)
  · skip
    refine g_iload F dX0_carryOn_19 5 rfl ?_
    refine g_iconst (v := 2) F dX0_carryOn_21 (by decide) ?_
    refine g_icmp_ne (tgt := 117) F dX0_carryOn_22 (by decide) (fun k22 => ?_) (fun k22 => ?_)
    · skip
      exact g_vret F hQ dX0_carryOn_117 (by first | simp [sCarry, sCar1, sCar2, k3, k22] | (simp_all [sCarry, sCar1, sCar2]))
    · skip
      refine g_iload_n F dX0_carryOn_25 rfl 1 rfl ?_
      refine g_bipush (v := 7) F dX0_carryOn_26 (by decide) ?_
      refine g_imul F dX0_carryOn_28 ?_
      refine g_bipush (v := 16) F dX0_carryOn_29 (by decide) ?_
      refine g_idiv F dX0_carryOn_31 (by decide) ?_
      refine g_istore (L' := [(0, .ref c), (1, .int er), (2, .int x), (3, .int y), (4, .int ah), (5, .int way), (6, .int ((er * 7) / 16))]) F dX0_carryOn_32 (by decide) [1, 2, 3, 4, 5, 6, 0] rfl ?_
      refine g_iload_n F dX0_carryOn_34 rfl 1 rfl ?_
      refine g_iconst (v := 3) F dX0_carryOn_35 (by decide) ?_
      refine g_imul F dX0_carryOn_36 ?_
      refine g_bipush (v := 16) F dX0_carryOn_37 (by decide) ?_
      refine g_idiv F dX0_carryOn_39 (by decide) ?_
      refine g_istore (L' := [(0, .ref c), (1, .int er), (2, .int x), (3, .int y), (4, .int ah), (5, .int way), (6, .int ((er * 7) / 16)), (7, .int ((er * 3) / 16))]) F dX0_carryOn_40 (by decide) [1, 2, 3, 4, 5, 6, 7, 0] rfl ?_
      refine g_iload_n F dX0_carryOn_42 rfl 1 rfl ?_
      refine g_iconst (v := 5) F dX0_carryOn_43 (by decide) ?_
      refine g_imul F dX0_carryOn_44 ?_
      refine g_bipush (v := 16) F dX0_carryOn_45 (by decide) ?_
      refine g_idiv F dX0_carryOn_47 (by decide) ?_
      refine g_istore (L' := [(0, .ref c), (1, .int er), (2, .int x), (3, .int y), (4, .int ah), (5, .int way), (6, .int ((er * 7) / 16)), (7, .int ((er * 3) / 16)), (8, .int ((er * 5) / 16))]) F dX0_carryOn_48 (by decide) [1, 2, 3, 4, 5, 6, 7, 8, 0] rfl ?_
      refine g_aload_n F dX0_carryOn_50 rfl 0 rfl ?_
      refine g_get F dX0_carryOn_51 0 rfl rfl i0 2 (by decide) rfl (List.mem_of_getElem? (i := 1) rfl) ?_
      refine g_iload_n F dX0_carryOn_54 rfl 2 rfl ?_
      refine g_iload F dX0_carryOn_55 4 rfl ?_
      refine g_iadd F dX0_carryOn_57 ?_
      refine g_iload_n F dX0_carryOn_58 rfl 3 rfl ?_
      refine g_iload F dX0_carryOn_59 6 rfl ?_
      refine g_callV (ws' := [(c, .inr (0, [.ref d, .ref w, .ref ca, .ref r, .ref u, .int off])), (d, .inr (2, [.ref d1, .ref d2, .ref d3, .ref d4, .int bx])), (d1, .inl (E.2.2, 256, .inl t)), (d2, .inl (E.2.2, 96, .inl so)), (d3, .inl (E.2.2, 6, .inl st)), (d4, .inl (E.2.2, 6, .inl sh)), (w, .inr (1, [.ref wa])), (wa, .inl (E.2.2, 96, .inl fw)), (ca, .inr (1, [.ref cb])), (cb, .inl (E.2.2, 96, .inl (sGAdd fc (x + ah) y ((er * 7) / 16)))), (r, .inr (1, [.ref ra])), (ra, .inl (E.2.2, 96, .inl fr)), (u, .inl (E.2.2, 6, .inl fu))]) F dX0_carryOn_61 (c_X1_add E ca cb fc (x + ah) y ((er * 7) / 16) ) rfl gX0_carryOn_X1_add 8 rfl rfl kV_X1_add ⟨by decide, by decide⟩ [8, 9] rfl (by decide +kernel) rfl rfl (Nat.le_of_ble_eq_true rfl) ⟨by decide, by decide⟩ ?_
      refine g_aload_n F dX0_carryOn_64 rfl 0 rfl ?_
      refine g_get F dX0_carryOn_65 0 rfl rfl i0 2 (by decide) rfl (List.mem_of_getElem? (i := 1) rfl) ?_
      refine g_iload_n F dX0_carryOn_68 rfl 2 rfl ?_
      refine g_iload F dX0_carryOn_69 4 rfl ?_
      refine g_isub F dX0_carryOn_71 ?_
      refine g_iload_n F dX0_carryOn_72 rfl 3 rfl ?_
      refine g_iconst (v := 1) F dX0_carryOn_73 (by decide) ?_
      refine g_iadd F dX0_carryOn_74 ?_
      refine g_iload F dX0_carryOn_75 7 rfl ?_
      refine g_callV (ws' := [(c, .inr (0, [.ref d, .ref w, .ref ca, .ref r, .ref u, .int off])), (d, .inr (2, [.ref d1, .ref d2, .ref d3, .ref d4, .int bx])), (d1, .inl (E.2.2, 256, .inl t)), (d2, .inl (E.2.2, 96, .inl so)), (d3, .inl (E.2.2, 6, .inl st)), (d4, .inl (E.2.2, 6, .inl sh)), (w, .inr (1, [.ref wa])), (wa, .inl (E.2.2, 96, .inl fw)), (ca, .inr (1, [.ref cb])), (cb, .inl (E.2.2, 96, .inl (sGAdd (sGAdd fc (x + ah) y ((er * 7) / 16)) (x - ah) (y + 1) ((er * 3) / 16)))), (r, .inr (1, [.ref ra])), (ra, .inl (E.2.2, 96, .inl fr)), (u, .inl (E.2.2, 6, .inl fu))]) F dX0_carryOn_77 (c_X1_add E ca cb (sGAdd fc (x + ah) y ((er * 7) / 16)) (x - ah) (y + 1) ((er * 3) / 16) ) rfl gX0_carryOn_X1_add 8 rfl rfl kV_X1_add ⟨by decide, by decide⟩ [8, 9] rfl (by decide +kernel) rfl rfl (Nat.le_of_ble_eq_true rfl) ⟨by decide, by decide⟩ ?_
      refine g_aload_n F dX0_carryOn_80 rfl 0 rfl ?_
      refine g_get F dX0_carryOn_81 0 rfl rfl i0 2 (by decide) rfl (List.mem_of_getElem? (i := 1) rfl) ?_
      refine g_iload_n F dX0_carryOn_84 rfl 2 rfl ?_
      refine g_iload_n F dX0_carryOn_85 rfl 3 rfl ?_
      refine g_iconst (v := 1) F dX0_carryOn_86 (by decide) ?_
      refine g_iadd F dX0_carryOn_87 ?_
      refine g_iload F dX0_carryOn_88 8 rfl ?_
      refine g_callV (ws' := [(c, .inr (0, [.ref d, .ref w, .ref ca, .ref r, .ref u, .int off])), (d, .inr (2, [.ref d1, .ref d2, .ref d3, .ref d4, .int bx])), (d1, .inl (E.2.2, 256, .inl t)), (d2, .inl (E.2.2, 96, .inl so)), (d3, .inl (E.2.2, 6, .inl st)), (d4, .inl (E.2.2, 6, .inl sh)), (w, .inr (1, [.ref wa])), (wa, .inl (E.2.2, 96, .inl fw)), (ca, .inr (1, [.ref cb])), (cb, .inl (E.2.2, 96, .inl (sGAdd (sGAdd (sGAdd fc (x + ah) y ((er * 7) / 16)) (x - ah) (y + 1) ((er * 3) / 16)) x (y + 1) ((er * 5) / 16)))), (r, .inr (1, [.ref ra])), (ra, .inl (E.2.2, 96, .inl fr)), (u, .inl (E.2.2, 6, .inl fu))]) F dX0_carryOn_90 (c_X1_add E ca cb (sGAdd (sGAdd fc (x + ah) y ((er * 7) / 16)) (x - ah) (y + 1) ((er * 3) / 16)) x (y + 1) ((er * 5) / 16) ) rfl gX0_carryOn_X1_add 8 rfl rfl kV_X1_add ⟨by decide, by decide⟩ [8, 9] rfl (by decide +kernel) rfl rfl (Nat.le_of_ble_eq_true rfl) ⟨by decide, by decide⟩ ?_
      refine g_aload_n F dX0_carryOn_93 rfl 0 rfl ?_
      refine g_get F dX0_carryOn_94 0 rfl rfl i0 2 (by decide) rfl (List.mem_of_getElem? (i := 1) rfl) ?_
      refine g_iload_n F dX0_carryOn_97 rfl 2 rfl ?_
      refine g_iload F dX0_carryOn_98 4 rfl ?_
      refine g_iadd F dX0_carryOn_100 ?_
      refine g_iload_n F dX0_carryOn_101 rfl 3 rfl ?_
      refine g_iconst (v := 1) F dX0_carryOn_102 (by decide) ?_
      refine g_iadd F dX0_carryOn_103 ?_
      refine g_iload_n F dX0_carryOn_104 rfl 1 rfl ?_
      refine g_iload F dX0_carryOn_105 6 rfl ?_
      refine g_isub F dX0_carryOn_107 ?_
      refine g_iload F dX0_carryOn_108 7 rfl ?_
      refine g_isub F dX0_carryOn_110 ?_
      refine g_iload F dX0_carryOn_111 8 rfl ?_
      refine g_isub F dX0_carryOn_113 ?_
      refine g_callV (ws' := [(c, .inr (0, [.ref d, .ref w, .ref ca, .ref r, .ref u, .int off])), (d, .inr (2, [.ref d1, .ref d2, .ref d3, .ref d4, .int bx])), (d1, .inl (E.2.2, 256, .inl t)), (d2, .inl (E.2.2, 96, .inl so)), (d3, .inl (E.2.2, 6, .inl st)), (d4, .inl (E.2.2, 6, .inl sh)), (w, .inr (1, [.ref wa])), (wa, .inl (E.2.2, 96, .inl fw)), (ca, .inr (1, [.ref cb])), (cb, .inl (E.2.2, 96, .inl (sGAdd (sGAdd (sGAdd (sGAdd fc (x + ah) y ((er * 7) / 16)) (x - ah) (y + 1) ((er * 3) / 16)) x (y + 1) ((er * 5) / 16)) (x + ah) (y + 1) (((er - ((er * 7) / 16)) - ((er * 3) / 16)) - ((er * 5) / 16))))), (r, .inr (1, [.ref ra])), (ra, .inl (E.2.2, 96, .inl fr)), (u, .inl (E.2.2, 6, .inl fu))]) F dX0_carryOn_114 (c_X1_add E ca cb (sGAdd (sGAdd (sGAdd fc (x + ah) y ((er * 7) / 16)) (x - ah) (y + 1) ((er * 3) / 16)) x (y + 1) ((er * 5) / 16)) (x + ah) (y + 1) (((er - ((er * 7) / 16)) - ((er * 3) / 16)) - ((er * 5) / 16)) ) rfl gX0_carryOn_X1_add 8 rfl rfl kV_X1_add ⟨by decide, by decide⟩ [8, 9] rfl (by decide +kernel) rfl rfl (Nat.le_of_ble_eq_true rfl) ⟨by decide, by decide⟩ ?_
      exact g_vret F hQ dX0_carryOn_117 (by first | simp [sCarry, sCar1, sCar2, k3, k22] | (simp_all [sCarry, sCar1, sCar2]))
  · skip
    refine g_aload_n F dX0_carryOn_6 rfl 0 rfl ?_
    refine g_get F dX0_carryOn_7 0 rfl rfl i0 2 (by decide) rfl (List.mem_of_getElem? (i := 1) rfl) ?_
    refine g_iload_n F dX0_carryOn_10 rfl 2 rfl ?_
    refine g_iload F dX0_carryOn_11 4 rfl ?_
    refine g_iadd F dX0_carryOn_13 ?_
    refine g_iload_n F dX0_carryOn_14 rfl 3 rfl ?_
    refine g_iload_n F dX0_carryOn_15 rfl 1 rfl ?_
    refine g_callV (ws' := [(c, .inr (0, [.ref d, .ref w, .ref ca, .ref r, .ref u, .int off])), (d, .inr (2, [.ref d1, .ref d2, .ref d3, .ref d4, .int bx])), (d1, .inl (E.2.2, 256, .inl t)), (d2, .inl (E.2.2, 96, .inl so)), (d3, .inl (E.2.2, 6, .inl st)), (d4, .inl (E.2.2, 6, .inl sh)), (w, .inr (1, [.ref wa])), (wa, .inl (E.2.2, 96, .inl fw)), (ca, .inr (1, [.ref cb])), (cb, .inl (E.2.2, 96, .inl (sGAdd fc (x + ah) y er))), (r, .inr (1, [.ref ra])), (ra, .inl (E.2.2, 96, .inl fr)), (u, .inl (E.2.2, 6, .inl fu))]) F dX0_carryOn_16 (c_X1_add E ca cb fc (x + ah) y er ) rfl gX0_carryOn_X1_add 8 rfl rfl kV_X1_add ⟨by decide, by decide⟩ [8, 9] rfl (by decide +kernel) rfl rfl (Nat.le_of_ble_eq_true rfl) ⟨by decide, by decide⟩ ?_
    refine g_iload F dX0_carryOn_19 5 rfl ?_
    refine g_iconst (v := 2) F dX0_carryOn_21 (by decide) ?_
    refine g_icmp_ne (tgt := 117) F dX0_carryOn_22 (by decide) (fun k22 => ?_) (fun k22 => ?_)
    · skip
      exact g_vret F hQ dX0_carryOn_117 (by first | simp [sCarry, sCar1, sCar2, k3, k22] | (simp_all [sCarry, sCar1, sCar2]))
    · skip
      refine g_iload_n F dX0_carryOn_25 rfl 1 rfl ?_
      refine g_bipush (v := 7) F dX0_carryOn_26 (by decide) ?_
      refine g_imul F dX0_carryOn_28 ?_
      refine g_bipush (v := 16) F dX0_carryOn_29 (by decide) ?_
      refine g_idiv F dX0_carryOn_31 (by decide) ?_
      refine g_istore (L' := [(0, .ref c), (1, .int er), (2, .int x), (3, .int y), (4, .int ah), (5, .int way), (6, .int ((er * 7) / 16))]) F dX0_carryOn_32 (by decide) [1, 2, 3, 4, 5, 6, 0] rfl ?_
      refine g_iload_n F dX0_carryOn_34 rfl 1 rfl ?_
      refine g_iconst (v := 3) F dX0_carryOn_35 (by decide) ?_
      refine g_imul F dX0_carryOn_36 ?_
      refine g_bipush (v := 16) F dX0_carryOn_37 (by decide) ?_
      refine g_idiv F dX0_carryOn_39 (by decide) ?_
      refine g_istore (L' := [(0, .ref c), (1, .int er), (2, .int x), (3, .int y), (4, .int ah), (5, .int way), (6, .int ((er * 7) / 16)), (7, .int ((er * 3) / 16))]) F dX0_carryOn_40 (by decide) [1, 2, 3, 4, 5, 6, 7, 0] rfl ?_
      refine g_iload_n F dX0_carryOn_42 rfl 1 rfl ?_
      refine g_iconst (v := 5) F dX0_carryOn_43 (by decide) ?_
      refine g_imul F dX0_carryOn_44 ?_
      refine g_bipush (v := 16) F dX0_carryOn_45 (by decide) ?_
      refine g_idiv F dX0_carryOn_47 (by decide) ?_
      refine g_istore (L' := [(0, .ref c), (1, .int er), (2, .int x), (3, .int y), (4, .int ah), (5, .int way), (6, .int ((er * 7) / 16)), (7, .int ((er * 3) / 16)), (8, .int ((er * 5) / 16))]) F dX0_carryOn_48 (by decide) [1, 2, 3, 4, 5, 6, 7, 8, 0] rfl ?_
      refine g_aload_n F dX0_carryOn_50 rfl 0 rfl ?_
      refine g_get F dX0_carryOn_51 0 rfl rfl i0 2 (by decide) rfl (List.mem_of_getElem? (i := 1) rfl) ?_
      refine g_iload_n F dX0_carryOn_54 rfl 2 rfl ?_
      refine g_iload F dX0_carryOn_55 4 rfl ?_
      refine g_iadd F dX0_carryOn_57 ?_
      refine g_iload_n F dX0_carryOn_58 rfl 3 rfl ?_
      refine g_iload F dX0_carryOn_59 6 rfl ?_
      refine g_callV (ws' := [(c, .inr (0, [.ref d, .ref w, .ref ca, .ref r, .ref u, .int off])), (d, .inr (2, [.ref d1, .ref d2, .ref d3, .ref d4, .int bx])), (d1, .inl (E.2.2, 256, .inl t)), (d2, .inl (E.2.2, 96, .inl so)), (d3, .inl (E.2.2, 6, .inl st)), (d4, .inl (E.2.2, 6, .inl sh)), (w, .inr (1, [.ref wa])), (wa, .inl (E.2.2, 96, .inl fw)), (ca, .inr (1, [.ref cb])), (cb, .inl (E.2.2, 96, .inl (sGAdd (sGAdd fc (x + ah) y er) (x + ah) y ((er * 7) / 16)))), (r, .inr (1, [.ref ra])), (ra, .inl (E.2.2, 96, .inl fr)), (u, .inl (E.2.2, 6, .inl fu))]) F dX0_carryOn_61 (c_X1_add E ca cb (sGAdd fc (x + ah) y er) (x + ah) y ((er * 7) / 16) ) rfl gX0_carryOn_X1_add 8 rfl rfl kV_X1_add ⟨by decide, by decide⟩ [8, 9] rfl (by decide +kernel) rfl rfl (Nat.le_of_ble_eq_true rfl) ⟨by decide, by decide⟩ ?_
      refine g_aload_n F dX0_carryOn_64 rfl 0 rfl ?_
      refine g_get F dX0_carryOn_65 0 rfl rfl i0 2 (by decide) rfl (List.mem_of_getElem? (i := 1) rfl) ?_
      refine g_iload_n F dX0_carryOn_68 rfl 2 rfl ?_
      refine g_iload F dX0_carryOn_69 4 rfl ?_
      refine g_isub F dX0_carryOn_71 ?_
      refine g_iload_n F dX0_carryOn_72 rfl 3 rfl ?_
      refine g_iconst (v := 1) F dX0_carryOn_73 (by decide) ?_
      refine g_iadd F dX0_carryOn_74 ?_
      refine g_iload F dX0_carryOn_75 7 rfl ?_
      refine g_callV (ws' := [(c, .inr (0, [.ref d, .ref w, .ref ca, .ref r, .ref u, .int off])), (d, .inr (2, [.ref d1, .ref d2, .ref d3, .ref d4, .int bx])), (d1, .inl (E.2.2, 256, .inl t)), (d2, .inl (E.2.2, 96, .inl so)), (d3, .inl (E.2.2, 6, .inl st)), (d4, .inl (E.2.2, 6, .inl sh)), (w, .inr (1, [.ref wa])), (wa, .inl (E.2.2, 96, .inl fw)), (ca, .inr (1, [.ref cb])), (cb, .inl (E.2.2, 96, .inl (sGAdd (sGAdd (sGAdd fc (x + ah) y er) (x + ah) y ((er * 7) / 16)) (x - ah) (y + 1) ((er * 3) / 16)))), (r, .inr (1, [.ref ra])), (ra, .inl (E.2.2, 96, .inl fr)), (u, .inl (E.2.2, 6, .inl fu))]) F dX0_carryOn_77 (c_X1_add E ca cb (sGAdd (sGAdd fc (x + ah) y er) (x + ah) y ((er * 7) / 16)) (x - ah) (y + 1) ((er * 3) / 16) ) rfl gX0_carryOn_X1_add 8 rfl rfl kV_X1_add ⟨by decide, by decide⟩ [8, 9] rfl (by decide +kernel) rfl rfl (Nat.le_of_ble_eq_true rfl) ⟨by decide, by decide⟩ ?_
      refine g_aload_n F dX0_carryOn_80 rfl 0 rfl ?_
      refine g_get F dX0_carryOn_81 0 rfl rfl i0 2 (by decide) rfl (List.mem_of_getElem? (i := 1) rfl) ?_
      refine g_iload_n F dX0_carryOn_84 rfl 2 rfl ?_
      refine g_iload_n F dX0_carryOn_85 rfl 3 rfl ?_
      refine g_iconst (v := 1) F dX0_carryOn_86 (by decide) ?_
      refine g_iadd F dX0_carryOn_87 ?_
      refine g_iload F dX0_carryOn_88 8 rfl ?_
      refine g_callV (ws' := [(c, .inr (0, [.ref d, .ref w, .ref ca, .ref r, .ref u, .int off])), (d, .inr (2, [.ref d1, .ref d2, .ref d3, .ref d4, .int bx])), (d1, .inl (E.2.2, 256, .inl t)), (d2, .inl (E.2.2, 96, .inl so)), (d3, .inl (E.2.2, 6, .inl st)), (d4, .inl (E.2.2, 6, .inl sh)), (w, .inr (1, [.ref wa])), (wa, .inl (E.2.2, 96, .inl fw)), (ca, .inr (1, [.ref cb])), (cb, .inl (E.2.2, 96, .inl (sGAdd (sGAdd (sGAdd (sGAdd fc (x + ah) y er) (x + ah) y ((er * 7) / 16)) (x - ah) (y + 1) ((er * 3) / 16)) x (y + 1) ((er * 5) / 16)))), (r, .inr (1, [.ref ra])), (ra, .inl (E.2.2, 96, .inl fr)), (u, .inl (E.2.2, 6, .inl fu))]) F dX0_carryOn_90 (c_X1_add E ca cb (sGAdd (sGAdd (sGAdd fc (x + ah) y er) (x + ah) y ((er * 7) / 16)) (x - ah) (y + 1) ((er * 3) / 16)) x (y + 1) ((er * 5) / 16) ) rfl gX0_carryOn_X1_add 8 rfl rfl kV_X1_add ⟨by decide, by decide⟩ [8, 9] rfl (by decide +kernel) rfl rfl (Nat.le_of_ble_eq_true rfl) ⟨by decide, by decide⟩ ?_
      refine g_aload_n F dX0_carryOn_93 rfl 0 rfl ?_
      refine g_get F dX0_carryOn_94 0 rfl rfl i0 2 (by decide) rfl (List.mem_of_getElem? (i := 1) rfl) ?_
      refine g_iload_n F dX0_carryOn_97 rfl 2 rfl ?_
      refine g_iload F dX0_carryOn_98 4 rfl ?_
      refine g_iadd F dX0_carryOn_100 ?_
      refine g_iload_n F dX0_carryOn_101 rfl 3 rfl ?_
      refine g_iconst (v := 1) F dX0_carryOn_102 (by decide) ?_
      refine g_iadd F dX0_carryOn_103 ?_
      refine g_iload_n F dX0_carryOn_104 rfl 1 rfl ?_
      refine g_iload F dX0_carryOn_105 6 rfl ?_
      refine g_isub F dX0_carryOn_107 ?_
      refine g_iload F dX0_carryOn_108 7 rfl ?_
      refine g_isub F dX0_carryOn_110 ?_
      refine g_iload F dX0_carryOn_111 8 rfl ?_
      refine g_isub F dX0_carryOn_113 ?_
      refine g_callV (ws' := [(c, .inr (0, [.ref d, .ref w, .ref ca, .ref r, .ref u, .int off])), (d, .inr (2, [.ref d1, .ref d2, .ref d3, .ref d4, .int bx])), (d1, .inl (E.2.2, 256, .inl t)), (d2, .inl (E.2.2, 96, .inl so)), (d3, .inl (E.2.2, 6, .inl st)), (d4, .inl (E.2.2, 6, .inl sh)), (w, .inr (1, [.ref wa])), (wa, .inl (E.2.2, 96, .inl fw)), (ca, .inr (1, [.ref cb])), (cb, .inl (E.2.2, 96, .inl (sGAdd (sGAdd (sGAdd (sGAdd (sGAdd fc (x + ah) y er) (x + ah) y ((er * 7) / 16)) (x - ah) (y + 1) ((er * 3) / 16)) x (y + 1) ((er * 5) / 16)) (x + ah) (y + 1) (((er - ((er * 7) / 16)) - ((er * 3) / 16)) - ((er * 5) / 16))))), (r, .inr (1, [.ref ra])), (ra, .inl (E.2.2, 96, .inl fr)), (u, .inl (E.2.2, 6, .inl fu))]) F dX0_carryOn_114 (c_X1_add E ca cb (sGAdd (sGAdd (sGAdd (sGAdd fc (x + ah) y er) (x + ah) y ((er * 7) / 16)) (x - ah) (y + 1) ((er * 3) / 16)) x (y + 1) ((er * 5) / 16)) (x + ah) (y + 1) (((er - ((er * 7) / 16)) - ((er * 3) / 16)) - ((er * 5) / 16)) ) rfl gX0_carryOn_X1_add 8 rfl rfl kV_X1_add ⟨by decide, by decide⟩ [8, 9] rfl (by decide +kernel) rfl rfl (Nat.le_of_ble_eq_true rfl) ⟨by decide, by decide⟩ ?_
      exact g_vret F hQ dX0_carryOn_117 (by first | simp [sCarry, sCar1, sCar2, k3, k22] | (simp_all [sCarry, sCar1, sCar2]))

set_option maxHeartbeats 4000000 in
set_option maxRecDepth 100000 in
theorem c_X0_numberRuns (E : gE) (c : Nat) (d : Nat) (d1 : Nat) (d2 : Nat) (d3 : Nat) (d4 : Nat) (w : Nat) (wa : Nat) (ca : Nat) (cb : Nat) (r : Nat) (ra : Nat) (u : Nat) (t : AF) (so : AF) (st : AF) (sh : AF) (fw : AF) (fc : AF) (fr : AF) (fu : AF) (off : Int32) (bx : Int32) (y : Int32) : Ct E yX0_numberRuns wsX0_numberRuns ({ frames := 2, cells := 0, slots := 0, locals := 45 }) [.ref c, .int y] [(c, .inr (0, [.ref d, .ref w, .ref ca, .ref r, .ref u, .int off])), (d, .inr (2, [.ref d1, .ref d2, .ref d3, .ref d4, .int bx])), (d1, .inl (E.2.2, 256, .inl t)), (d2, .inl (E.2.2, 96, .inl so)), (d3, .inl (E.2.2, 6, .inl st)), (d4, .inl (E.2.2, 6, .inl sh)), (w, .inr (1, [.ref wa])), (wa, .inl (E.2.2, 96, .inl fw)), (ca, .inr (1, [.ref cb])), (cb, .inl (E.2.2, 96, .inl fc)), (r, .inr (1, [.ref ra])), (ra, .inl (E.2.2, 96, .inl fr)), (u, .inl (E.2.2, 6, .inl fu))] none [(c, .inr (0, [.ref d, .ref w, .ref ca, .ref r, .ref u, .int off])), (d, .inr (2, [.ref d1, .ref d2, .ref d3, .ref d4, .int bx])), (d1, .inl (E.2.2, 256, .inl t)), (d2, .inl (E.2.2, 96, .inl so)), (d3, .inl (E.2.2, 6, .inl st)), (d4, .inl (E.2.2, 6, .inl sh)), (w, .inr (1, [.ref wa])), (wa, .inl (E.2.2, 96, .inl fw)), (ca, .inr (1, [.ref cb])), (cb, .inl (E.2.2, 96, .inl fc)), (r, .inr (1, [.ref ra])), (ra, .inl (E.2.2, 96, .inl ((sNR fw y fr 11).2.2))), (u, .inl (E.2.2, 6, .inl fu))] := by
  refine Ct.of (cc := cX0_numberRuns) (maxL := 6) (ret := none) (own := RX0) (L := [(0, .ref c), (1, .int y)]) (by decide) rfl rfl rfl (Nat.le_of_ble_eq_true rfl) rfl ?_
  intro X F hQ
  have i0 : ∀ w ∈ u_ws RX0 TX0 6, w ∈ wsX0_numberRuns := gsub [20, 21, 22, 23, 24, 25] rfl
  have i1 : ∀ w ∈ u_ws RX1 TX1 1, w ∈ wsX0_numberRuns := gsub [26] rfl
  refine g_iconst (v := 0) F dX0_numberRuns_0 (by decide) ?_
  refine g_istore_n (L' := [(0, .ref c), (1, .int y), (2, .int 0)]) F dX0_numberRuns_1 rfl (by decide) [1, 2, 0] rfl ?_
  refine g_iconst (v := 1) F dX0_numberRuns_2 (by decide) ?_
  refine g_istore_n (L' := [(0, .ref c), (1, .int y), (2, .int 0), (3, .int 1)]) F dX0_numberRuns_3 rfl (by decide) [1, 2, 3, 0] rfl ?_
  refine g_aload_n F dX0_numberRuns_4 rfl 0 rfl ?_
  refine g_get F dX0_numberRuns_5 0 rfl rfl i0 3 (by decide) rfl (List.mem_of_getElem? (i := 1) rfl) ?_
  refine g_iconst (v := 0) F dX0_numberRuns_8 (by decide) ?_
  refine g_iload_n F dX0_numberRuns_9 rfl 1 rfl ?_
  refine g_iconst (v := 0) F dX0_numberRuns_10 (by decide) ?_
  refine g_callV (ws' := [(c, .inr (0, [.ref d, .ref w, .ref ca, .ref r, .ref u, .int off])), (d, .inr (2, [.ref d1, .ref d2, .ref d3, .ref d4, .int bx])), (d1, .inl (E.2.2, 256, .inl t)), (d2, .inl (E.2.2, 96, .inl so)), (d3, .inl (E.2.2, 6, .inl st)), (d4, .inl (E.2.2, 6, .inl sh)), (w, .inr (1, [.ref wa])), (wa, .inl (E.2.2, 96, .inl fw)), (ca, .inr (1, [.ref cb])), (cb, .inl (E.2.2, 96, .inl fc)), (r, .inr (1, [.ref ra])), (ra, .inl (E.2.2, 96, .inl (sGPut fr 0 y 0))), (u, .inl (E.2.2, 6, .inl fu))]) F dX0_numberRuns_11 (c_X1_put E r ra fr 0 y 0 ) rfl gX0_numberRuns_X1_put 10 rfl rfl kV_X1_put ⟨by decide, by decide⟩ [10, 11] rfl (by decide +kernel) rfl rfl (Nat.le_of_ble_eq_true rfl) ⟨by decide, by decide⟩ ?_
  refine g_iconst (v := 1) F dX0_numberRuns_14 (by decide) ?_
  refine g_istore (L' := [(0, .ref c), (1, .int y), (2, .int 0), (3, .int 1), (4, .int 1)]) F dX0_numberRuns_15 (by decide) [1, 2, 3, 4, 0] rfl ?_
  have lp17 : ∀ (n17 i17 : Nat), i17 + n17 = 11 → G E X 0 0 17 [(0, .ref c), (1, .int y), (2, .int ((sNR fw y fr i17).1)), (3, .int ((sNR fw y fr i17).2.1)), (4, .int (nI (i17 + 1)))] [] [(c, .inr (0, [.ref d, .ref w, .ref ca, .ref r, .ref u, .int off])), (d, .inr (2, [.ref d1, .ref d2, .ref d3, .ref d4, .int bx])), (d1, .inl (E.2.2, 256, .inl t)), (d2, .inl (E.2.2, 96, .inl so)), (d3, .inl (E.2.2, 6, .inl st)), (d4, .inl (E.2.2, 6, .inl sh)), (w, .inr (1, [.ref wa])), (wa, .inl (E.2.2, 96, .inl fw)), (ca, .inr (1, [.ref cb])), (cb, .inl (E.2.2, 96, .inl fc)), (r, .inr (1, [.ref ra])), (ra, .inl (E.2.2, 96, .inl ((sNR fw y fr i17).2.2))), (u, .inl (E.2.2, 6, .inl fu))] := by
    intro n17
    induction n17 with
    | zero =>
      intro i17 hi17
      have he17 : i17 = 11 := by omega
      rw [he17]
      refine g_iload F dX0_numberRuns_17 4 rfl ?_
      refine g_bipush (v := 12) F dX0_numberRuns_19 (by decide) ?_
      refine g_icmp_ge_t (tgt := 105) F dX0_numberRuns_21 (by decide) (by decide) ?_
      exact g_vret F hQ dX0_numberRuns_105 (rfl)
    | succ n17 ih17 =>
      intro i17 hi17
      have hl17 : i17 < 11 := by omega
      refine g_iload F dX0_numberRuns_17 4 rfl ?_
      refine g_bipush (v := 12) F dX0_numberRuns_19 (by decide) ?_
      refine g_icmp_ge_f (tgt := 105) F dX0_numberRuns_21 (by decide) (nle_nI (n := 12) (by omega) (by omega)) ?_
      refine g_aload_n F dX0_numberRuns_24 rfl 0 rfl ?_
      refine g_get F dX0_numberRuns_25 0 rfl rfl i0 1 (by decide) rfl (List.mem_of_getElem? (i := 2) rfl) ?_
      refine g_iload F dX0_numberRuns_28 4 rfl ?_
      refine g_iload_n F dX0_numberRuns_30 rfl 1 rfl ?_
      refine g_callV (ws' := [(c, .inr (0, [.ref d, .ref w, .ref ca, .ref r, .ref u, .int off])), (d, .inr (2, [.ref d1, .ref d2, .ref d3, .ref d4, .int bx])), (d1, .inl (E.2.2, 256, .inl t)), (d2, .inl (E.2.2, 96, .inl so)), (d3, .inl (E.2.2, 6, .inl st)), (d4, .inl (E.2.2, 6, .inl sh)), (w, .inr (1, [.ref wa])), (wa, .inl (E.2.2, 96, .inl fw)), (ca, .inr (1, [.ref cb])), (cb, .inl (E.2.2, 96, .inl fc)), (r, .inr (1, [.ref ra])), (ra, .inl (E.2.2, 96, .inl ((sNR fw y fr i17).2.2))), (u, .inl (E.2.2, 6, .inl fu))]) F dX0_numberRuns_31 (c_X1_at E w wa fw (nI (i17 + 1)) y ) rfl gX0_numberRuns_X1_at 6 rfl rfl kV_X1_at ⟨by decide, by decide⟩ [6, 7] rfl (by decide +kernel) rfl rfl (Nat.le_of_ble_eq_true rfl) ⟨by decide, by decide⟩ ?_
      refine g_aload_n F dX0_numberRuns_34 rfl 0 rfl ?_
      refine g_get F dX0_numberRuns_35 0 rfl rfl i0 1 (by decide) rfl (List.mem_of_getElem? (i := 2) rfl) ?_
      refine g_iload F dX0_numberRuns_38 4 rfl ?_
      refine g_iconst (v := 1) F dX0_numberRuns_40 (by decide) ?_
      refine g_isub F dX0_numberRuns_41 ?_
      refine g_iload_n F dX0_numberRuns_42 rfl 1 rfl ?_
      refine g_callV (ws' := [(c, .inr (0, [.ref d, .ref w, .ref ca, .ref r, .ref u, .int off])), (d, .inr (2, [.ref d1, .ref d2, .ref d3, .ref d4, .int bx])), (d1, .inl (E.2.2, 256, .inl t)), (d2, .inl (E.2.2, 96, .inl so)), (d3, .inl (E.2.2, 6, .inl st)), (d4, .inl (E.2.2, 6, .inl sh)), (w, .inr (1, [.ref wa])), (wa, .inl (E.2.2, 96, .inl fw)), (ca, .inr (1, [.ref cb])), (cb, .inl (E.2.2, 96, .inl fc)), (r, .inr (1, [.ref ra])), (ra, .inl (E.2.2, 96, .inl ((sNR fw y fr i17).2.2))), (u, .inl (E.2.2, 6, .inl fu))]) F dX0_numberRuns_43 (c_X1_at E w wa fw ((nI (i17 + 1)) - 1) y ) rfl gX0_numberRuns_X1_at 6 rfl rfl kV_X1_at ⟨by decide, by decide⟩ [6, 7] rfl (by decide +kernel) rfl rfl (Nat.le_of_ble_eq_true rfl) ⟨by decide, by decide⟩ ?_
      have jn60 : G E X 0 0 60 [(0, .ref c), (1, .int y), (2, .int ((sNR fw y fr i17).1)), (3, .int ((sNR fw y fr i17).2.1)), (4, .int (nI (i17 + 1)))] [.int (sGo fw y (sNR fw y fr i17).2.1 (nI (i17 + 1)))] [(c, .inr (0, [.ref d, .ref w, .ref ca, .ref r, .ref u, .int off])), (d, .inr (2, [.ref d1, .ref d2, .ref d3, .ref d4, .int bx])), (d1, .inl (E.2.2, 256, .inl t)), (d2, .inl (E.2.2, 96, .inl so)), (d3, .inl (E.2.2, 6, .inl st)), (d4, .inl (E.2.2, 6, .inl sh)), (w, .inr (1, [.ref wa])), (wa, .inl (E.2.2, 96, .inl fw)), (ca, .inr (1, [.ref cb])), (cb, .inl (E.2.2, 96, .inl fc)), (r, .inr (1, [.ref ra])), (ra, .inl (E.2.2, 96, .inl ((sNR fw y fr i17).2.2))), (u, .inl (E.2.2, 6, .inl fu))] := by
        refine g_istore (L' := [(0, .ref c), (1, .int y), (2, .int ((sNR fw y fr i17).1)), (3, .int ((sNR fw y fr i17).2.1)), (4, .int (nI (i17 + 1))), (5, .int (sGo fw y (sNR fw y fr i17).2.1 (nI (i17 + 1))))]) F dX0_numberRuns_60 (by decide) [1, 2, 3, 4, 5, 0] rfl ?_
        refine g_iload F dX0_numberRuns_62 5 rfl ?_
        have jn74 : G E X 0 0 74 [(0, .ref c), (1, .int y), (2, .int ((sNR fw y fr i17).1)), (3, .int ((sNR fw y fr i17).2.1)), (4, .int (nI (i17 + 1))), (5, .int (sGo fw y (sNR fw y fr i17).2.1 (nI (i17 + 1))))] [.int (sLen (sGo fw y (sNR fw y fr i17).2.1 (nI (i17 + 1))) (sNR fw y fr i17).2.1)] [(c, .inr (0, [.ref d, .ref w, .ref ca, .ref r, .ref u, .int off])), (d, .inr (2, [.ref d1, .ref d2, .ref d3, .ref d4, .int bx])), (d1, .inl (E.2.2, 256, .inl t)), (d2, .inl (E.2.2, 96, .inl so)), (d3, .inl (E.2.2, 6, .inl st)), (d4, .inl (E.2.2, 6, .inl sh)), (w, .inr (1, [.ref wa])), (wa, .inl (E.2.2, 96, .inl fw)), (ca, .inr (1, [.ref cb])), (cb, .inl (E.2.2, 96, .inl fc)), (r, .inr (1, [.ref ra])), (ra, .inl (E.2.2, 96, .inl ((sNR fw y fr i17).2.2))), (u, .inl (E.2.2, 6, .inl fu))] := by
          refine g_istore_n (L' := [(0, .ref c), (1, .int y), (2, .int ((sNR fw y fr i17).1)), (3, .int (sLen (sGo fw y (sNR fw y fr i17).2.1 (nI (i17 + 1))) (sNR fw y fr i17).2.1)), (4, .int (nI (i17 + 1))), (5, .int (sGo fw y (sNR fw y fr i17).2.1 (nI (i17 + 1))))]) F dX0_numberRuns_74 rfl (by decide) [1, 2, 3, 0, 4, 5] rfl ?_
          refine g_iload F dX0_numberRuns_75 5 rfl ?_
          have jn87 : G E X 0 0 87 [(0, .ref c), (1, .int y), (2, .int ((sNR fw y fr i17).1)), (3, .int (sLen (sGo fw y (sNR fw y fr i17).2.1 (nI (i17 + 1))) (sNR fw y fr i17).2.1)), (4, .int (nI (i17 + 1))), (5, .int (sGo fw y (sNR fw y fr i17).2.1 (nI (i17 + 1))))] [.int (sNum (sGo fw y (sNR fw y fr i17).2.1 (nI (i17 + 1))) (sNR fw y fr i17).1)] [(c, .inr (0, [.ref d, .ref w, .ref ca, .ref r, .ref u, .int off])), (d, .inr (2, [.ref d1, .ref d2, .ref d3, .ref d4, .int bx])), (d1, .inl (E.2.2, 256, .inl t)), (d2, .inl (E.2.2, 96, .inl so)), (d3, .inl (E.2.2, 6, .inl st)), (d4, .inl (E.2.2, 6, .inl sh)), (w, .inr (1, [.ref wa])), (wa, .inl (E.2.2, 96, .inl fw)), (ca, .inr (1, [.ref cb])), (cb, .inl (E.2.2, 96, .inl fc)), (r, .inr (1, [.ref ra])), (ra, .inl (E.2.2, 96, .inl ((sNR fw y fr i17).2.2))), (u, .inl (E.2.2, 6, .inl fu))] := by
            refine g_istore_n (L' := [(0, .ref c), (1, .int y), (2, .int (sNum (sGo fw y (sNR fw y fr i17).2.1 (nI (i17 + 1))) (sNR fw y fr i17).1)), (3, .int (sLen (sGo fw y (sNR fw y fr i17).2.1 (nI (i17 + 1))) (sNR fw y fr i17).2.1)), (4, .int (nI (i17 + 1))), (5, .int (sGo fw y (sNR fw y fr i17).2.1 (nI (i17 + 1))))]) F dX0_numberRuns_87 rfl (by decide) [1, 2, 0, 3, 4, 5] rfl ?_
            refine g_aload_n F dX0_numberRuns_88 rfl 0 rfl ?_
            refine g_get F dX0_numberRuns_89 0 rfl rfl i0 3 (by decide) rfl (List.mem_of_getElem? (i := 1) rfl) ?_
            refine g_iload F dX0_numberRuns_92 4 rfl ?_
            refine g_iload_n F dX0_numberRuns_94 rfl 1 rfl ?_
            refine g_iload_n F dX0_numberRuns_95 rfl 2 rfl ?_
            refine g_callV (ws' := [(c, .inr (0, [.ref d, .ref w, .ref ca, .ref r, .ref u, .int off])), (d, .inr (2, [.ref d1, .ref d2, .ref d3, .ref d4, .int bx])), (d1, .inl (E.2.2, 256, .inl t)), (d2, .inl (E.2.2, 96, .inl so)), (d3, .inl (E.2.2, 6, .inl st)), (d4, .inl (E.2.2, 6, .inl sh)), (w, .inr (1, [.ref wa])), (wa, .inl (E.2.2, 96, .inl fw)), (ca, .inr (1, [.ref cb])), (cb, .inl (E.2.2, 96, .inl fc)), (r, .inr (1, [.ref ra])), (ra, .inl (E.2.2, 96, .inl (sGPut ((sNR fw y fr i17).2.2) (nI (i17 + 1)) y (sNum (sGo fw y (sNR fw y fr i17).2.1 (nI (i17 + 1))) (sNR fw y fr i17).1)))), (u, .inl (E.2.2, 6, .inl fu))]) F dX0_numberRuns_96 (c_X1_put E r ra ((sNR fw y fr i17).2.2) (nI (i17 + 1)) y (sNum (sGo fw y (sNR fw y fr i17).2.1 (nI (i17 + 1))) (sNR fw y fr i17).1) ) rfl gX0_numberRuns_X1_put 10 rfl rfl kV_X1_put ⟨by decide, by decide⟩ [10, 11] rfl (by decide +kernel) rfl rfl (Nat.le_of_ble_eq_true rfl) ⟨by decide, by decide⟩ ?_
            refine g_iinc (L' := [(0, .ref c), (1, .int y), (2, .int (sNum (sGo fw y (sNR fw y fr i17).2.1 (nI (i17 + 1))) (sNR fw y fr i17).1)), (3, .int (sLen (sGo fw y (sNR fw y fr i17).2.1 (nI (i17 + 1))) (sNR fw y fr i17).2.1)), (4, .int (nI (i17 + 1 + 1))), (5, .int (sGo fw y (sNR fw y fr i17).2.1 (nI (i17 + 1))))]) (v := nI (i17 + 1 + 1)) F dX0_numberRuns_99 4 rfl (nI_1 _) (by decide) [1, 2, 3, 4, 0, 5] rfl ?_
            refine g_goto (tgt := 17) F dX0_numberRuns_102 (by decide) ?_
            refine g_lv (L' := [(0, .ref c), (1, .int y), (2, .int (sNum (sGo fw y (sNR fw y fr i17).2.1 (nI (i17 + 1))) (sNR fw y fr i17).1)), (3, .int (sLen (sGo fw y (sNR fw y fr i17).2.1 (nI (i17 + 1))) (sNR fw y fr i17).2.1)), (4, .int (nI (i17 + 1 + 1)))]) [0, 1, 2, 3, 4] rfl ?_
            exact ih17 (i17 + 1) (by omega)
          refine g_if_eq (tgt := 84) F dX0_numberRuns_77 (by decide) (fun k77 => ?_) (fun k77 => ?_)
          · skip
            refine g_iload_n F dX0_numberRuns_84 rfl 2 rfl ?_
            refine g_iconst (v := 1) F dX0_numberRuns_85 (by decide) ?_
            refine g_iadd F dX0_numberRuns_86 ?_
            exact g_topr (by simp [sNum, k77]) jn87
          · skip
            refine g_iload_n F dX0_numberRuns_80 rfl 2 rfl ?_
            refine g_goto (tgt := 87) F dX0_numberRuns_81 (by decide) ?_
            exact g_topr (by simp [sNum, k77]) jn87
        refine g_if_eq (tgt := 73) F dX0_numberRuns_64 (by decide) (fun k64 => ?_) (fun k64 => ?_)
        · skip
          refine g_iconst (v := 1) F dX0_numberRuns_73 (by decide) ?_
          exact g_topr (by simp [sLen, k64]) jn74
        · skip
          refine g_iload_n F dX0_numberRuns_67 rfl 3 rfl ?_
          refine g_iconst (v := 1) F dX0_numberRuns_68 (by decide) ?_
          refine g_iadd F dX0_numberRuns_69 ?_
          refine g_goto (tgt := 74) F dX0_numberRuns_70 (by decide) ?_
          exact g_topr (by simp [sLen, k64]) jn74
      refine g_icmp_ne (tgt := 59) F dX0_numberRuns_46 (by decide) (fun k46 => ?_) (fun k46 => ?_)
      · skip
        refine g_iconst (v := 0) F dX0_numberRuns_59 (by decide) ?_
        exact g_topr (by simp [sGo, k46]) jn60
      · skip
        refine g_iload_n F dX0_numberRuns_49 rfl 3 rfl ?_
        refine g_bipush (v := 9) F dX0_numberRuns_50 (by decide) ?_
        refine g_icmp_ge (tgt := 59) F dX0_numberRuns_52 (by decide) (fun k52 => ?_) (fun k52 => ?_)
        · skip
          refine g_iconst (v := 0) F dX0_numberRuns_59 (by decide) ?_
          exact g_topr (by simp [sGo, k46, k52]) jn60
        · skip
          refine g_iconst (v := 1) F dX0_numberRuns_55 (by decide) ?_
          refine g_goto (tgt := 60) F dX0_numberRuns_56 (by decide) ?_
          exact g_topr (by simp [sGo, k46, k52]) jn60
  exact lp17 11 0 (by omega)
end PCLO
