/-! the law's body: the other cases -/
section PSEGT
set_option maxHeartbeats 4000000 in
set_option maxRecDepth 100000 in
theorem seg_setTurning {E : gE} {cL : ClassId} {X : gX} {hh : List (Nat × Nat × Nat × Nat)} {cells slots b n i x y oa mcW msW mcM msM qx qy : Nat} {xs : Nat → Int32} {r : Int32} {fx fy : List Value} {isW isM : List Nat} {ws ws1 ws2 W1 W1' W2 W2' : va_W} (F : gW E X cL_law RL wsL_law (some .boolean) room_1 9 hh) (S : gS X b n xs) (hi : i + 3 < n) (hn : n ≤ 2048)
    (hW : Ct E yX4_setTurning wsX4_setTurning ({ frames := 0, cells := mcW, slots := msW, locals := 0 }) [.ref x, .int (if xs (i + 1) = 0 then 0 else 1)] W1 (some (.int r)) W1') (hcW : isW.map (fun i => ws[i]?) = W1.map some) (hnW : va_nd isW = true) (hsW : wput ws isW W1' = ws1) (hx : ws[qx]? = some (x, .inr (4, fx)))
    (hM : Ct E yX5_setTurning wsX5_setTurning ({ frames := 0, cells := mcM, slots := msM, locals := 0 }) [.ref y, .int (if xs (i + 1) = 0 then 0 else 1)] W2 (some (.int r)) W2') (hcM : isM.map (fun i => ws1[i]?) = W2.map some) (hnM : va_nd isM = true) (hsM : wput ws1 isM W2' = ws2) (hy : ws1[qy]? = some (y, .inr (5, fy)))
    (hc : cells + mcW + mcM ≤ 600000) (hs : slots + msW + msM ≤ 7000000) (kk : G E X (cells + mcW + mcM) (slots + msW + msM) 1297 [(0, .ref b), (1, .ref x), (2, .ref y), (3, .ref oa), (4, .int (nI i))] [] ws2) : G E X cells slots 472 [(0, .ref b), (1, .ref x), (2, .ref y), (3, .ref oa), (4, .int (nI i))] [] ws := by
  by_cases hz : xs (i + 1) = 0
  · rw [if_pos hz] at hW hM
    refine h_aload_n F dL_law_472 rfl 1 rfl ?_
    refine h_aload_n F dL_law_473 rfl 0 rfl ?_
    refine h_iload F dL_law_474 4 rfl ?_
    refine h_iconst (v := 1) F dL_law_476 (by decide) ?_
    refine h_iadd F dL_law_477 ?_
    refine g_topr (y := nI (i + 1)) (nI_add i 1) ?_
    refine h_sld F S dL_law_478 (vp_in_nI (by omega) (by omega)) ?_
    refine g_topr (y := xs (i + 1)) (by rw [cl_nI (by omega)]) ?_
    refine h_if_eq_t (tgt := 486) F dL_law_479 (by decide) hz ?_
    refine h_iconst (v := 0) F dL_law_486 (by decide) ?_
    refine h_callV (ws' := ws1) F dL_law_487 hW rfl gL_law_X4_setTurning qx hx rfl kV_X4_setTurning ⟨Nat.le_of_ble_eq_true rfl, Nat.le_of_ble_eq_true rfl⟩ isW hcW hnW hsW rfl (Nat.le_of_ble_eq_true rfl) ⟨by have h9 := rm_c; show cells + mcW ≤ room_1.cells; omega, by have h9 := rm_s; show slots + msW ≤ room_1.slots; omega⟩ ?_
    refine h_aload_n F dL_law_490 rfl 2 rfl ?_
    refine h_aload_n F dL_law_491 rfl 0 rfl ?_
    refine h_iload F dL_law_492 4 rfl ?_
    refine h_iconst (v := 1) F dL_law_494 (by decide) ?_
    refine h_iadd F dL_law_495 ?_
    refine g_topr (y := nI (i + 1)) (nI_add i 1) ?_
    refine h_sld F S dL_law_496 (vp_in_nI (by omega) (by omega)) ?_
    refine g_topr (y := xs (i + 1)) (by rw [cl_nI (by omega)]) ?_
    refine h_if_eq_t (tgt := 504) F dL_law_497 (by decide) hz ?_
    refine h_iconst (v := 0) F dL_law_504 (by decide) ?_
    refine h_callV (ws' := ws2) F dL_law_505 hM rfl gL_law_X5_setTurning qy hy rfl kV_X5_setTurning ⟨Nat.le_of_ble_eq_true rfl, Nat.le_of_ble_eq_true rfl⟩ isM hcM hnM hsM rfl (Nat.le_of_ble_eq_true rfl) ⟨by have h9 := rm_c; show cells + mcW + mcM ≤ room_1.cells; omega, by have h9 := rm_s; show slots + msW + msM ≤ room_1.slots; omega⟩ ?_
    refine h_icmp_eq_t (tgt := 1297) F dL_law_508 (by decide) rfl ?_
    exact kk
  · rw [if_neg hz] at hW hM
    refine h_aload_n F dL_law_472 rfl 1 rfl ?_
    refine h_aload_n F dL_law_473 rfl 0 rfl ?_
    refine h_iload F dL_law_474 4 rfl ?_
    refine h_iconst (v := 1) F dL_law_476 (by decide) ?_
    refine h_iadd F dL_law_477 ?_
    refine g_topr (y := nI (i + 1)) (nI_add i 1) ?_
    refine h_sld F S dL_law_478 (vp_in_nI (by omega) (by omega)) ?_
    refine g_topr (y := xs (i + 1)) (by rw [cl_nI (by omega)]) ?_
    refine h_if_eq_f (tgt := 486) F dL_law_479 (by decide) hz ?_
    refine h_iconst (v := 1) F dL_law_482 (by decide) ?_
    refine h_goto (tgt := 487) F dL_law_483 (by decide) ?_
    refine h_callV (ws' := ws1) F dL_law_487 hW rfl gL_law_X4_setTurning qx hx rfl kV_X4_setTurning ⟨Nat.le_of_ble_eq_true rfl, Nat.le_of_ble_eq_true rfl⟩ isW hcW hnW hsW rfl (Nat.le_of_ble_eq_true rfl) ⟨by have h9 := rm_c; show cells + mcW ≤ room_1.cells; omega, by have h9 := rm_s; show slots + msW ≤ room_1.slots; omega⟩ ?_
    refine h_aload_n F dL_law_490 rfl 2 rfl ?_
    refine h_aload_n F dL_law_491 rfl 0 rfl ?_
    refine h_iload F dL_law_492 4 rfl ?_
    refine h_iconst (v := 1) F dL_law_494 (by decide) ?_
    refine h_iadd F dL_law_495 ?_
    refine g_topr (y := nI (i + 1)) (nI_add i 1) ?_
    refine h_sld F S dL_law_496 (vp_in_nI (by omega) (by omega)) ?_
    refine g_topr (y := xs (i + 1)) (by rw [cl_nI (by omega)]) ?_
    refine h_if_eq_f (tgt := 504) F dL_law_497 (by decide) hz ?_
    refine h_iconst (v := 1) F dL_law_500 (by decide) ?_
    refine h_goto (tgt := 505) F dL_law_501 (by decide) ?_
    refine h_callV (ws' := ws2) F dL_law_505 hM rfl gL_law_X5_setTurning qy hy rfl kV_X5_setTurning ⟨Nat.le_of_ble_eq_true rfl, Nat.le_of_ble_eq_true rfl⟩ isM hcM hnM hsM rfl (Nat.le_of_ble_eq_true rfl) ⟨by have h9 := rm_c; show cells + mcW + mcM ≤ room_1.cells; omega, by have h9 := rm_s; show slots + msW + msM ≤ room_1.slots; omega⟩ ?_
    refine h_icmp_eq_t (tgt := 1297) F dL_law_508 (by decide) rfl ?_
    exact kk

set_option maxHeartbeats 4000000 in
set_option maxRecDepth 100000 in
theorem seg_setPressing {E : gE} {cL : ClassId} {X : gX} {hh : List (Nat × Nat × Nat × Nat)} {cells slots b n i x y oa mcW msW mcM msM qx qy : Nat} {xs : Nat → Int32} {r : Int32} {fx fy : List Value} {isW isM : List Nat} {ws ws1 ws2 W1 W1' W2 W2' : va_W} (F : gW E X cL_law RL wsL_law (some .boolean) room_1 9 hh) (S : gS X b n xs) (hi : i + 3 < n) (hn : n ≤ 2048)
    (hW : Ct E yX4_setPressing wsX4_setPressing ({ frames := 0, cells := mcW, slots := msW, locals := 0 }) [.ref x, .int (if xs (i + 1) = 0 then 0 else 1)] W1 (some (.int r)) W1') (hcW : isW.map (fun i => ws[i]?) = W1.map some) (hnW : va_nd isW = true) (hsW : wput ws isW W1' = ws1) (hx : ws[qx]? = some (x, .inr (4, fx)))
    (hM : Ct E yX5_setPressing wsX5_setPressing ({ frames := 0, cells := mcM, slots := msM, locals := 0 }) [.ref y, .int (if xs (i + 1) = 0 then 0 else 1)] W2 (some (.int r)) W2') (hcM : isM.map (fun i => ws1[i]?) = W2.map some) (hnM : va_nd isM = true) (hsM : wput ws1 isM W2' = ws2) (hy : ws1[qy]? = some (y, .inr (5, fy)))
    (hc : cells + mcW + mcM ≤ 600000) (hs : slots + msW + msM ≤ 7000000) (kk : G E X (cells + mcW + mcM) (slots + msW + msM) 1297 [(0, .ref b), (1, .ref x), (2, .ref y), (3, .ref oa), (4, .int (nI i))] [] ws2) : G E X cells slots 513 [(0, .ref b), (1, .ref x), (2, .ref y), (3, .ref oa), (4, .int (nI i))] [] ws := by
  by_cases hz : xs (i + 1) = 0
  · rw [if_pos hz] at hW hM
    refine h_aload_n F dL_law_513 rfl 1 rfl ?_
    refine h_aload_n F dL_law_514 rfl 0 rfl ?_
    refine h_iload F dL_law_515 4 rfl ?_
    refine h_iconst (v := 1) F dL_law_517 (by decide) ?_
    refine h_iadd F dL_law_518 ?_
    refine g_topr (y := nI (i + 1)) (nI_add i 1) ?_
    refine h_sld F S dL_law_519 (vp_in_nI (by omega) (by omega)) ?_
    refine g_topr (y := xs (i + 1)) (by rw [cl_nI (by omega)]) ?_
    refine h_if_eq_t (tgt := 527) F dL_law_520 (by decide) hz ?_
    refine h_iconst (v := 0) F dL_law_527 (by decide) ?_
    refine h_callV (ws' := ws1) F dL_law_528 hW rfl gL_law_X4_setPressing qx hx rfl kV_X4_setPressing ⟨Nat.le_of_ble_eq_true rfl, Nat.le_of_ble_eq_true rfl⟩ isW hcW hnW hsW rfl (Nat.le_of_ble_eq_true rfl) ⟨by have h9 := rm_c; show cells + mcW ≤ room_1.cells; omega, by have h9 := rm_s; show slots + msW ≤ room_1.slots; omega⟩ ?_
    refine h_aload_n F dL_law_531 rfl 2 rfl ?_
    refine h_aload_n F dL_law_532 rfl 0 rfl ?_
    refine h_iload F dL_law_533 4 rfl ?_
    refine h_iconst (v := 1) F dL_law_535 (by decide) ?_
    refine h_iadd F dL_law_536 ?_
    refine g_topr (y := nI (i + 1)) (nI_add i 1) ?_
    refine h_sld F S dL_law_537 (vp_in_nI (by omega) (by omega)) ?_
    refine g_topr (y := xs (i + 1)) (by rw [cl_nI (by omega)]) ?_
    refine h_if_eq_t (tgt := 545) F dL_law_538 (by decide) hz ?_
    refine h_iconst (v := 0) F dL_law_545 (by decide) ?_
    refine h_callV (ws' := ws2) F dL_law_546 hM rfl gL_law_X5_setPressing qy hy rfl kV_X5_setPressing ⟨Nat.le_of_ble_eq_true rfl, Nat.le_of_ble_eq_true rfl⟩ isM hcM hnM hsM rfl (Nat.le_of_ble_eq_true rfl) ⟨by have h9 := rm_c; show cells + mcW + mcM ≤ room_1.cells; omega, by have h9 := rm_s; show slots + msW + msM ≤ room_1.slots; omega⟩ ?_
    refine h_icmp_eq_t (tgt := 1297) F dL_law_549 (by decide) rfl ?_
    exact kk
  · rw [if_neg hz] at hW hM
    refine h_aload_n F dL_law_513 rfl 1 rfl ?_
    refine h_aload_n F dL_law_514 rfl 0 rfl ?_
    refine h_iload F dL_law_515 4 rfl ?_
    refine h_iconst (v := 1) F dL_law_517 (by decide) ?_
    refine h_iadd F dL_law_518 ?_
    refine g_topr (y := nI (i + 1)) (nI_add i 1) ?_
    refine h_sld F S dL_law_519 (vp_in_nI (by omega) (by omega)) ?_
    refine g_topr (y := xs (i + 1)) (by rw [cl_nI (by omega)]) ?_
    refine h_if_eq_f (tgt := 527) F dL_law_520 (by decide) hz ?_
    refine h_iconst (v := 1) F dL_law_523 (by decide) ?_
    refine h_goto (tgt := 528) F dL_law_524 (by decide) ?_
    refine h_callV (ws' := ws1) F dL_law_528 hW rfl gL_law_X4_setPressing qx hx rfl kV_X4_setPressing ⟨Nat.le_of_ble_eq_true rfl, Nat.le_of_ble_eq_true rfl⟩ isW hcW hnW hsW rfl (Nat.le_of_ble_eq_true rfl) ⟨by have h9 := rm_c; show cells + mcW ≤ room_1.cells; omega, by have h9 := rm_s; show slots + msW ≤ room_1.slots; omega⟩ ?_
    refine h_aload_n F dL_law_531 rfl 2 rfl ?_
    refine h_aload_n F dL_law_532 rfl 0 rfl ?_
    refine h_iload F dL_law_533 4 rfl ?_
    refine h_iconst (v := 1) F dL_law_535 (by decide) ?_
    refine h_iadd F dL_law_536 ?_
    refine g_topr (y := nI (i + 1)) (nI_add i 1) ?_
    refine h_sld F S dL_law_537 (vp_in_nI (by omega) (by omega)) ?_
    refine g_topr (y := xs (i + 1)) (by rw [cl_nI (by omega)]) ?_
    refine h_if_eq_f (tgt := 545) F dL_law_538 (by decide) hz ?_
    refine h_iconst (v := 1) F dL_law_541 (by decide) ?_
    refine h_goto (tgt := 546) F dL_law_542 (by decide) ?_
    refine h_callV (ws' := ws2) F dL_law_546 hM rfl gL_law_X5_setPressing qy hy rfl kV_X5_setPressing ⟨Nat.le_of_ble_eq_true rfl, Nat.le_of_ble_eq_true rfl⟩ isM hcM hnM hsM rfl (Nat.le_of_ble_eq_true rfl) ⟨by have h9 := rm_c; show cells + mcW + mcM ≤ room_1.cells; omega, by have h9 := rm_s; show slots + msW + msM ≤ room_1.slots; omega⟩ ?_
    refine h_icmp_eq_t (tgt := 1297) F dL_law_549 (by decide) rfl ?_
    exact kk

set_option maxHeartbeats 4000000 in
set_option maxRecDepth 100000 in
theorem seg_digest {E : gE} {cL : ClassId} {X : gX} {hh : List (Nat × Nat × Nat × Nat)} {cells slots b n i x y oa mcW msW mcM msM qx qy : Nat} {xs : Nat → Int32} {r : Int64} {fx fy : List Value} {isW isM : List Nat} {ws ws1 ws2 W1 W1' W2 W2' : va_W} (F : gW E X cL_law RL wsL_law (some .boolean) room_1 9 hh) (S : gS X b n xs) (hi : i + 3 < n) (hn : n ≤ 2048)
    (hW : Ct E yX4_digest wsX4_digest ({ frames := 6, cells := mcW, slots := msW, locals := 131 }) [.ref x] W1 (some (.long r)) W1') (hcW : isW.map (fun i => ws[i]?) = W1.map some) (hnW : va_nd isW = true) (hsW : wput ws isW W1' = ws1) (hx : ws[qx]? = some (x, .inr (4, fx)))
    (hM : Ct E yX5_digest wsX5_digest ({ frames := 6, cells := mcM, slots := msM, locals := 138 }) [.ref y] W2 (some (.long r)) W2') (hcM : isM.map (fun i => ws1[i]?) = W2.map some) (hnM : va_nd isM = true) (hsM : wput ws1 isM W2' = ws2) (hy : ws1[qy]? = some (y, .inr (5, fy)))
    (hc : cells + mcW + mcM ≤ 600000) (hs : slots + msW + msM ≤ 7000000) (kk : G E X (cells + mcW + mcM) (slots + msW + msM) 1297 [(0, .ref b), (1, .ref x), (2, .ref y), (3, .ref oa), (4, .int (nI i))] [] ws2) : G E X cells slots 1283 [(0, .ref b), (1, .ref x), (2, .ref y), (3, .ref oa), (4, .int (nI i))] [] ws := by
  refine h_aload_n F dL_law_1283 rfl 1 rfl ?_
  refine h_callV (ws' := ws1) F dL_law_1284 hW rfl gL_law_X4_digest qx hx rfl kV_X4_digest ⟨Nat.le_of_ble_eq_true rfl, Nat.le_of_ble_eq_true rfl⟩ isW hcW hnW hsW rfl (Nat.le_of_ble_eq_true rfl) ⟨by have h9 := rm_c; show cells + mcW ≤ room_1.cells; omega, by have h9 := rm_s; show slots + msW ≤ room_1.slots; omega⟩ ?_
  refine h_aload_n F dL_law_1287 rfl 2 rfl ?_
  refine h_callV (ws' := ws2) F dL_law_1288 hM rfl gL_law_X5_digest qy hy rfl kV_X5_digest ⟨Nat.le_of_ble_eq_true rfl, Nat.le_of_ble_eq_true rfl⟩ isM hcM hnM hsM rfl (Nat.le_of_ble_eq_true rfl) ⟨by have h9 := rm_c; show cells + mcW + mcM ≤ room_1.cells; omega, by have h9 := rm_s; show slots + msW + msM ≤ room_1.slots; omega⟩ ?_
  refine h_lcmp F dL_law_1291 ?_
  refine h_if_eq_t (tgt := 1297) F dL_law_1292 (by decide) (lg_cmp_self r) ?_
  exact kk

set_option maxHeartbeats 4000000 in
set_option maxRecDepth 100000 in
theorem seg_mean {E : gE} {cL : ClassId} {X : gX} {hh : List (Nat × Nat × Nat × Nat)} {cells slots b n i x y oa mcW msW mcM msM qx qy : Nat} {xs : Nat → Int32} {r : UInt64} {fx fy : List Value} {isW isM : List Nat} {ws ws1 ws2 W1 W1' W2 W2' : va_W} (F : gW E X cL_law RL wsL_law (some .boolean) room_1 9 hh) (S : gS X b n xs) (hi : i + 3 < n) (hn : n ≤ 2048)
    (hW : Ct E yX4_mean wsX4_mean ({ frames := 2, cells := mcW, slots := msW, locals := 43 }) [.ref x] W1 (some (.double r)) W1') (hcW : isW.map (fun i => ws[i]?) = W1.map some) (hnW : va_nd isW = true) (hsW : wput ws isW W1' = ws1) (hx : ws[qx]? = some (x, .inr (4, fx)))
    (hM : Ct E yX5_mean wsX5_mean ({ frames := 0, cells := mcM, slots := msM, locals := 0 }) [.ref y] W2 (some (.double r)) W2') (hcM : isM.map (fun i => ws1[i]?) = W2.map some) (hnM : va_nd isM = true) (hsM : wput ws1 isM W2' = ws2) (hy : ws1[qy]? = some (y, .inr (5, fy))) (hr : Op.cmpValue (FP.dcmp r r) .l = 0)
    (hc : cells + mcW + mcM ≤ 600000) (hs : slots + msW + msM ≤ 7000000) (kk : G E X (cells + mcW + mcM) (slots + msW + msM) 1297 [(0, .ref b), (1, .ref x), (2, .ref y), (3, .ref oa), (4, .int (nI i))] [] ws2) : G E X cells slots 1242 [(0, .ref b), (1, .ref x), (2, .ref y), (3, .ref oa), (4, .int (nI i))] [] ws := by
  refine h_aload_n F dL_law_1242 rfl 1 rfl ?_
  refine h_callV (ws' := ws1) F dL_law_1243 hW rfl gL_law_X4_mean qx hx rfl kV_X4_mean ⟨Nat.le_of_ble_eq_true rfl, Nat.le_of_ble_eq_true rfl⟩ isW hcW hnW hsW rfl (Nat.le_of_ble_eq_true rfl) ⟨by have h9 := rm_c; show cells + mcW ≤ room_1.cells; omega, by have h9 := rm_s; show slots + msW ≤ room_1.slots; omega⟩ ?_
  refine h_dstore (L' := [(0, .ref b), (1, .ref x), (2, .ref y), (3, .ref oa), (4, .int (nI i)), (5, .double r)]) F dL_law_1246 (by decide) [1, 2, 3, 4, 5, 0] rfl ?_
  refine h_aload_n F dL_law_1248 rfl 2 rfl ?_
  refine h_callV (ws' := ws2) F dL_law_1249 hM rfl gL_law_X5_mean qy hy rfl kV_X5_mean ⟨Nat.le_of_ble_eq_true rfl, Nat.le_of_ble_eq_true rfl⟩ isM hcM hnM hsM rfl (Nat.le_of_ble_eq_true rfl) ⟨by have h9 := rm_c; show cells + mcW + mcM ≤ room_1.cells; omega, by have h9 := rm_s; show slots + msW + msM ≤ room_1.slots; omega⟩ ?_
  refine h_dstore (L' := [(0, .ref b), (1, .ref x), (2, .ref y), (3, .ref oa), (4, .int (nI i)), (5, .double r), (7, .double r)]) F dL_law_1252 (by decide) [1, 2, 3, 4, 5, 6, 0] rfl ?_
  refine h_dload F dL_law_1254 5 rfl ?_
  refine h_dload F dL_law_1256 6 rfl ?_
  refine h_dcmp F dL_law_1258 ?_
  refine h_if_eq_t (tgt := 1280) F dL_law_1259 (by decide) hr ?_
  refine h_goto (tgt := 1297) F dL_law_1280 (by decide) ?_
  refine g_lv (L' := [(0, .ref b), (1, .ref x), (2, .ref y), (3, .ref oa), (4, .int (nI i))]) [0, 1, 2, 3, 4] rfl ?_
  exact kk
end PSEGT
