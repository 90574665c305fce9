/-! weaving both; the act; cells -/
section MWT
theorem wv_perm {a b c d e : Nat × va_E} {g2 g rs wm : va_W} : ([a, b, c, d, e] ++ (g2 ++ (g ++ (rs ++ wm)))).Perm (([a, b, c] ++ (g ++ (([d, e] ++ (g2 ++ [])) ++ wm))) ++ rs) := by
  show ([a, b, c] ++ ([d, e] ++ (g2 ++ (g ++ (rs ++ wm))))).Perm _
  rw [List.append_nil, List.append_assoc [a, b, c]]
  refine List.Perm.append_left _ ?_
  rw [← List.append_assoc [d, e], List.append_assoc g]
  refine (psw _ _ _).trans (List.Perm.append_left _ ?_)
  rw [List.append_assoc ([d, e] ++ g2)]
  exact List.Perm.append_left _ List.perm_append_comm
set_option maxHeartbeats 4000000 in
set_option maxRecDepth 100000 in
theorem la_595 {E : gE} {X : gX} {x y pa sa kpa kka : Nat} {r : Nat → Nat} {c : Nat → AF} {f th : AF} {m : Nat} {car tur pre : Int32} {n : Nat} {k kp : AF} {kq : Nat} {ko ko' : Int32} {rs wm : va_W} {N bS nS : Nat} {xs : Nat → Int32} {v : Int32} {q : Nat} (hq : q < 8) (F : gF E X cL_act RL wsL_act (some .boolean) ({ frames := 9, cells := 150, slots := 2586, locals := 172 }) 8) (S : gLX E X bS nS xs) (T9 : gTab X [(601, 607, 610, 86)]) (hQ : gEndL E X (ActPo E x y N (f, th, m, car, tur, pre, n, k, kp, kq, ko)) 150 2586) (hm : MWP E x (f, th, m, car, tur, pre, n, k, kp, kq, ko) wm) (hc : RW c f) (hkp : KP E kpa kka n k kp kq ko ko' rs) (hok : OkS N (f, th, m, car, tur, pre, n, k, kp, kq, ko)) (hN : N < 1000) : G E X 0 0 595 [(0, .ref x), (1, .ref y), (2, .int v), (3, .int (nI q))] [] ([(y, .inr (5, [.ref pa, .int (nI m), .int car, .int tur, .int pre, .ref sa, .int (nI n), .ref kpa, .ref kka, .int ko'])), (pa, qE E 8 r), (sa, .inl (E.2.2, 6, .inl th))] ++ (gW E r (fun _ => 12) c 8 ++ (rs ++ wm))) := by
  have i5 : ∀ w ∈ u_ws RX5 TX5 10, w ∈ wsL_act := gsub [323, 324, 325, 326, 327, 328, 329, 330, 331, 332] rfl
  obtain ⟨fsM, heM⟩ := hm.mem
  refine g_aload_n F dL_act_595 rfl 1 rfl ?_
  refine g_callVP (R := ([] ++ (rs ++ wm))) F dL_act_596 (c_X5_weave E y pa sa kpa kka car tur pre (nI n) ko' m r c th (by have := hok.2.2.1.1; omega) (hok.2.2.1.2)) rfl gL_act_X5_weave (List.mem_of_getElem? (i := 0) rfl) rfl kV_X5_weave ⟨by decide, by decide⟩ (ps4 (pmc (A := []) (pmc (A := []) (pmc (A := []) (List.Perm.nil)))) (by simp only [List.append_assoc, List.nil_append, List.append_nil]; exact List.Perm.refl _)) rfl (Nat.le_of_ble_eq_true rfl) ⟨by show 0 + 149 ≤ 150; omega, by show 0 + 2580 ≤ 2586; omega⟩ (fun ov596 V596 hV596 => ?_)
  rcases hV596 with ⟨hno, rfl, rfl⟩ | ⟨hyes, q1, q2, r2, rfl, rfl⟩
  · skip
    refine g_perm (ws' := ([(y, .inr (5, [.ref pa, .int (nI m), .int car, .int tur, .int pre, .ref sa, .int (nI n), .ref kpa, .ref kka, .int ko'])), (pa, qE E 8 r), (sa, .inl (E.2.2, 6, .inl th))] ++ (gW E r (fun _ => 12) c 8 ++ (rs ++ wm)))) ((ps4 (Ws := [(y, .inr (5, [.ref pa, .int (nI m), .int car, .int tur, .int pre, .ref sa, .int (nI n), .ref kpa, .ref kka, .int ko'])), (pa, qE E 8 r), (sa, .inl (E.2.2, 6, .inl th))]) (Wg := (gW E r (fun _ => 12) c 8 ++ [])) (Rs := []) (Rg := (rs ++ wm)) (List.Perm.refl _) (List.Perm.of_eq (by simp))).symm) ?_
    refine g_istore (L' := [(0, .ref x), (1, .ref y), (2, .int v), (3, .int (nI q)), (5, .int (-1))]) F dL_act_599 (by decide) [1, 2, 3, 4, 0] rfl ?_
    refine g_aload_n F dL_act_601 rfl 0 rfl ?_
    have hno2 : ¬ ∀ c, c < 6 → mCo (CL f m car tur) (nI c) 96 ≤ th c := fun h => hno (fun k hk => by
      rw [zCel_tie (zM_tie hc hok.1 hok.2.2.1.1 hok.2.2.1.2 hok.2.2.2.1 tur) (nI k) 8 (Nat.le_refl _)]
      exact h k hk)
    refine g_xcatchM (B := ([(y, .inr (5, [.ref pa, .int (nI m), .int car, .int tur, .int pre, .ref sa, .int (nI n), .ref kpa, .ref kka, .int ko'])), (pa, qE E 8 r), (sa, .inl (E.2.2, 6, .inl th))] ++ (gW E r (fun _ => 12) c 8 ++ rs))) (wm := wm) F S T9 dL_act_602 (m_weaveX hm hok hno2) rfl gL_act_X4_weave heM rfl kV_X4_weave rfl ⟨by decide, by decide⟩ (by simp only [List.append_assoc]) (by exact Nat.le_of_ble_eq_true rfl) ⟨by show 0 + 149 + 1 ≤ 150; omega, by show 0 + 2580 + 6 ≤ 2586; omega⟩ (601, 607, 610, 86) rfl (by decide) (by decide) (List.mem_of_getElem? (i := 1) rfl) (List.mem_of_getElem? (i := 2) rfl) (fun q602 V602 hmN => ?_)
    refine g_ws (ws' := ([(y, .inr (5, [.ref pa, .int (nI m), .int car, .int tur, .int pre, .ref sa, .int (nI n), .ref kpa, .ref kka, .int ko'])), (pa, qE E 8 r), (sa, .inl (E.2.2, 6, .inl th))] ++ (gW E r (fun _ => 12) c 8 ++ (rs ++ V602)))) (by simp only [List.append_assoc]) ?_
    refine g_astore (L' := [(0, .ref x), (1, .ref y), (2, .int v), (3, .int (nI q)), (5, .int (-1)), (6, .ref q602)]) F dL_act_610 (by decide) [1, 2, 3, 4, 5, 0] rfl ?_
    refine g_iconst (v := (-1)) F dL_act_612 (by decide) ?_
    refine g_istore (L' := [(0, .ref x), (1, .ref y), (2, .int v), (3, .int (nI q)), (4, .int (-1)), (5, .int (-1)), (6, .ref q602)]) F dL_act_613 (by decide) [1, 2, 3, 4, 0, 5, 6] rfl ?_
    refine g_iload F dL_act_615 4 rfl ?_
    refine g_iload F dL_act_617 5 rfl ?_
    refine g_icmp_ne_f (tgt := 626) F dL_act_619 (by decide) (fun z => z rfl) ?_
    refine g_iconst (v := 1) F dL_act_622 (by decide) ?_
    refine g_goto (tgt := 627) F dL_act_623 (by decide) ?_
    refine g_cs (cells' := 150) (slots' := 2586) (by show 0 + 149 + 1 ≤ 150; omega) (by show 0 + 2580 + 6 ≤ 2586; omega) ?_
    exact g_zretL F hQ dL_act_627 (Or.inr rfl) (act_end hmN hc hkp ⟨hok.1, hok.2.1, hok.2.2.1, hok.2.2.2.1, hok.2.2.2.2.1, hok.2.2.2.2.2.1, by have := hok.2.2.2.2.2.2.1; omega, hok.2.2.2.2.2.2.2⟩ (Or.inl ⟨rfl, Nat.le_add_right _ _⟩))
    -- so
  · skip
    refine g_perm (ws' := ([(y, .inr (5, [.ref pa, .int (nI m), .int car, .int tur, .int pre, .ref sa, .int (nI n + 1), .ref q1, .ref q2, .int (zOff c (zM c m car tur) (zPal c m) 8)])), (pa, qE E 8 r), (sa, .inl (E.2.2, 6, .inl (zTk th (zM c m car tur) 6))), (q1, .inl (E.2.2, zB c m, .inl (zPal c m))), (q2, qE E 8 r2)] ++ (gW E r2 (fun _ => 12) (zM c m car tur) 8 ++ (gW E r (fun _ => 12) c 8 ++ (rs ++ wm))))) ((ps4 (Ws := [(y, .inr (5, [.ref pa, .int (nI m), .int car, .int tur, .int pre, .ref sa, .int (nI n + 1), .ref q1, .ref q2, .int (zOff c (zM c m car tur) (zPal c m) 8)])), (pa, qE E 8 r), (sa, .inl (E.2.2, 6, .inl (zTk th (zM c m car tur) 6))), (q1, .inl (E.2.2, zB c m, .inl (zPal c m))), (q2, qE E 8 r2)]) (Wg := (gW E r2 (fun _ => 12) (zM c m car tur) 8 ++ (gW E r (fun _ => 12) c 8 ++ []))) (Rs := []) (Rg := (rs ++ wm)) (List.Perm.refl _) (List.Perm.of_eq (by simp))).symm) ?_
    have hRW := zM_tie hc hok.1 hok.2.2.1.1 hok.2.2.1.2 hok.2.2.2.1 tur
    have hm1 : 1 ≤ m := by have := hok.2.2.1.1; omega
    have hzB : zB c m = PQ f m := zB_m' hc hok.1 z0 hm1 hok.2.2.1.2
    have hzT : zTk th (zM c m car tur) 6 = mTk (CL f m car tur) th 6 := zTk_tie hRW 6 (Nat.le_refl _)
    have hq6 : PQ f m ≤ 6 := Nat.le_trans (PQ_m f hm1) hok.2.2.1.2
    have hpl : ∀ j, j < PQ f m → zPal c m j = PP f m j := zPal_m hc hok.1 z0 z0 hm1 hok.2.2.1.2
    have hzO : zOff c (zM c m car tur) (zPal c m) 8 = OF f m car tur := by rw [OF_S hm1 hok.2.2.1.2, zOff_tie hc hRW (CL_in hm1 hok.2.2.1.2 car tur) hq6 hpl 8 (Nat.le_refl _)]
    have hok2 : ∀ c, c < 6 → mCo (CL f m car tur) (nI c) 96 ≤ th c := fun k hk => by
      have h := hyes k hk
      rw [zCel_tie hRW (nI k) 8 (Nat.le_refl _)] at h
      exact h
    refine g_perm wv_perm (g_drop ?_)
    refine g_ws (ws' := ([(y, .inr (5, [.ref pa, .int (nI m), .int car, .int tur, .int pre, .ref sa, .int (nI (n + 1)), .ref q1, .ref q2, .int (zOff c (zM c m car tur) (zPal c m) 8)])), (pa, qE E 8 r), (sa, .inl (E.2.2, 6, .inl (mTk (CL f m car tur) th 6)))] ++ (gW E r (fun _ => 12) c 8 ++ (([(q1, .inl (E.2.2, PQ f m, .inl (zPal c m))), (q2, qE E 8 r2)] ++ (gW E r2 (fun _ => 12) (zM c m car tur) 8 ++ [])) ++ wm)))) (by rw [hzB, hzT, nI_1]) ?_
    refine g_istore (L' := [(0, .ref x), (1, .ref y), (2, .int v), (3, .int (nI q)), (5, .int (zAK (zM c m car tur) pre 8))]) F dL_act_599 (by decide) [1, 2, 3, 4, 0] rfl ?_
    refine g_aload_n F dL_act_601 rfl 0 rfl ?_
    refine g_callM (B := ([(y, .inr (5, [.ref pa, .int (nI m), .int car, .int tur, .int pre, .ref sa, .int (nI (n + 1)), .ref q1, .ref q2, .int (zOff c (zM c m car tur) (zPal c m) 8)])), (pa, qE E 8 r), (sa, .inl (E.2.2, 6, .inl (mTk (CL f m car tur) th 6)))] ++ (gW E r (fun _ => 12) c 8 ++ ([(q1, .inl (E.2.2, PQ f m, .inl (zPal c m))), (q2, qE E 8 r2)] ++ (gW E r2 (fun _ => 12) (zM c m car tur) 8 ++ []))))) (wm := wm) F dL_act_602 (m_weave hm hok hok2) rfl gL_act_X4_weave heM rfl kV_X4_weave ⟨by decide, by decide⟩ (by simp only [List.append_assoc]) rfl (by exact Nat.le_of_ble_eq_true rfl) ⟨by show 0 + 149 + 0 ≤ 150; omega, by show 0 + 2580 + 0 ≤ 2586; omega⟩ (fun ov602 V602 hV602 => ?_)
    obtain ⟨rfl, hmN⟩ := hV602
    refine g_ws (ws' := ([(y, .inr (5, [.ref pa, .int (nI m), .int car, .int tur, .int pre, .ref sa, .int (nI (n + 1)), .ref q1, .ref q2, .int (zOff c (zM c m car tur) (zPal c m) 8)])), (pa, qE E 8 r), (sa, .inl (E.2.2, 6, .inl (mTk (CL f m car tur) th 6)))] ++ (gW E r (fun _ => 12) c 8 ++ (([(q1, .inl (E.2.2, PQ f m, .inl (zPal c m))), (q2, qE E 8 r2)] ++ (gW E r2 (fun _ => 12) (zM c m car tur) 8 ++ [])) ++ V602)))) (by simp only [List.append_assoc]) ?_
    refine g_istore (L' := [(0, .ref x), (1, .ref y), (2, .int v), (3, .int (nI q)), (4, .int (mAK (CL f m car tur) pre 8)), (5, .int (zAK (zM c m car tur) pre 8))]) F dL_act_605 (by decide) [1, 2, 3, 4, 0, 5] rfl ?_
    refine g_goto (tgt := 615) F dL_act_607 (by decide) ?_
    refine g_iload F dL_act_615 4 rfl ?_
    refine g_iload F dL_act_617 5 rfl ?_
    refine g_icmp_ne_f (tgt := 626) F dL_act_619 (by decide) (fun z => z (zAK_tie hRW pre 8 (Nat.le_refl _)).symm) ?_
    refine g_iconst (v := 1) F dL_act_622 (by decide) ?_
    refine g_goto (tgt := 627) F dL_act_623 (by decide) ?_
    refine g_cs (cells' := 150) (slots' := 2586) (by show 0 + 149 + 0 ≤ 150; omega) (by show 0 + 2580 + 0 ≤ 2586; omega) ?_
    exact g_zretL F hQ dL_act_627 (Or.inr rfl) (act_end hmN hc (Or.inr ⟨Nat.succ_pos n, hzO, zPal c m, r2, zM c m car tur, rfl, hpl, hRW⟩) ⟨hok.1, okT.take hok.2.1 hok2, hok.2.2.1, hok.2.2.2.1, hok.2.2.2.2.1, hok.2.2.2.2.2.1, by have := hok.2.2.2.2.2.2.1; omega, fun _ => ⟨PQ_1 f m, hq6, CL_in hm1 hok.2.2.1.2 car tur, pp_256 hok.1 hm1 hok.2.2.1.2⟩⟩ (Or.inr ⟨rfl, tot_take hok.2.1 hok2 (fun j hj => by obtain ⟨v, h1, h2⟩ := CL_in hm1 hok.2.2.1.2 car tur j hj; exact ⟨v, by omega, h2⟩)⟩))
    -- so
set_option maxHeartbeats 4000000 in
set_option maxRecDepth 100000 in
theorem c_L_act {E : gE} {x y : Nat} {σ : SG} {ws wm : va_W} {N bS nS : Nat} {xs : Nat → Int32} (hs : SWP E y σ ws) (hm : MWP E x σ wm) (hok : OkS N σ) (hN : N < 1000) (v : Int32) : CtL E bS nS xs yL_act wsL_act ({ frames := 9, cells := 150, slots := 2586, locals := 172 }) [.ref x, .ref y, .int v] (ws ++ wm) (ActPo E x y N σ) := by
  refine CtL.ofW (cc := cL_act) (maxL := 8) (ret := some .boolean) (hh := [(601, 607, 610, 86)]) (own := RL) (L := [(0, .ref x), (1, .ref y), (2, .int v)]) (by decide) rfl rfl (Nat.le_of_ble_eq_true rfl) rfl ?_
  intro X F S T9 hQ
  obtain ⟨f, th, m, car, tur, pre, n, k, kp, kq, ko⟩ := σ
  obtain ⟨pa, sa, kpa, kka, r, c, ko', rs, rfl, hc, hkp⟩ := hs
  refine g_ws (ws' := ([(y, .inr (5, [.ref pa, .int (nI m), .int car, .int tur, .int pre, .ref sa, .int (nI n), .ref kpa, .ref kka, .int ko'])), (pa, qE E 8 r), (sa, .inl (E.2.2, 6, .inl th))] ++ (gW E r (fun _ => 12) c 8 ++ (rs ++ wm)))) (by simp only [List.append_assoc]) ?_
  refine g_iload_n F dL_act_0 rfl 2 rfl ?_
  refine g_iconst (v := 3) F dL_act_1 (by decide) ?_
  refine g_ishr F dL_act_2 ?_
  refine g_bipush (v := 8) F dL_act_3 (by decide) ?_
  refine g_callSA (R := ([(y, .inr (5, [.ref pa, .int (nI m), .int car, .int tur, .int pre, .ref sa, .int (nI n), .ref kpa, .ref kka, .int ko'])), (pa, qE E 8 r), (sa, .inl (E.2.2, 6, .inl th))] ++ (gW E r (fun _ => 12) c 8 ++ (rs ++ wm)))) F dL_act_5 (c_L_below E (v >>> (3 &&& 31)) 8 (by first | assumption | decide | omega) (by first | assumption | decide | omega)) rfl gL_act_L_below kS_L_below ⟨by decide, by decide⟩ (ps3 (pmc (A := []) (pmc (A := []) (pmc (A := []) (List.Perm.nil))))) rfl (Nat.le_of_ble_eq_true rfl) ⟨by show 0 + 0 ≤ 150; omega, by show 0 + 0 ≤ 2586; omega⟩ (fun a5 => ?_)
  refine g_ws (ws' := ([(y, .inr (5, [.ref pa, .int (nI m), .int car, .int tur, .int pre, .ref sa, .int (nI n), .ref kpa, .ref kka, .int ko'])), (pa, qE E 8 r), (sa, .inl (E.2.2, 6, .inl th))] ++ (gW E r (fun _ => 12) c 8 ++ (rs ++ wm)))) rfl ?_
  obtain ⟨q, hq, eq⟩ : ∃ b, b < 8 ∧ nI (zBl (v >>> (3 &&& 31)) 8) = nI b := zBl_ex _ (by decide)
  refine g_topr eq ?_
  refine g_istore_n (L' := [(0, .ref x), (1, .ref y), (2, .int v), (3, .int (nI q))]) F dL_act_8 rfl (by decide) [1, 2, 3, 0] rfl ?_
  refine g_iload_n F dL_act_9 rfl 2 rfl ?_
  refine g_bipush (v := 14) F dL_act_10 (by decide) ?_
  refine g_callSA (R := ([(y, .inr (5, [.ref pa, .int (nI m), .int car, .int tur, .int pre, .ref sa, .int (nI n), .ref kpa, .ref kka, .int ko'])), (pa, qE E 8 r), (sa, .inl (E.2.2, 6, .inl th))] ++ (gW E r (fun _ => 12) c 8 ++ (rs ++ wm)))) F dL_act_12 (c_L_below E v 14 (by first | assumption | decide | omega) (by first | assumption | decide | omega)) rfl gL_act_L_below kS_L_below ⟨by decide, by decide⟩ (ps3 (pmc (A := []) (pmc (A := []) (pmc (A := []) (List.Perm.nil))))) rfl (Nat.le_of_ble_eq_true rfl) ⟨by show 0 + 0 + 0 ≤ 150; omega, by show 0 + 0 + 0 ≤ 2586; omega⟩ (fun a12 => ?_)
  refine g_ws (ws' := ([(y, .inr (5, [.ref pa, .int (nI m), .int car, .int tur, .int pre, .ref sa, .int (nI n), .ref kpa, .ref kka, .int ko'])), (pa, qE E 8 r), (sa, .inl (E.2.2, 6, .inl th))] ++ (gW E r (fun _ => 12) c 8 ++ (rs ++ wm)))) rfl ?_
  obtain ⟨b1, hb1, eb1⟩ : ∃ b, b < 14 ∧ nI (zBl v 14) = nI b := zBl_ex _ (by decide)
  refine g_topr eb1 ?_
  rcases (by omega : b1 = 0 ∨ b1 = 1 ∨ b1 = 2 ∨ b1 = 3 ∨ b1 = 4 ∨ b1 = 5 ∨ b1 = 6 ∨ b1 = 7 ∨ b1 = 8 ∨ b1 = 9 ∨ b1 = 10 ∨ b1 = 11 ∨ b1 = 12 ∨ b1 = 13) with rfl | rfl | rfl | rfl | rfl | rfl | rfl | rfl | rfl | rfl | rfl | rfl | rfl | rfl
  · exact g_swIn (tgt := 72) F dL_act_15 (by decide) (by decide) rfl (by decide) (la_72 hq F S T9 hQ hm hc hkp hok hN)
  · exact g_swIn (tgt := 72) F dL_act_15 (by decide) (by decide) rfl (by decide) (la_72 hq F S T9 hQ hm hc hkp hok hN)
  · exact g_swIn (tgt := 138) F dL_act_15 (by decide) (by decide) rfl (by decide) (la_138 hq F S T9 hQ hm hc hkp hok hN)
  · exact g_swIn (tgt := 138) F dL_act_15 (by decide) (by decide) rfl (by decide) (la_138 hq F S T9 hQ hm hc hkp hok hN)
  · exact g_swIn (tgt := 138) F dL_act_15 (by decide) (by decide) rfl (by decide) (la_138 hq F S T9 hQ hm hc hkp hok hN)
  · exact g_swIn (tgt := 265) F dL_act_15 (by decide) (by decide) rfl (by decide) (la_265 hq F S T9 hQ hm hc hkp hok hN)
  · exact g_swIn (tgt := 363) F dL_act_15 (by decide) (by decide) rfl (by decide) (la_363 hq F S T9 hQ hm hc hkp hok hN)
  · exact g_swIn (tgt := 401) F dL_act_15 (by decide) (by decide) rfl (by decide) (la_401 hq F S T9 hQ hm hc hkp hok hN)
  · exact g_swIn (tgt := 437) F dL_act_15 (by decide) (by decide) rfl (by decide) (la_437 hq F S T9 hQ hm hc hkp hok hN)
  · exact g_swIn (tgt := 481) F dL_act_15 (by decide) (by decide) rfl (by decide) (la_481 hq F S T9 hQ hm hc hkp hok hN)
  · exact g_swIn (tgt := 525) F dL_act_15 (by decide) (by decide) rfl (by decide) (la_525 hq F S T9 hQ hm hc hkp hok hN)
  · exact g_swOut (tgt := 595) F dL_act_15 (by decide) (by decide) (la_595 hq F S T9 hQ hm hc hkp hok hN)
  · exact g_swOut (tgt := 595) F dL_act_15 (by decide) (by decide) (la_595 hq F S T9 hQ hm hc hkp hok hN)
  · exact g_swOut (tgt := 595) F dL_act_15 (by decide) (by decide) (la_595 hq F S T9 hQ hm hc hkp hok hN)
  -- so
set_option maxHeartbeats 4000000 in
set_option maxRecDepth 100000 in
theorem c_L_cell (E : gE) {bS nS : Nat} {xs : Nat → Int32} (hnS : nS < 2147483648) {k : Nat} (hk : k < 2147483648) : CtL E bS nS xs yL_cell wsL_cell ({ frames := 0, cells := 0, slots := 0, locals := 0 }) [.ref bS, .int (nI k)] [] (fun o V => V = [] ∧ ∃ v, o = some (.int v)) := by
  refine CtL.of (cc := cL_cell) (maxL := 2) (ret := some .int) (own := RL) (L := [(0, .ref bS), (1, .int (nI k))]) (by decide) rfl rfl (Nat.le_of_ble_eq_true rfl) rfl ?_
  intro X F S hQ
  refine g_iload_n F dL_cell_0 rfl 1 rfl ?_
  refine g_aload_n F dL_cell_1 rfl 0 rfl ?_
  refine g_slen F S dL_cell_2 ?_
  refine g_icmp_ge (tgt := 12) F dL_cell_3 (by decide) (fun k3 => ?_) (fun k3 => ?_)
  · skip
    refine g_ldc (v := 790386105) F dL_cell_12 (List.mem_of_getElem? (i := 1) rfl) ?_
    refine g_iload_n F dL_cell_14 rfl 1 rfl ?_
    refine g_iconst (v := 3) F dL_cell_15 (by decide) ?_
    refine g_iadd F dL_cell_16 ?_
    refine g_topr (y := nI (k + 3)) (nI_add _ 3) ?_
    refine g_imul F dL_cell_17 ?_
    exact g_iretP F hQ dL_cell_18 ⟨rfl, _, rfl⟩
  · skip
    refine g_aload_n F dL_cell_6 rfl 0 rfl ?_
    refine g_iload_n F dL_cell_7 rfl 1 rfl ?_
    refine g_sld F S dL_cell_8 (vp_in_nI (by rcases Nat.lt_or_ge k nS with z | z; exact z; exact absurd (le_nI z hk) k3) hnS) ?_
    refine g_goto (tgt := 18) F dL_cell_9 (by decide) ?_
    exact g_iretP F hQ dL_cell_18 ⟨rfl, _, rfl⟩
    -- so
  -- so
end MWT
