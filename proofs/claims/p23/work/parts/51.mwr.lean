/-! whether the Sim is as the class tells -/
section MWR
theorem ord_self {d : FP.Core.Datum} (h : d ≠ .nan) : FP.Core.order d d = some .eq := by
  have hc : ∀ z : Int, compare z z = .eq := fun z => by
    show compareOfLessAndEq z z = .eq
    unfold compareOfLessAndEq
    rw [if_neg (Int.lt_irrefl _), if_pos rfl]
  cases d with
  | nan => exact absurd rfl h
  | inf s => exact congrArg some (hc _)
  | fin s c q => exact congrArg some (hc _)
theorem sMean_form (s : Int32) : ∃ (b : Bool) (e : Nat), sMean s = UInt64.ofNat (b.toNat * 9223372036854775808 + e) ∧ e ≤ 9218868437227405312 := by
  have h0 : sMean s = UInt64.ofNat (FP.Core.encode FP.Core.b64 (FP.Core.quotient FP.Core.b64 (FP.Core.decode FP.Core.b64 (UInt64.ofNat (FP.Core.encode FP.Core.b64 (FP.Core.roundRatio FP.Core.b64 (decide (s.toInt < 0)) s.toInt.natAbs 1 0))).toNat) (FP.Core.decode FP.Core.b64 (4636455816377925632 : UInt64).toNat))) := rfl
  have h96 : FP.Core.decode FP.Core.b64 (4636455816377925632 : UInt64).toNat = .fin false 6755399441055744 (-46) := by decide +kernel
  rw [h96] at h0
  obtain ⟨b, e, h1, h2⟩ := dn_enc (dn_rr (decide (s.toInt < 0)) s.toInt.natAbs 1 0)
  rw [h1, dn_nat b e h2] at h0
  obtain ⟨b2, e2, h3, h4⟩ := dn_enc (dn_quot (dn_dec b e h2) false (-46) (d := 6755399441055744) (by decide))
  rw [h3] at h0
  exact ⟨b2, e2, h0, h4⟩
theorem mean_self (s : Int32) : Op.cmpValue (FP.dcmp (sMean s) (sMean s)) .l = 0 := by
  obtain ⟨b, e, h1, h2⟩ := sMean_form s
  have h3 : FP.dcmp (sMean s) (sMean s) = some .eq := by
    show FP.Core.order (FP.Core.decode FP.Core.b64 (sMean s).toNat) (FP.Core.decode FP.Core.b64 (sMean s).toNat) = _
    rw [h1, dn_nat b e h2]
    exact ord_self (dn_dec b e h2)
  rw [h3]
  rfl
theorem ge_no {i q : Nat} (h : nI q ≤ nI i) (hq : q ≤ 6) : ¬ i < q := fun z => nle_nI z (by omega) h
theorem ge_yes {i q : Nat} (h : ¬ nI q ≤ nI i) (hi : i < 6) : i < q := by
  rcases Nat.lt_or_ge i q with z | z
  · exact z
  · exact absurd (le_nI z (by omega)) h
theorem run_eq {g k : AF} {y i : Nat} (hg : ∀ x, x < 12 → g x = k (12 * y + x)) (hi : i < 2 * mRn k y) : mTold k y (i / 2) (nI (i % 2)) = (zRun g 12).1 (0 + i) := by
  obtain ⟨h1, h2⟩ := (zRun_tie hg).2 (i / 2) (by omega)
  rcases (by omega : i % 2 = 0 ∨ i % 2 = 1) with e | e
  · rw [e, show 0 + i = 2 * (i / 2) by omega, h1]; rfl
  · rw [e, show 0 + i = 2 * (i / 2) + 1 by omega, h2]; rfl
set_option maxHeartbeats 4000000 in
set_option maxRecDepth 100000 in
theorem c_X5_isSame_1 {E : gE} {x y pa sa kpa kka : Nat} {r r2 : Nat → Nat} {c d : Nat → AF} {f th : AF} {m : Nat} {car tur pre : Int32} {n : Nat} {k kp pl : AF} {kq : Nat} {ko ko' : Int32} {wm : va_W} {N : Nat} (hm : MWP E x (f, th, m, car, tur, pre, n, k, kp, kq, ko) wm) (hc : RW c f) (hok : OkS N (f, th, m, car, tur, pre, n, k, kp, kq, ko)) (hN : N < 1000) (hn0 : 0 < n) (hko : ko' = ko) (hpl : ∀ j, j < kq → pl j = kp j) (hd : RW d k) : CtP E yX5_isSame_ wsX5_isSame_ ({ frames := 9, cells := 70, slots := 4000, locals := 154 }) [.ref y, .ref x] ([(y, .inr (5, [.ref pa, .int (nI m), .int car, .int tur, .int pre, .ref sa, .int (nI n), .ref kpa, .ref kka, .int ko'])), (pa, qE E 8 r), (sa, .inl (E.2.2, 6, .inl th)), (kpa, .inl (E.2.2, kq, .inl pl)), (kka, qE E 8 r2)] ++ (gW E r (fun _ => 12) c 8 ++ (gW E r2 (fun _ => 12) d 8 ++ ([] ++ wm)))) (fun o V => o = some (.int 1)) := by
  refine CtP.of (cc := cX5_isSame_) (maxL := 8) (ret := some .boolean) (own := RX5) (L := [(0, .ref y), (1, .ref x)]) (by decide) rfl rfl (Nat.le_of_ble_eq_true rfl) rfl ?_
  intro X F hQ
  have i5 : ∀ w ∈ u_ws RX5 TX5 10, w ∈ wsX5_isSame_ := gsub [233, 234, 235, 236, 237, 238, 239, 240, 241, 242] rfl
  have hn : n < 2147483648 := by have := hok.2.2.2.2.2.2.1; omega
  have hm1 : 1 ≤ m := by have := hok.2.2.1.1; omega
  have hm6 : m ≤ 6 := hok.2.2.1.2
  have hq6 : kq ≤ 6 := (hok.2.2.2.2.2.2.2 hn0).2.1
  have hp6 : PQ f m ≤ 6 := Nat.le_trans (PQ_m f hm1) hm6
  have hpp : ∀ j, j < PQ f m → zPal c m j = PP f m j := zPal_m hc hok.1 z0 z0 hm1 hm6
  refine g_iconst (v := 0) F dX5_isSame__0 (by decide) ?_
  refine g_istore_n (L' := [(0, .ref y), (1, .ref x), (2, .int 0)]) F dX5_isSame__1 rfl (by decide) [1, 2, 0] rfl ?_
  refine g_iconst (v := 0) F dX5_isSame__2 (by decide) ?_
  refine g_istore_n (L' := [(0, .ref y), (1, .ref x), (2, .int 0), (3, .int 0)]) F dX5_isSame__3 rfl (by decide) [1, 2, 3, 0] rfl ?_
  have lp4 : ∀ (n4 i4 : Nat), i4 + n4 = 6 → ∀ (w4 : va_W), (MWP E x (f, th, m, car, tur, pre, n, k, kp, kq, ko) w4) → G E X 0 0 4 [(0, .ref y), (1, .ref x), (2, .int (mHold th i4)), (3, .int (nI i4))] [] ([(y, .inr (5, [.ref pa, .int (nI m), .int car, .int tur, .int pre, .ref sa, .int (nI n), .ref kpa, .ref kka, .int ko'])), (pa, qE E 8 r), (sa, .inl (E.2.2, 6, .inl th)), (kpa, .inl (E.2.2, kq, .inl pl)), (kka, qE E 8 r2)] ++ (gW E r (fun _ => 12) c 8 ++ (gW E r2 (fun _ => 12) d 8 ++ ([] ++ w4)))) := by
    intro n4
    induction n4 with
    | zero =>
      intro i4 hi4 w4  hm4
      have he4 : i4 = 6 := by omega
      rw [he4]
      refine g_iload_n F dX5_isSame__4 rfl 3 rfl ?_
      refine g_bipush (v := 6) F dX5_isSame__5 (by decide) ?_
      refine g_icmp_ge_t (tgt := 87) F dX5_isSame__7 (by decide) (by decide) ?_
      refine g_bipush (v := 8) F dX5_isSame__87 (by decide) ?_
      refine g_newa (N' := 8) F dX5_isSame__89 (List.mem_of_getElem? (i := 4) rfl) (by decide) (rfl) (by omega) (by show 0 + 1 ≤ 70; omega) (by show 0 + 8 ≤ 4000; omega) (fun q89 => g_front ?_)
      refine g_ws (ws' := ([(q89, .inl (E.2.2, 8, .inl (fun _ => 0))), (y, .inr (5, [.ref pa, .int (nI m), .int car, .int tur, .int pre, .ref sa, .int (nI n), .ref kpa, .ref kka, .int ko'])), (pa, qE E 8 r), (sa, .inl (E.2.2, 6, .inl th)), (kpa, .inl (E.2.2, kq, .inl pl)), (kka, qE E 8 r2)] ++ (gW E r (fun _ => 12) c 8 ++ (gW E r2 (fun _ => 12) d 8 ++ ([] ++ w4))))) rfl ?_
      refine g_dup F dX5_isSame__91 rfl ?_
      refine g_iconst (v := 0) F dX5_isSame__92 (by decide) ?_
      refine g_aload_n F dX5_isSame__93 rfl 0 rfl ?_
      refine g_get F dX5_isSame__94 1 rfl rfl i5 1 (by decide) rfl (List.mem_of_getElem? (i := 5) rfl) ?_
      refine g_iastN (k := 0) (ws' := ([(q89, .inl (E.2.2, 8, .inl (upd (fun _ => 0) 0 (nI m)))), (y, .inr (5, [.ref pa, .int (nI m), .int car, .int tur, .int pre, .ref sa, .int (nI n), .ref kpa, .ref kka, .int ko'])), (pa, qE E 8 r), (sa, .inl (E.2.2, 6, .inl th)), (kpa, .inl (E.2.2, kq, .inl pl)), (kka, qE E 8 r2)] ++ (gW E r (fun _ => 12) c 8 ++ (gW E r2 (fun _ => 12) d 8 ++ ([] ++ w4))))) F dX5_isSame__97 0 rfl (by omega) (by first | decide | omega) rfl ?_
      refine g_dup F dX5_isSame__98 rfl ?_
      refine g_iconst (v := 1) F dX5_isSame__99 (by decide) ?_
      refine g_aload_n F dX5_isSame__100 rfl 0 rfl ?_
      refine g_get F dX5_isSame__101 1 rfl rfl i5 2 (by decide) rfl (List.mem_of_getElem? (i := 6) rfl) ?_
      refine g_iastN (k := 1) (ws' := ([(q89, .inl (E.2.2, 8, .inl (upd (upd (fun _ => 0) 0 (nI m)) 1 car))), (y, .inr (5, [.ref pa, .int (nI m), .int car, .int tur, .int pre, .ref sa, .int (nI n), .ref kpa, .ref kka, .int ko'])), (pa, qE E 8 r), (sa, .inl (E.2.2, 6, .inl th)), (kpa, .inl (E.2.2, kq, .inl pl)), (kka, qE E 8 r2)] ++ (gW E r (fun _ => 12) c 8 ++ (gW E r2 (fun _ => 12) d 8 ++ ([] ++ w4))))) F dX5_isSame__104 0 rfl (by omega) (by first | decide | omega) rfl ?_
      refine g_dup F dX5_isSame__105 rfl ?_
      refine g_iconst (v := 2) F dX5_isSame__106 (by decide) ?_
      refine g_aload_n F dX5_isSame__107 rfl 0 rfl ?_
      refine g_get F dX5_isSame__108 1 rfl rfl i5 3 (by decide) rfl (List.mem_of_getElem? (i := 7) rfl) ?_
      have jn119 : G E X (0 + 1) (0 + 8) 119 [(0, .ref y), (1, .ref x), (2, .int (mHold th 6)), (3, .int (nI 6))] [.int (if tur = 0 then 0 else 1), .int 2, .ref q89, .ref q89] ([(q89, .inl (E.2.2, 8, .inl (upd (upd (fun _ => 0) 0 (nI m)) 1 car))), (y, .inr (5, [.ref pa, .int (nI m), .int car, .int tur, .int pre, .ref sa, .int (nI n), .ref kpa, .ref kka, .int ko'])), (pa, qE E 8 r), (sa, .inl (E.2.2, 6, .inl th)), (kpa, .inl (E.2.2, kq, .inl pl)), (kka, qE E 8 r2)] ++ (gW E r (fun _ => 12) c 8 ++ (gW E r2 (fun _ => 12) d 8 ++ ([] ++ w4)))) := by
        refine g_iastN (k := 2) (ws' := ([(q89, .inl (E.2.2, 8, .inl (upd (upd (upd (fun _ => 0) 0 (nI m)) 1 car) 2 (if tur = 0 then 0 else 1)))), (y, .inr (5, [.ref pa, .int (nI m), .int car, .int tur, .int pre, .ref sa, .int (nI n), .ref kpa, .ref kka, .int ko'])), (pa, qE E 8 r), (sa, .inl (E.2.2, 6, .inl th)), (kpa, .inl (E.2.2, kq, .inl pl)), (kka, qE E 8 r2)] ++ (gW E r (fun _ => 12) c 8 ++ (gW E r2 (fun _ => 12) d 8 ++ ([] ++ w4))))) F dX5_isSame__119 0 rfl (by omega) (by first | decide | omega) rfl ?_
        refine g_dup F dX5_isSame__120 rfl ?_
        refine g_iconst (v := 3) F dX5_isSame__121 (by decide) ?_
        refine g_aload_n F dX5_isSame__122 rfl 0 rfl ?_
        refine g_get F dX5_isSame__123 1 rfl rfl i5 4 (by decide) rfl (List.mem_of_getElem? (i := 8) rfl) ?_
        have jn134 : G E X (0 + 1) (0 + 8) 134 [(0, .ref y), (1, .ref x), (2, .int (mHold th 6)), (3, .int (nI 6))] [.int (if pre = 0 then 0 else 1), .int 3, .ref q89, .ref q89] ([(q89, .inl (E.2.2, 8, .inl (upd (upd (upd (fun _ => 0) 0 (nI m)) 1 car) 2 (if tur = 0 then 0 else 1)))), (y, .inr (5, [.ref pa, .int (nI m), .int car, .int tur, .int pre, .ref sa, .int (nI n), .ref kpa, .ref kka, .int ko'])), (pa, qE E 8 r), (sa, .inl (E.2.2, 6, .inl th)), (kpa, .inl (E.2.2, kq, .inl pl)), (kka, qE E 8 r2)] ++ (gW E r (fun _ => 12) c 8 ++ (gW E r2 (fun _ => 12) d 8 ++ ([] ++ w4)))) := by
          refine g_iastN (k := 3) (ws' := ([(q89, .inl (E.2.2, 8, .inl (upd (upd (upd (upd (fun _ => 0) 0 (nI m)) 1 car) 2 (if tur = 0 then 0 else 1)) 3 (if pre = 0 then 0 else 1)))), (y, .inr (5, [.ref pa, .int (nI m), .int car, .int tur, .int pre, .ref sa, .int (nI n), .ref kpa, .ref kka, .int ko'])), (pa, qE E 8 r), (sa, .inl (E.2.2, 6, .inl th)), (kpa, .inl (E.2.2, kq, .inl pl)), (kka, qE E 8 r2)] ++ (gW E r (fun _ => 12) c 8 ++ (gW E r2 (fun _ => 12) d 8 ++ ([] ++ w4))))) F dX5_isSame__134 0 rfl (by omega) (by first | decide | omega) rfl ?_
          refine g_dup F dX5_isSame__135 rfl ?_
          refine g_iconst (v := 4) F dX5_isSame__136 (by decide) ?_
          refine g_aload_n F dX5_isSame__137 rfl 0 rfl ?_
          refine g_get F dX5_isSame__138 1 rfl rfl i5 6 (by decide) rfl (List.mem_of_getElem? (i := 9) rfl) ?_
          refine g_iastN (k := 4) (ws' := ([(q89, .inl (E.2.2, 8, .inl (upd (upd (upd (upd (upd (fun _ => 0) 0 (nI m)) 1 car) 2 (if tur = 0 then 0 else 1)) 3 (if pre = 0 then 0 else 1)) 4 (nI n)))), (y, .inr (5, [.ref pa, .int (nI m), .int car, .int tur, .int pre, .ref sa, .int (nI n), .ref kpa, .ref kka, .int ko'])), (pa, qE E 8 r), (sa, .inl (E.2.2, 6, .inl th)), (kpa, .inl (E.2.2, kq, .inl pl)), (kka, qE E 8 r2)] ++ (gW E r (fun _ => 12) c 8 ++ (gW E r2 (fun _ => 12) d 8 ++ ([] ++ w4))))) F dX5_isSame__141 0 rfl (by omega) (by first | decide | omega) rfl ?_
          refine g_dup F dX5_isSame__142 rfl ?_
          refine g_iconst (v := 5) F dX5_isSame__143 (by decide) ?_
          refine g_iload_n F dX5_isSame__144 rfl 2 rfl ?_
          refine g_iastN (k := 5) (ws' := ([(q89, .inl (E.2.2, 8, .inl (upd (upd (upd (upd (upd (upd (fun _ => 0) 0 (nI m)) 1 car) 2 (if tur = 0 then 0 else 1)) 3 (if pre = 0 then 0 else 1)) 4 (nI n)) 5 (mHold th 6)))), (y, .inr (5, [.ref pa, .int (nI m), .int car, .int tur, .int pre, .ref sa, .int (nI n), .ref kpa, .ref kka, .int ko'])), (pa, qE E 8 r), (sa, .inl (E.2.2, 6, .inl th)), (kpa, .inl (E.2.2, kq, .inl pl)), (kka, qE E 8 r2)] ++ (gW E r (fun _ => 12) c 8 ++ (gW E r2 (fun _ => 12) d 8 ++ ([] ++ w4))))) F dX5_isSame__145 0 rfl (by omega) (by first | decide | omega) rfl ?_
          refine g_dup F dX5_isSame__146 rfl ?_
          refine g_bipush (v := 6) F dX5_isSame__147 (by decide) ?_
          refine g_aload_n F dX5_isSame__149 rfl 0 rfl ?_
          refine g_get F dX5_isSame__150 1 rfl rfl i5 9 (by decide) rfl (List.mem_of_getElem? (i := 10) rfl) ?_
          refine g_iastN (k := 6) (ws' := ([(q89, .inl (E.2.2, 8, .inl (upd (upd (upd (upd (upd (upd (upd (fun _ => 0) 0 (nI m)) 1 car) 2 (if tur = 0 then 0 else 1)) 3 (if pre = 0 then 0 else 1)) 4 (nI n)) 5 (mHold th 6)) 6 ko'))), (y, .inr (5, [.ref pa, .int (nI m), .int car, .int tur, .int pre, .ref sa, .int (nI n), .ref kpa, .ref kka, .int ko'])), (pa, qE E 8 r), (sa, .inl (E.2.2, 6, .inl th)), (kpa, .inl (E.2.2, kq, .inl pl)), (kka, qE E 8 r2)] ++ (gW E r (fun _ => 12) c 8 ++ (gW E r2 (fun _ => 12) d 8 ++ ([] ++ w4))))) F dX5_isSame__153 0 rfl (by omega) (by first | decide | omega) rfl ?_
          refine g_dup F dX5_isSame__154 rfl ?_
          refine g_bipush (v := 7) F dX5_isSame__155 (by decide) ?_
          refine g_aload_n F dX5_isSame__157 rfl 0 rfl ?_
          refine g_aload_n F dX5_isSame__158 rfl 0 rfl ?_
          refine g_get F dX5_isSame__159 1 rfl rfl i5 8 (by decide) rfl (List.mem_of_getElem? (i := 2) rfl) ?_
          refine g_callVA (R := ([(q89, .inl (E.2.2, 8, .inl (upd (upd (upd (upd (upd (upd (upd (fun _ => 0) 0 (nI m)) 1 car) 2 (if tur = 0 then 0 else 1)) 3 (if pre = 0 then 0 else 1)) 4 (nI n)) 5 (mHold th 6)) 6 ko'))), (pa, qE E 8 r), (sa, .inl (E.2.2, 6, .inl th)), (kpa, .inl (E.2.2, kq, .inl pl))] ++ (gW E r (fun _ => 12) c 8 ++ ([] ++ w4)))) F dX5_isSame__162 (c_X5_knots_ E y pa sa kpa kka (nI m) car tur pre (nI n) ko' kka r2 d ) rfl gX5_isSame__X5_knots_ (List.mem_of_getElem? (i := 1) rfl) rfl kV_X5_knots_ ⟨by decide, by decide⟩ (ps4 (pmc (A := [_, _]) (pmc (A := []) (pmc (A := [_]) (pmc (A := [_]) (pmc (A := [_]) (pmc (A := []) (List.Perm.nil))))))) (by simp only [List.append_assoc, List.nil_append, List.append_nil]; exact psw _ _ _)) rfl (Nat.le_of_ble_eq_true rfl) ⟨by show 0 + 1 + 16 ≤ 70; omega, by show 0 + 8 + 960 ≤ 4000; omega⟩ (fun a162 => ?_)
          refine g_ws (ws' := ([(q89, .inl (E.2.2, 8, .inl (upd (upd (upd (upd (upd (upd (upd (fun _ => 0) 0 (nI m)) 1 car) 2 (if tur = 0 then 0 else 1)) 3 (if pre = 0 then 0 else 1)) 4 (nI n)) 5 (mHold th 6)) 6 ko'))), (y, .inr (5, [.ref pa, .int (nI m), .int car, .int tur, .int pre, .ref sa, .int (nI n), .ref kpa, .ref kka, .int ko'])), (pa, qE E 8 r), (sa, .inl (E.2.2, 6, .inl th)), (kpa, .inl (E.2.2, kq, .inl pl)), (kka, qE E 8 r2)] ++ (gW E r (fun _ => 12) c 8 ++ (gW E r2 (fun _ => 12) d 8 ++ ([] ++ w4))))) rfl ?_
          refine g_iastN (k := 7) (ws' := ([(q89, .inl (E.2.2, 8, .inl (upd (upd (upd (upd (upd (upd (upd (upd (fun _ => 0) 0 (nI m)) 1 car) 2 (if tur = 0 then 0 else 1)) 3 (if pre = 0 then 0 else 1)) 4 (nI n)) 5 (mHold th 6)) 6 ko') 7 (zAK d pre 8)))), (y, .inr (5, [.ref pa, .int (nI m), .int car, .int tur, .int pre, .ref sa, .int (nI n), .ref kpa, .ref kka, .int ko'])), (pa, qE E 8 r), (sa, .inl (E.2.2, 6, .inl th)), (kpa, .inl (E.2.2, kq, .inl pl)), (kka, qE E 8 r2)] ++ (gW E r (fun _ => 12) c 8 ++ (gW E r2 (fun _ => 12) d 8 ++ ([] ++ w4))))) F dX5_isSame__165 0 rfl (by omega) (by first | decide | omega) rfl ?_
          obtain ⟨g9, hg9⟩ : ∃ g : AF, g = upd (upd (upd (upd (upd (upd (upd (upd (fun _ => 0) 0 (nI m)) 1 car) 2 (if tur = 0 then 0 else 1)) 3 (if pre = 0 then 0 else 1)) 4 (nI n)) 5 (mHold th 6)) 6 ko') 7 (zAK d pre 8) := ⟨_, rfl⟩
          have hcnt : ∀ w, w < 8 → mCnt (nI m) car tur pre (nI n) (if n = 0 then 0 else ko) th k w = g9 w := by
            intro w hw
            rw [hg9]
            match w, hw with
            | 0, _ => rfl
            | 1, _ => rfl
            | 2, _ => rfl
            | 3, _ => rfl
            | 4, _ => rfl
            | 5, _ => rfl
            | 6, _ => exact (if_neg (by omega)).trans hko.symm
            | 7, _ => exact (if_neg (fun z => absurd ((nI_le0 hn).mp z) (by omega))).trans (zAK_tie hd pre 8 (Nat.le_refl _)).symm
          refine g_ws (ws' := ([(q89, .inl (E.2.2, 8, .inl g9)), (y, .inr (5, [.ref pa, .int (nI m), .int car, .int tur, .int pre, .ref sa, .int (nI n), .ref kpa, .ref kka, .int ko'])), (pa, qE E 8 r), (sa, .inl (E.2.2, 6, .inl th)), (kpa, .inl (E.2.2, kq, .inl pl)), (kka, qE E 8 r2)] ++ (gW E r (fun _ => 12) c 8 ++ (gW E r2 (fun _ => 12) d 8 ++ ([] ++ w4))))) (by rw [hg9]) ?_
          clear hg9
          refine g_astore_n (L' := [(0, .ref y), (1, .ref x), (2, .int (mHold th 6)), (3, .ref q89)]) F dX5_isSame__166 rfl (by decide) [1, 2, 3, 0] rfl ?_
          refine g_iconst (v := 0) F dX5_isSame__167 (by decide) ?_
          refine g_istore (L' := [(0, .ref y), (1, .ref x), (2, .int (mHold th 6)), (3, .ref q89), (4, .int 0)]) F dX5_isSame__168 (by decide) [1, 2, 3, 4, 0] rfl ?_
          have lp170 : ∀ (n170 i170 : Nat), i170 + n170 = 8 → ∀ (w170 : va_W), (MWP E x (f, th, m, car, tur, pre, n, k, kp, kq, ko) w170) → G E X 17 968 170 [(0, .ref y), (1, .ref x), (2, .int (mHold th 6)), (3, .ref q89), (4, .int (nI i170))] [] ([(q89, .inl (E.2.2, 8, .inl g9)), (y, .inr (5, [.ref pa, .int (nI m), .int car, .int tur, .int pre, .ref sa, .int (nI n), .ref kpa, .ref kka, .int ko'])), (pa, qE E 8 r), (sa, .inl (E.2.2, 6, .inl th)), (kpa, .inl (E.2.2, kq, .inl pl)), (kka, qE E 8 r2)] ++ (gW E r (fun _ => 12) c 8 ++ (gW E r2 (fun _ => 12) d 8 ++ ([] ++ w170)))) := by
            intro n170
            induction n170 with
            | zero =>
              intro i170 hi170 w170  hm170
              have he170 : i170 = 8 := by omega
              rw [he170]
              refine g_iload F dX5_isSame__170 4 rfl ?_
              refine g_bipush (v := 8) F dX5_isSame__172 (by decide) ?_
              refine g_icmp_ge_t (tgt := 198) F dX5_isSame__174 (by decide) (by decide) ?_
              refine g_iconst (v := 0) F dX5_isSame__198 (by decide) ?_
              refine g_istore (L' := [(0, .ref y), (1, .ref x), (2, .int (mHold th 6)), (3, .ref q89), (4, .int 0)]) F dX5_isSame__199 (by decide) [1, 2, 3, 4, 0] rfl ?_
              refine g_iconst (v := 0) F dX5_isSame__201 (by decide) ?_
              refine g_istore (L' := [(0, .ref y), (1, .ref x), (2, .int (mHold th 6)), (3, .ref q89), (4, .int 0), (5, .int 0)]) F dX5_isSame__202 (by decide) [1, 2, 3, 4, 5, 0] rfl ?_
              have lp204 : ∀ (n204 i204 : Nat), i204 + n204 = 8 → ∀ (w204 : va_W), (MWP E x (f, th, m, car, tur, pre, n, k, kp, kq, ko) w204) → G E X (17 + 4 * i204) (968 + 240 * i204) 204 [(0, .ref y), (1, .ref x), (2, .int (mHold th 6)), (3, .ref q89), (4, .int (mSumF f (12 * i204))), (5, .int (nI i204))] [] ([(q89, .inl (E.2.2, 8, .inl g9)), (y, .inr (5, [.ref pa, .int (nI m), .int car, .int tur, .int pre, .ref sa, .int (nI n), .ref kpa, .ref kka, .int ko'])), (pa, qE E 8 r), (sa, .inl (E.2.2, 6, .inl th)), (kpa, .inl (E.2.2, kq, .inl pl)), (kka, qE E 8 r2)] ++ (gW E r (fun _ => 12) c 8 ++ (gW E r2 (fun _ => 12) d 8 ++ ([] ++ w204)))) := by
                intro n204
                induction n204 with
                | zero =>
                  intro i204 hi204 w204  hm204
                  have he204 : i204 = 8 := by omega
                  rw [he204]
                  refine g_iload F dX5_isSame__204 5 rfl ?_
                  refine g_bipush (v := 8) F dX5_isSame__206 (by decide) ?_
                  refine g_icmp_ge_t (tgt := 383) F dX5_isSame__208 (by decide) (by decide) ?_
                  refine g_aload_n F dX5_isSame__383 rfl 0 rfl ?_
                  refine g_aload_n F dX5_isSame__384 rfl 0 rfl ?_
                  refine g_get F dX5_isSame__385 1 rfl rfl i5 1 (by decide) rfl (List.mem_of_getElem? (i := 5) rfl) ?_
                  refine g_callVA (R := ([(q89, .inl (E.2.2, 8, .inl g9)), (sa, .inl (E.2.2, 6, .inl th)), (kpa, .inl (E.2.2, kq, .inl pl)), (kka, qE E 8 r2)] ++ (gW E r2 (fun _ => 12) d 8 ++ ([] ++ w204)))) F dX5_isSame__388 (c_X5_pal E y pa sa kpa kka (nI m) car tur pre (nI n) ko' m r c (by first | assumption | decide | omega) (by first | assumption | decide | omega)) rfl gX5_isSame__X5_palette (List.mem_of_getElem? (i := 1) rfl) rfl kV_X5_palette ⟨by decide, by decide⟩ (ps4 (pmc (A := [_, _]) (pmc (A := []) (pmc (A := []) (pmc (A := []) (pmc (A := []) (pmc (A := []) (List.Perm.nil))))))) (by simp only [List.append_assoc, List.nil_append, List.append_nil]; exact List.Perm.refl _)) rfl (Nat.le_of_ble_eq_true rfl) ⟨by show 17 + 4 * 8 + 18 ≤ 70; omega, by show 968 + 240 * 8 + 1093 ≤ 4000; omega⟩ (fun a388 => ?_)
                  refine g_ws (ws' := ([((a388 0), .inl (E.2.2, zB c m, .inl (zPal c m))), (q89, .inl (E.2.2, 8, .inl g9)), (y, .inr (5, [.ref pa, .int (nI m), .int car, .int tur, .int pre, .ref sa, .int (nI n), .ref kpa, .ref kka, .int ko'])), (pa, qE E 8 r), (sa, .inl (E.2.2, 6, .inl th)), (kpa, .inl (E.2.2, kq, .inl pl)), (kka, qE E 8 r2)] ++ (gW E r (fun _ => 12) c 8 ++ (gW E r2 (fun _ => 12) d 8 ++ ([] ++ w204))))) rfl ?_
                  have hzB : zB c m = PQ f m := zB_m' hc hok.1 z0 hm1 hm6
                  refine g_ws (ws' := ([((a388 0), .inl (E.2.2, PQ f m, .inl (zPal c m))), (q89, .inl (E.2.2, 8, .inl g9)), (y, .inr (5, [.ref pa, .int (nI m), .int car, .int tur, .int pre, .ref sa, .int (nI n), .ref kpa, .ref kka, .int ko'])), (pa, qE E 8 r), (sa, .inl (E.2.2, 6, .inl th)), (kpa, .inl (E.2.2, kq, .inl pl)), (kka, qE E 8 r2)] ++ (gW E r (fun _ => 12) c 8 ++ (gW E r2 (fun _ => 12) d 8 ++ ([] ++ w204))))) (by rw [hzB]) ?_
                  refine g_astore (L' := [(0, .ref y), (1, .ref x), (2, .int (mHold th 6)), (3, .ref q89), (4, .int (mSumF f (12 * 8))), (5, .ref (a388 0))]) F dX5_isSame__391 (by decide) [1, 2, 3, 4, 5, 0] rfl ?_
                  refine g_iconst (v := 0) F dX5_isSame__393 (by decide) ?_
                  refine g_istore (L' := [(0, .ref y), (1, .ref x), (2, .int (mHold th 6)), (3, .ref q89), (4, .int (mSumF f (12 * 8))), (5, .ref (a388 0)), (6, .int 0)]) F dX5_isSame__394 (by decide) [1, 2, 3, 4, 5, 6, 0] rfl ?_
                  have lp396 : ∀ (n396 i396 : Nat), i396 + n396 = 6 → ∀ (w396 : va_W), (MWP E x (f, th, m, car, tur, pre, n, k, kp, kq, ko) w396) → G E X (17 + 4 * 8 + 18) (968 + 240 * 8 + 1093) 396 [(0, .ref y), (1, .ref x), (2, .int (mHold th 6)), (3, .ref q89), (4, .int (mSumF f (12 * 8))), (5, .ref (a388 0)), (6, .int (nI i396))] [] ([((a388 0), .inl (E.2.2, PQ f m, .inl (zPal c m))), (q89, .inl (E.2.2, 8, .inl g9)), (y, .inr (5, [.ref pa, .int (nI m), .int car, .int tur, .int pre, .ref sa, .int (nI n), .ref kpa, .ref kka, .int ko'])), (pa, qE E 8 r), (sa, .inl (E.2.2, 6, .inl th)), (kpa, .inl (E.2.2, kq, .inl pl)), (kka, qE E 8 r2)] ++ (gW E r (fun _ => 12) c 8 ++ (gW E r2 (fun _ => 12) d 8 ++ ([] ++ w396)))) := by
                    intro n396
                    induction n396 with
                    | zero =>
                      intro i396 hi396 w396  hm396
                      have he396 : i396 = 6 := by omega
                      rw [he396]
                      refine g_iload F dX5_isSame__396 6 rfl ?_
                      refine g_bipush (v := 6) F dX5_isSame__398 (by decide) ?_
                      refine g_icmp_ge_t (tgt := 437) F dX5_isSame__400 (by decide) (by decide) ?_
                      refine g_aload_n F dX5_isSame__437 rfl 1 rfl ?_
                      refine g_callM (B := ([((a388 0), .inl (E.2.2, PQ f m, .inl (zPal c m))), (q89, .inl (E.2.2, 8, .inl g9)), (y, .inr (5, [.ref pa, .int (nI m), .int car, .int tur, .int pre, .ref sa, .int (nI n), .ref kpa, .ref kka, .int ko'])), (pa, qE E 8 r), (sa, .inl (E.2.2, 6, .inl th)), (kpa, .inl (E.2.2, kq, .inl pl)), (kka, qE E 8 r2)] ++ (gW E r (fun _ => 12) c 8 ++ (gW E r2 (fun _ => 12) d 8 ++ [])))) (wm := w396) F dX5_isSame__438 (m_mean hm396) rfl gX5_isSame__X4_mean hm396.mem.choose_spec rfl kV_X4_mean ⟨by decide, by decide⟩ (by simp only [List.append_assoc]) rfl (by exact Nat.le_of_ble_eq_true rfl) ⟨by show 17 + 4 * 8 + 18 + 0 ≤ 70; omega, by show 968 + 240 * 8 + 1093 + 0 ≤ 4000; omega⟩ (fun ov438 V438 hV438 => ?_)
                      obtain ⟨rfl, hV438⟩ := hV438
                      refine g_ws (ws' := ([((a388 0), .inl (E.2.2, PQ f m, .inl (zPal c m))), (q89, .inl (E.2.2, 8, .inl g9)), (y, .inr (5, [.ref pa, .int (nI m), .int car, .int tur, .int pre, .ref sa, .int (nI n), .ref kpa, .ref kka, .int ko'])), (pa, qE E 8 r), (sa, .inl (E.2.2, 6, .inl th)), (kpa, .inl (E.2.2, kq, .inl pl)), (kka, qE E 8 r2)] ++ (gW E r (fun _ => 12) c 8 ++ (gW E r2 (fun _ => 12) d 8 ++ ([] ++ V438))))) (by simp only [List.append_assoc]) ?_
                      refine g_iload F dX5_isSame__441 4 rfl ?_
                      refine g_i2d F dX5_isSame__443 ?_
                      refine g_ldc2d (v := 4636455816377925632) F dX5_isSame__444 (List.mem_of_getElem? (i := 12) rfl) ?_
                      refine g_ddiv F dX5_isSame__447 (sMean_n _) ?_
                      refine g_dcmp F dX5_isSame__448 ?_
                      refine g_if_ne_f (tgt := 456) F dX5_isSame__449 (by decide) (fun z => z (mean_self _)) ?_
                      refine g_iconst (v := 1) F dX5_isSame__452 (by decide) ?_
                      refine g_goto (tgt := 457) F dX5_isSame__453 (by decide) ?_
                      refine g_cs (cells' := 70) (slots' := 4000) (by show 17 + 4 * 8 + 18 + 0 ≤ 70; omega) (by show 968 + 240 * 8 + 1093 + 0 ≤ 4000; omega) ?_
                      exact g_zretP F hQ dX5_isSame__457 (Or.inr rfl) rfl
                    | succ n396 ih396 =>
                      intro i396 hi396 w396  hm396
                      have hl396 : i396 < 6 := by omega
                      refine g_iload F dX5_isSame__396 6 rfl ?_
                      refine g_bipush (v := 6) F dX5_isSame__398 (by decide) ?_
                      refine g_icmp_ge_f (tgt := 437) F dX5_isSame__400 (by decide) (nle_nI (n := 6) hl396 (by omega)) ?_
                      refine g_aload_n F dX5_isSame__403 rfl 1 rfl ?_
                      refine g_iload F dX5_isSame__404 6 rfl ?_
                      refine g_callM (B := ([((a388 0), .inl (E.2.2, PQ f m, .inl (zPal c m))), (q89, .inl (E.2.2, 8, .inl g9)), (y, .inr (5, [.ref pa, .int (nI m), .int car, .int tur, .int pre, .ref sa, .int (nI n), .ref kpa, .ref kka, .int ko'])), (pa, qE E 8 r), (sa, .inl (E.2.2, 6, .inl th)), (kpa, .inl (E.2.2, kq, .inl pl)), (kka, qE E 8 r2)] ++ (gW E r (fun _ => 12) c 8 ++ (gW E r2 (fun _ => 12) d 8 ++ [])))) (wm := w396) F dX5_isSame__406 (m_palette hm396 i396 (by omega) hok) rfl gX5_isSame__X4_palette hm396.mem.choose_spec rfl kV_X4_palette ⟨by decide, by decide⟩ (by simp only [List.append_assoc]) rfl (by exact Nat.le_of_ble_eq_true rfl) ⟨by show 17 + 4 * 8 + 18 + 0 ≤ 70; omega, by show 968 + 240 * 8 + 1093 + 0 ≤ 4000; omega⟩ (fun ov406 V406 hV406 => ?_)
                      obtain ⟨rfl, hV406⟩ := hV406
                      refine g_ws (ws' := ([((a388 0), .inl (E.2.2, PQ f m, .inl (zPal c m))), (q89, .inl (E.2.2, 8, .inl g9)), (y, .inr (5, [.ref pa, .int (nI m), .int car, .int tur, .int pre, .ref sa, .int (nI n), .ref kpa, .ref kka, .int ko'])), (pa, qE E 8 r), (sa, .inl (E.2.2, 6, .inl th)), (kpa, .inl (E.2.2, kq, .inl pl)), (kka, qE E 8 r2)] ++ (gW E r (fun _ => 12) c 8 ++ (gW E r2 (fun _ => 12) d 8 ++ ([] ++ V406))))) (by simp only [List.append_assoc]) ?_
                      refine g_iload F dX5_isSame__409 6 rfl ?_
                      refine g_aload F dX5_isSame__411 5 rfl ?_
                      refine g_alen (v := nI (PQ f m)) F dX5_isSame__413 0 rfl rfl ?_
                      refine g_icmp_ge (tgt := 425) F dX5_isSame__414 (by decide) (fun k414 => ?_) (fun k414 => ?_)
                      · skip
                        refine g_iconst (v := (-1)) F dX5_isSame__425 (by decide) ?_
                        refine g_icmp_eq_t (tgt := 431) F dX5_isSame__426 (by decide) (by first | exact if_neg (ge_no k414 hp6) | rw [if_pos (ge_yes k414 (by omega)), hpp _ (ge_yes k414 (by omega))]) ?_
                        refine g_iinc (L' := [(0, .ref y), (1, .ref x), (2, .int (mHold th 6)), (3, .ref q89), (4, .int (mSumF f (12 * 8))), (5, .ref (a388 0)), (6, .int (nI (i396 + 1)))]) (v := nI (i396 + 1)) F dX5_isSame__431 6 rfl (nI_1 _) (by decide) [1, 2, 3, 4, 5, 6, 0] rfl ?_
                        refine g_goto (tgt := 396) F dX5_isSame__434 (by decide) ?_
                        exact ih396 (i396 + 1) (by omega) V406 hV406
                      · skip
                        refine g_aload F dX5_isSame__417 5 rfl ?_
                        refine g_iload F dX5_isSame__419 6 rfl ?_
                        refine g_ialdN (k := i396) F dX5_isSame__421 0 rfl (ge_yes k414 (by omega)) (by first | decide | omega) ?_
                        refine g_goto (tgt := 426) F dX5_isSame__422 (by decide) ?_
                        refine g_icmp_eq_t (tgt := 431) F dX5_isSame__426 (by decide) (by first | exact if_neg (ge_no k414 hp6) | rw [if_pos (ge_yes k414 (by omega)), hpp _ (ge_yes k414 (by omega))]) ?_
                        refine g_iinc (L' := [(0, .ref y), (1, .ref x), (2, .int (mHold th 6)), (3, .ref q89), (4, .int (mSumF f (12 * 8))), (5, .ref (a388 0)), (6, .int (nI (i396 + 1)))]) (v := nI (i396 + 1)) F dX5_isSame__431 6 rfl (nI_1 _) (by decide) [1, 2, 3, 4, 5, 6, 0] rfl ?_
                        refine g_goto (tgt := 396) F dX5_isSame__434 (by decide) ?_
                        exact ih396 (i396 + 1) (by omega) V406 hV406
                  exact lp396 6 0 (by omega) w204 hm204
                | succ n204 ih204 =>
                  intro i204 hi204 w204  hm204
                  have hl204 : i204 < 8 := by omega
                  refine g_iload F dX5_isSame__204 5 rfl ?_
                  refine g_bipush (v := 8) F dX5_isSame__206 (by decide) ?_
                  refine g_icmp_ge_f (tgt := 383) F dX5_isSame__208 (by decide) (nle_nI (n := 8) hl204 (by omega)) ?_
                  refine g_iconst (v := 0) F dX5_isSame__211 (by decide) ?_
                  refine g_istore (L' := [(0, .ref y), (1, .ref x), (2, .int (mHold th 6)), (3, .ref q89), (4, .int (mSumF f (12 * i204))), (5, .int (nI i204)), (6, .int 0)]) F dX5_isSame__212 (by decide) [1, 2, 3, 4, 5, 6, 0] rfl ?_
                  have lp214 : ∀ (n214 i214 : Nat), i214 + n214 = 12 → ∀ (w214 : va_W), (MWP E x (f, th, m, car, tur, pre, n, k, kp, kq, ko) w214) → G E X (17 + 4 * i204) (968 + 240 * i204) 214 [(0, .ref y), (1, .ref x), (2, .int (mHold th 6)), (3, .ref q89), (4, .int (mSumF f (12 * i204 + i214))), (5, .int (nI i204)), (6, .int (nI i214))] [] ([(q89, .inl (E.2.2, 8, .inl g9)), (y, .inr (5, [.ref pa, .int (nI m), .int car, .int tur, .int pre, .ref sa, .int (nI n), .ref kpa, .ref kka, .int ko'])), (pa, qE E 8 r), (sa, .inl (E.2.2, 6, .inl th)), (kpa, .inl (E.2.2, kq, .inl pl)), (kka, qE E 8 r2)] ++ (gW E r (fun _ => 12) c 8 ++ (gW E r2 (fun _ => 12) d 8 ++ ([] ++ w214)))) := by
                    intro n214
                    induction n214 with
                    | zero =>
                      intro i214 hi214 w214  hm214
                      have he214 : i214 = 12 := by omega
                      rw [he214]
                      refine g_iload F dX5_isSame__214 6 rfl ?_
                      refine g_bipush (v := 12) F dX5_isSame__216 (by decide) ?_
                      refine g_icmp_ge_t (tgt := 293) F dX5_isSame__218 (by decide) (by decide) ?_
                      refine g_aload_n F dX5_isSame__293 rfl 0 rfl ?_
                      refine g_get F dX5_isSame__294 1 rfl rfl i5 6 (by decide) rfl (List.mem_of_getElem? (i := 9) rfl) ?_
                      refine g_if_ne_t (tgt := 303) F dX5_isSame__297 (by decide) (nI_ne0 hn0 hn) ?_
                      refine g_aload_n F dX5_isSame__303 rfl 0 rfl ?_
                      refine g_get F dX5_isSame__304 1 rfl rfl i5 8 (by decide) rfl (List.mem_of_getElem? (i := 2) rfl) ?_
                      refine g_iload F dX5_isSame__307 5 rfl ?_
                      refine g_aald (k := i204) F dX5_isSame__309 5 rfl (by omega) (by first | decide | omega) rfl ?_
                      obtain ⟨R310, hR310⟩ := prow1 (E := E) (r := r2) (n := fun _ => 12) (c := d) (h := 8) (y := i204) (S := [(q89, .inl (E.2.2, 8, .inl g9)), (y, .inr (5, [.ref pa, .int (nI m), .int car, .int tur, .int pre, .ref sa, .int (nI n), .ref kpa, .ref kka, .int ko'])), (pa, qE E 8 r), (sa, .inl (E.2.2, 6, .inl th)), (kpa, .inl (E.2.2, kq, .inl pl)), (kka, qE E 8 r2)]) (B := (gW E r (fun _ => 12) c 8 ++ ([] ++ w214))) (by omega)
                      refine g_callSA (R := R310) F dX5_isSame__310 (c_X5_runs E (r2 i204) (d i204)) rfl gX5_isSame__X5_runs kS_X5_runs ⟨by decide, by decide⟩ ((List.Perm.append_left _ (psw _ _ _)).trans hR310) rfl (by exact Nat.le_of_ble_eq_true rfl) ⟨by show 17 + 4 * i204 + 2 ≤ 70; omega, by show 968 + 240 * i204 + 120 ≤ 4000; omega⟩ (fun a310 => ?_)
                      refine g_ws (ws' := ([(a310 0, .inl (E.2.2, ((zRun (d i204) 12).2 - 0), .inl (fun k => (zRun (d i204) 12).1 (0 + k)))), (q89, .inl (E.2.2, 8, .inl g9)), (y, .inr (5, [.ref pa, .int (nI m), .int car, .int tur, .int pre, .ref sa, .int (nI n), .ref kpa, .ref kka, .int ko'])), (pa, qE E 8 r), (sa, .inl (E.2.2, 6, .inl th)), (kpa, .inl (E.2.2, kq, .inl pl)), (kka, qE E 8 r2)] ++ (gW E r (fun _ => 12) c 8 ++ (gW E r2 (fun _ => 12) d 8 ++ ([] ++ w214))))) rfl ?_
                      refine g_astore (L' := [(0, .ref y), (1, .ref x), (2, .int (mHold th 6)), (3, .ref q89), (4, .int (mSumF f (12 * i204 + 12))), (5, .int (nI i204)), (6, .ref (a310 0))]) F dX5_isSame__313 (by decide) [1, 2, 3, 4, 5, 6, 0] rfl ?_
                      refine g_iconst (v := 0) F dX5_isSame__315 (by decide) ?_
                      have hrz := (zRun_tie (fun x hx => hd i204 (by omega) x hx)).1
                      have hrn := zRun_n (d i204) 12
                      refine g_istore (L' := [(0, .ref y), (1, .ref x), (2, .int (mHold th 6)), (3, .ref q89), (4, .int (mSumF f (12 * i204 + 12))), (5, .int (nI i204)), (6, .ref (a310 0)), (7, .int 0)]) F dX5_isSame__316 (by decide) [1, 2, 3, 4, 5, 6, 7, 0] rfl ?_
                      have lp318 : ∀ (n318 i318 : Nat), i318 + n318 = ((zRun (d i204) 12).2 - 0) → ∀ (w318 : va_W), (MWP E x (f, th, m, car, tur, pre, n, k, kp, kq, ko) w318) → G E X (17 + 4 * i204 + 2) (968 + 240 * i204 + 120) 318 [(0, .ref y), (1, .ref x), (2, .int (mHold th 6)), (3, .ref q89), (4, .int (mSumF f (12 * i204 + 12))), (5, .int (nI i204)), (6, .ref (a310 0)), (7, .int (nI i318))] [] ([(a310 0, .inl (E.2.2, ((zRun (d i204) 12).2 - 0), .inl (fun k => (zRun (d i204) 12).1 (0 + k)))), (q89, .inl (E.2.2, 8, .inl g9)), (y, .inr (5, [.ref pa, .int (nI m), .int car, .int tur, .int pre, .ref sa, .int (nI n), .ref kpa, .ref kka, .int ko'])), (pa, qE E 8 r), (sa, .inl (E.2.2, 6, .inl th)), (kpa, .inl (E.2.2, kq, .inl pl)), (kka, qE E 8 r2)] ++ (gW E r (fun _ => 12) c 8 ++ (gW E r2 (fun _ => 12) d 8 ++ ([] ++ w318)))) := by
                        intro n318
                        induction n318 with
                        | zero =>
                          intro i318 hi318 w318  hm318
                          have he318 : i318 = ((zRun (d i204) 12).2 - 0) := by omega
                          rw [he318]
                          refine g_iload F dX5_isSame__318 7 rfl ?_
                          refine g_aload F dX5_isSame__320 6 rfl ?_
                          refine g_alen (v := nI ((zRun (d i204) 12).2 - 0)) F dX5_isSame__322 0 rfl rfl ?_
                          refine g_icmp_ge_t (tgt := 356) F dX5_isSame__323 (by decide) (Int32.le_refl _) ?_
                          refine g_aload_n F dX5_isSame__356 rfl 1 rfl ?_
                          refine g_iload F dX5_isSame__357 5 rfl ?_
                          refine g_callM (B := ([(a310 0, .inl (E.2.2, ((zRun (d i204) 12).2 - 0), .inl (fun k => (zRun (d i204) 12).1 (0 + k)))), (q89, .inl (E.2.2, 8, .inl g9)), (y, .inr (5, [.ref pa, .int (nI m), .int car, .int tur, .int pre, .ref sa, .int (nI n), .ref kpa, .ref kka, .int ko'])), (pa, qE E 8 r), (sa, .inl (E.2.2, 6, .inl th)), (kpa, .inl (E.2.2, kq, .inl pl)), (kka, qE E 8 r2)] ++ (gW E r (fun _ => 12) c 8 ++ (gW E r2 (fun _ => 12) d 8 ++ [])))) (wm := w318) F dX5_isSame__359 (m_knots hm318 i204 (by omega) hn0 hn) rfl gX5_isSame__X4_knots hm318.mem.choose_spec rfl kV_X4_knots ⟨by decide, by decide⟩ (by simp only [List.append_assoc]) rfl (by exact Nat.le_of_ble_eq_true rfl) ⟨by show 17 + 4 * i204 + 2 + 0 ≤ 70; omega, by show 968 + 240 * i204 + 120 + 0 ≤ 4000; omega⟩ (fun ov359 V359 hV359 => ?_)
                          obtain ⟨rfl, hV359⟩ := hV359
                          refine g_ws (ws' := ([(a310 0, .inl (E.2.2, ((zRun (d i204) 12).2 - 0), .inl (fun k => (zRun (d i204) 12).1 (0 + k)))), (q89, .inl (E.2.2, 8, .inl g9)), (y, .inr (5, [.ref pa, .int (nI m), .int car, .int tur, .int pre, .ref sa, .int (nI n), .ref kpa, .ref kka, .int ko'])), (pa, qE E 8 r), (sa, .inl (E.2.2, 6, .inl th)), (kpa, .inl (E.2.2, kq, .inl pl)), (kka, qE E 8 r2)] ++ (gW E r (fun _ => 12) c 8 ++ (gW E r2 (fun _ => 12) d 8 ++ ([] ++ V359))))) (by simp only [List.append_assoc]) ?_
                          refine g_aload_n F dX5_isSame__362 rfl 0 rfl ?_
                          refine g_aload_n F dX5_isSame__363 rfl 0 rfl ?_
                          refine g_get F dX5_isSame__364 2 rfl rfl i5 8 (by decide) rfl (List.mem_of_getElem? (i := 2) rfl) ?_
                          refine g_iload F dX5_isSame__367 5 rfl ?_
                          refine g_callVA (R := ([(a310 0, .inl (E.2.2, ((zRun (d i204) 12).2 - 0), .inl (fun k => (zRun (d i204) 12).1 (0 + k)))), (q89, .inl (E.2.2, 8, .inl g9)), (pa, qE E 8 r), (sa, .inl (E.2.2, 6, .inl th)), (kpa, .inl (E.2.2, kq, .inl pl))] ++ (gW E r (fun _ => 12) c 8 ++ ([] ++ V359)))) F dX5_isSame__369 (c_X5_knots E y pa sa kpa kka (nI m) car tur pre (nI n) ko' kka r2 d i204 (by first | assumption | decide | omega)) rfl gX5_isSame__X5_knots (List.mem_of_getElem? (i := 2) rfl) rfl kV_X5_knots ⟨by decide, by decide⟩ (ps4 (pmc (A := [_, _]) (pmc (A := [_, _]) (pmc (A := []) (pmc (A := [_]) (pmc (A := [_]) (pmc (A := [_]) (pmc (A := []) (List.Perm.nil)))))))) (by simp only [List.append_assoc, List.nil_append, List.append_nil]; exact psw _ _ _)) rfl (Nat.le_of_ble_eq_true rfl) ⟨by show 17 + 4 * i204 + 2 + 0 + 2 ≤ 70; omega, by show 968 + 240 * i204 + 120 + 0 + 120 ≤ 4000; omega⟩ (fun a369 => ?_)
                          refine g_ws (ws' := ([(a310 0, .inl (E.2.2, ((zRun (d i204) 12).2 - 0), .inl (fun k => (zRun (d i204) 12).1 (0 + k)))), (q89, .inl (E.2.2, 8, .inl g9)), (y, .inr (5, [.ref pa, .int (nI m), .int car, .int tur, .int pre, .ref sa, .int (nI n), .ref kpa, .ref kka, .int ko'])), (pa, qE E 8 r), (sa, .inl (E.2.2, 6, .inl th)), (kpa, .inl (E.2.2, kq, .inl pl)), (kka, qE E 8 r2)] ++ (gW E r (fun _ => 12) c 8 ++ (gW E r2 (fun _ => 12) d 8 ++ ([] ++ V359))))) rfl ?_
                          refine g_icmp_eq_t (tgt := 377) F dX5_isSame__372 (by decide) ((zKn_tie hd pre (by omega)).symm) ?_
                          refine g_perm (ws' := ([(q89, .inl (E.2.2, 8, .inl g9)), (y, .inr (5, [.ref pa, .int (nI m), .int car, .int tur, .int pre, .ref sa, .int (nI n), .ref kpa, .ref kka, .int ko'])), (pa, qE E 8 r), (sa, .inl (E.2.2, 6, .inl th)), (kpa, .inl (E.2.2, kq, .inl pl)), (kka, qE E 8 r2)] ++ (gW E r (fun _ => 12) c 8 ++ (gW E r2 (fun _ => 12) d 8 ++ ([] ++ V359)))) ++ ([(a310 0, .inl (E.2.2, ((zRun (d i204) 12).2 - 0), .inl (fun k => (zRun (d i204) 12).1 (0 + k))))] ++ [])) (ps4 (pmc (A := [_, _, _, _, _, _]) (pmc (A := []) (pmc (A := []) (pmc (A := []) (pmc (A := []) (pmc (A := []) (pmc (A := []) (List.Perm.nil)))))))) (by simp only [List.append_assoc, List.nil_append, List.append_nil]; exact List.Perm.refl _)) (g_drop ?_)
                          refine g_iinc (L' := [(0, .ref y), (1, .ref x), (2, .int (mHold th 6)), (3, .ref q89), (4, .int (mSumF f (12 * i204 + 12))), (5, .int (nI (i204 + 1))), (6, .ref (a310 0)), (7, .int (nI ((zRun (d i204) 12).2 - 0)))]) (v := nI (i204 + 1)) F dX5_isSame__377 5 rfl (nI_1 _) (by decide) [1, 2, 3, 4, 5, 0, 6, 7] rfl ?_
                          refine g_goto (tgt := 204) F dX5_isSame__380 (by decide) ?_
                          refine g_lv (L' := [(0, .ref y), (1, .ref x), (2, .int (mHold th 6)), (3, .ref q89), (4, .int (mSumF f (12 * i204 + 12))), (5, .int (nI (i204 + 1)))]) [0, 1, 2, 3, 4, 5] rfl ?_
                          refine g_cs (cells' := (17 + 4 * (i204 + 1))) (slots' := (968 + 240 * (i204 + 1))) (by show 17 + 4 * i204 + 2 + 0 + 2 ≤ 17 + 4 * (i204 + 1); omega) (by show 968 + 240 * i204 + 120 + 0 + 120 ≤ 968 + 240 * (i204 + 1); omega) ?_
                          rw [show 12 * i204 + 12 = 12 * (i204 + 1) by omega]
                          exact ih204 (i204 + 1) (by omega) V359 hV359
                        | succ n318 ih318 =>
                          intro i318 hi318 w318  hm318
                          have hl318 : i318 < ((zRun (d i204) 12).2 - 0) := by omega
                          refine g_iload F dX5_isSame__318 7 rfl ?_
                          refine g_aload F dX5_isSame__320 6 rfl ?_
                          refine g_alen (v := nI ((zRun (d i204) 12).2 - 0)) F dX5_isSame__322 0 rfl rfl ?_
                          refine g_icmp_ge_f (tgt := 356) F dX5_isSame__323 (by decide) (nle_nI hl318 (by have := zRun_n (d i204) 12; omega)) ?_
                          refine g_aload_n F dX5_isSame__326 rfl 1 rfl ?_
                          refine g_iload F dX5_isSame__327 5 rfl ?_
                          refine g_iload F dX5_isSame__329 7 rfl ?_
                          refine g_iconst (v := 2) F dX5_isSame__331 (by decide) ?_
                          refine g_idiv F dX5_isSame__332 (by decide) ?_
                          refine g_topr (y := nI (i318 / 2)) (pk_div (d := 2) (by have := zRun_n (d i204) 12; omega) (by omega) (by omega)) ?_
                          refine g_iload F dX5_isSame__333 7 rfl ?_
                          refine g_iconst (v := 2) F dX5_isSame__335 (by decide) ?_
                          refine g_irem (v := nI (i318 % 2)) F dX5_isSame__336 (by decide) ((pk_rem (d := 2) (by have := zRun_n (d i204) 12; omega) (by omega) (by omega)).symm) ?_
                          refine g_callM (B := ([(a310 0, .inl (E.2.2, ((zRun (d i204) 12).2 - 0), .inl (fun k => (zRun (d i204) 12).1 (0 + k)))), (q89, .inl (E.2.2, 8, .inl g9)), (y, .inr (5, [.ref pa, .int (nI m), .int car, .int tur, .int pre, .ref sa, .int (nI n), .ref kpa, .ref kka, .int ko'])), (pa, qE E 8 r), (sa, .inl (E.2.2, 6, .inl th)), (kpa, .inl (E.2.2, kq, .inl pl)), (kka, qE E 8 r2)] ++ (gW E r (fun _ => 12) c 8 ++ (gW E r2 (fun _ => 12) d 8 ++ [])))) (wm := w318) F dX5_isSame__337 (m_run hm318 i204 (i318 / 2) (nI (i318 % 2)) (by omega) (by omega) (nI_pos (by omega)) (le_nI (i := 1) (by omega) (by omega)) hn0 hn) rfl gX5_isSame__X4_run hm318.mem.choose_spec rfl kV_X4_run ⟨by decide, by decide⟩ (by simp only [List.append_assoc]) rfl (by exact Nat.le_of_ble_eq_true rfl) ⟨by show 17 + 4 * i204 + 2 + 0 ≤ 70; omega, by show 968 + 240 * i204 + 120 + 0 ≤ 4000; omega⟩ (fun ov337 V337 hV337 => ?_)
                          obtain ⟨rfl, hV337⟩ := hV337
                          refine g_ws (ws' := ([(a310 0, .inl (E.2.2, ((zRun (d i204) 12).2 - 0), .inl (fun k => (zRun (d i204) 12).1 (0 + k)))), (q89, .inl (E.2.2, 8, .inl g9)), (y, .inr (5, [.ref pa, .int (nI m), .int car, .int tur, .int pre, .ref sa, .int (nI n), .ref kpa, .ref kka, .int ko'])), (pa, qE E 8 r), (sa, .inl (E.2.2, 6, .inl th)), (kpa, .inl (E.2.2, kq, .inl pl)), (kka, qE E 8 r2)] ++ (gW E r (fun _ => 12) c 8 ++ (gW E r2 (fun _ => 12) d 8 ++ ([] ++ V337))))) (by simp only [List.append_assoc]) ?_
                          refine g_aload F dX5_isSame__340 6 rfl ?_
                          refine g_iload F dX5_isSame__342 7 rfl ?_
                          refine g_ialdN (k := i318) F dX5_isSame__344 0 rfl (by omega) (by first | decide | omega) ?_
                          refine g_icmp_eq_t (tgt := 350) F dX5_isSame__345 (by decide) (run_eq (fun x hx => hd i204 (by omega) x hx) (by omega)) ?_
                          refine g_iinc (L' := [(0, .ref y), (1, .ref x), (2, .int (mHold th 6)), (3, .ref q89), (4, .int (mSumF f (12 * i204 + 12))), (5, .int (nI i204)), (6, .ref (a310 0)), (7, .int (nI (i318 + 1)))]) (v := nI (i318 + 1)) F dX5_isSame__350 7 rfl (nI_1 _) (by decide) [1, 2, 3, 4, 5, 6, 7, 0] rfl ?_
                          refine g_goto (tgt := 318) F dX5_isSame__353 (by decide) ?_
                          exact ih318 (i318 + 1) (by omega) V337 hV337
                      exact lp318 ((zRun (d i204) 12).2 - 0) 0 (by omega) w214 hm214
                    | succ n214 ih214 =>
                      intro i214 hi214 w214  hm214
                      have hl214 : i214 < 12 := by omega
                      refine g_iload F dX5_isSame__214 6 rfl ?_
                      refine g_bipush (v := 12) F dX5_isSame__216 (by decide) ?_
                      refine g_icmp_ge_f (tgt := 293) F dX5_isSame__218 (by decide) (nle_nI (n := 12) hl214 (by omega)) ?_
                      refine g_iload F dX5_isSame__221 4 rfl ?_
                      refine g_aload_n F dX5_isSame__223 rfl 0 rfl ?_
                      refine g_get F dX5_isSame__224 1 rfl rfl i5 0 (by decide) rfl (List.mem_of_getElem? (i := 11) rfl) ?_
                      refine g_iload F dX5_isSame__227 5 rfl ?_
                      refine g_aald (k := i204) F dX5_isSame__229 2 rfl (by omega) (by first | decide | omega) rfl ?_
                      refine g_iload F dX5_isSame__230 6 rfl ?_
                      refine g_ialdG0 (y := i204) (k := i214) F dX5_isSame__232 rfl (by omega) (by show _ < _; first | decide | omega) (by show _ < _; first | decide | omega) ?_
                      refine g_iadd F dX5_isSame__233 ?_
                      refine g_topr (y := mSumF f (12 * i204 + (i214 + 1))) (by rw [hc i204 (by omega) i214 (by omega)]; rfl) ?_
                      refine g_istore (L' := [(0, .ref y), (1, .ref x), (2, .int (mHold th 6)), (3, .ref q89), (4, .int (mSumF f (12 * i204 + (i214 + 1)))), (5, .int (nI i204)), (6, .int (nI i214))]) F dX5_isSame__234 (by decide) [1, 2, 3, 4, 0, 5, 6] rfl ?_
                      refine g_aload_n F dX5_isSame__236 rfl 1 rfl ?_
                      refine g_iload F dX5_isSame__237 6 rfl ?_
                      refine g_iload F dX5_isSame__239 5 rfl ?_
                      refine g_callM (B := ([(q89, .inl (E.2.2, 8, .inl g9)), (y, .inr (5, [.ref pa, .int (nI m), .int car, .int tur, .int pre, .ref sa, .int (nI n), .ref kpa, .ref kka, .int ko'])), (pa, qE E 8 r), (sa, .inl (E.2.2, 6, .inl th)), (kpa, .inl (E.2.2, kq, .inl pl)), (kka, qE E 8 r2)] ++ (gW E r (fun _ => 12) c 8 ++ (gW E r2 (fun _ => 12) d 8 ++ [])))) (wm := w214) F dX5_isSame__241 (m_shade hm214 i214 i204 (by omega) (by omega)) rfl gX5_isSame__X4_shade hm214.mem.choose_spec rfl kV_X4_shade ⟨by decide, by decide⟩ (by simp only [List.append_assoc]) rfl (by exact Nat.le_of_ble_eq_true rfl) ⟨by show 17 + 4 * i204 + 0 ≤ 70; omega, by show 968 + 240 * i204 + 0 ≤ 4000; omega⟩ (fun ov241 V241 hV241 => ?_)
                      obtain ⟨rfl, hV241⟩ := hV241
                      refine g_ws (ws' := ([(q89, .inl (E.2.2, 8, .inl g9)), (y, .inr (5, [.ref pa, .int (nI m), .int car, .int tur, .int pre, .ref sa, .int (nI n), .ref kpa, .ref kka, .int ko'])), (pa, qE E 8 r), (sa, .inl (E.2.2, 6, .inl th)), (kpa, .inl (E.2.2, kq, .inl pl)), (kka, qE E 8 r2)] ++ (gW E r (fun _ => 12) c 8 ++ (gW E r2 (fun _ => 12) d 8 ++ ([] ++ V241))))) (by simp only [List.append_assoc]) ?_
                      refine g_aload_n F dX5_isSame__244 rfl 0 rfl ?_
                      refine g_get F dX5_isSame__245 1 rfl rfl i5 0 (by decide) rfl (List.mem_of_getElem? (i := 11) rfl) ?_
                      refine g_iload F dX5_isSame__248 5 rfl ?_
                      refine g_aald (k := i204) F dX5_isSame__250 2 rfl (by omega) (by first | decide | omega) rfl ?_
                      refine g_iload F dX5_isSame__251 6 rfl ?_
                      refine g_ialdG0 (y := i204) (k := i214) F dX5_isSame__253 rfl (by omega) (by show _ < _; first | decide | omega) (by show _ < _; first | decide | omega) ?_
                      refine g_icmp_ne_f (tgt := 285) F dX5_isSame__254 (by decide) (fun z => z (hc i204 (by omega) i214 (by omega)).symm) ?_
                      refine g_aload_n F dX5_isSame__257 rfl 0 rfl ?_
                      refine g_get F dX5_isSame__258 1 rfl rfl i5 6 (by decide) rfl (List.mem_of_getElem? (i := 9) rfl) ?_
                      refine g_if_le_f (tgt := 287) F dX5_isSame__261 (by decide) (fun z => absurd ((nI_le0 hn).mp z) (by omega)) ?_
                      refine g_aload_n F dX5_isSame__264 rfl 1 rfl ?_
                      refine g_iload F dX5_isSame__265 6 rfl ?_
                      refine g_iload F dX5_isSame__267 5 rfl ?_
                      refine g_callM (B := ([(q89, .inl (E.2.2, 8, .inl g9)), (y, .inr (5, [.ref pa, .int (nI m), .int car, .int tur, .int pre, .ref sa, .int (nI n), .ref kpa, .ref kka, .int ko'])), (pa, qE E 8 r), (sa, .inl (E.2.2, 6, .inl th)), (kpa, .inl (E.2.2, kq, .inl pl)), (kka, qE E 8 r2)] ++ (gW E r (fun _ => 12) c 8 ++ (gW E r2 (fun _ => 12) d 8 ++ [])))) (wm := V241) F dX5_isSame__269 (m_cell hV241 i214 i204 (by omega) (by omega) hn0 hn) rfl gX5_isSame__X4_cell hV241.mem.choose_spec rfl kV_X4_cell ⟨by decide, by decide⟩ (by simp only [List.append_assoc]) rfl (by exact Nat.le_of_ble_eq_true rfl) ⟨by show 17 + 4 * i204 + 0 + 0 ≤ 70; omega, by show 968 + 240 * i204 + 0 + 0 ≤ 4000; omega⟩ (fun ov269 V269 hV269 => ?_)
                      obtain ⟨rfl, hV269⟩ := hV269
                      refine g_ws (ws' := ([(q89, .inl (E.2.2, 8, .inl g9)), (y, .inr (5, [.ref pa, .int (nI m), .int car, .int tur, .int pre, .ref sa, .int (nI n), .ref kpa, .ref kka, .int ko'])), (pa, qE E 8 r), (sa, .inl (E.2.2, 6, .inl th)), (kpa, .inl (E.2.2, kq, .inl pl)), (kka, qE E 8 r2)] ++ (gW E r (fun _ => 12) c 8 ++ (gW E r2 (fun _ => 12) d 8 ++ ([] ++ V269))))) (by simp only [List.append_assoc]) ?_
                      refine g_aload_n F dX5_isSame__272 rfl 0 rfl ?_
                      refine g_get F dX5_isSame__273 1 rfl rfl i5 8 (by decide) rfl (List.mem_of_getElem? (i := 2) rfl) ?_
                      refine g_iload F dX5_isSame__276 5 rfl ?_
                      refine g_aald (k := i204) F dX5_isSame__278 5 rfl (by omega) (by first | decide | omega) rfl ?_
                      refine g_iload F dX5_isSame__279 6 rfl ?_
                      refine g_ialdG1 (y := i204) (k := i214) F dX5_isSame__281 rfl (by omega) (by show _ < _; first | decide | omega) (by show _ < _; first | decide | omega) ?_
                      refine g_icmp_eq_t (tgt := 287) F dX5_isSame__282 (by decide) ((hd i204 (by omega) i214 (by omega)).symm) ?_
                      refine g_iinc (L' := [(0, .ref y), (1, .ref x), (2, .int (mHold th 6)), (3, .ref q89), (4, .int (mSumF f (12 * i204 + (i214 + 1)))), (5, .int (nI i204)), (6, .int (nI (i214 + 1)))]) (v := nI (i214 + 1)) F dX5_isSame__287 6 rfl (nI_1 _) (by decide) [1, 2, 3, 4, 5, 6, 0] rfl ?_
                      refine g_goto (tgt := 214) F dX5_isSame__290 (by decide) ?_
                      exact ih214 (i214 + 1) (by omega) V269 hV269
                  exact lp214 12 0 (by omega) w204 hm204
              refine g_cs (cells' := (17 + 4 * 0)) (slots' := (968 + 240 * 0)) (by show 17 ≤ 17 + 4 * 0; omega) (by show 968 ≤ 968 + 240 * 0; omega) ?_
              exact lp204 8 0 (by omega) w170 hm170
            | succ n170 ih170 =>
              intro i170 hi170 w170  hm170
              have hl170 : i170 < 8 := by omega
              refine g_iload F dX5_isSame__170 4 rfl ?_
              refine g_bipush (v := 8) F dX5_isSame__172 (by decide) ?_
              refine g_icmp_ge_f (tgt := 198) F dX5_isSame__174 (by decide) (nle_nI (n := 8) hl170 (by omega)) ?_
              refine g_aload_n F dX5_isSame__177 rfl 1 rfl ?_
              refine g_iload F dX5_isSame__178 4 rfl ?_
              refine g_callM (B := ([(q89, .inl (E.2.2, 8, .inl g9)), (y, .inr (5, [.ref pa, .int (nI m), .int car, .int tur, .int pre, .ref sa, .int (nI n), .ref kpa, .ref kka, .int ko'])), (pa, qE E 8 r), (sa, .inl (E.2.2, 6, .inl th)), (kpa, .inl (E.2.2, kq, .inl pl)), (kka, qE E 8 r2)] ++ (gW E r (fun _ => 12) c 8 ++ (gW E r2 (fun _ => 12) d 8 ++ [])))) (wm := w170) F dX5_isSame__180 (m_count hm170 i170 (by omega) hn) rfl gX5_isSame__X4_count hm170.mem.choose_spec rfl kV_X4_count ⟨by decide, by decide⟩ (by simp only [List.append_assoc]) rfl (by exact Nat.le_of_ble_eq_true rfl) ⟨by show 17 + 0 ≤ 70; omega, by show 968 + 0 ≤ 4000; omega⟩ (fun ov180 V180 hV180 => ?_)
              obtain ⟨rfl, hV180⟩ := hV180
              refine g_ws (ws' := ([(q89, .inl (E.2.2, 8, .inl g9)), (y, .inr (5, [.ref pa, .int (nI m), .int car, .int tur, .int pre, .ref sa, .int (nI n), .ref kpa, .ref kka, .int ko'])), (pa, qE E 8 r), (sa, .inl (E.2.2, 6, .inl th)), (kpa, .inl (E.2.2, kq, .inl pl)), (kka, qE E 8 r2)] ++ (gW E r (fun _ => 12) c 8 ++ (gW E r2 (fun _ => 12) d 8 ++ ([] ++ V180))))) (by simp only [List.append_assoc]) ?_
              refine g_aload_n F dX5_isSame__183 rfl 3 rfl ?_
              refine g_iload F dX5_isSame__184 4 rfl ?_
              refine g_ialdN (k := i170) F dX5_isSame__186 0 rfl (by omega) (by first | decide | omega) ?_
              refine g_icmp_eq_t (tgt := 192) F dX5_isSame__187 (by decide) (hcnt i170 hl170) ?_
              refine g_iinc (L' := [(0, .ref y), (1, .ref x), (2, .int (mHold th 6)), (3, .ref q89), (4, .int (nI (i170 + 1)))]) (v := nI (i170 + 1)) F dX5_isSame__192 4 rfl (nI_1 _) (by decide) [1, 2, 3, 4, 0] rfl ?_
              refine g_goto (tgt := 170) F dX5_isSame__195 (by decide) ?_
              refine g_cs (cells' := 17) (slots' := 968) (by show 17 + 0 ≤ 17; omega) (by show 968 + 0 ≤ 968; omega) ?_
              exact ih170 (i170 + 1) (by omega) V180 hV180
          refine g_cs (cells' := 17) (slots' := 968) (by show 0 + 1 + 16 ≤ 17; omega) (by show 0 + 8 + 960 ≤ 968; omega) ?_
          exact lp170 8 0 (by omega) w4 hm4
        refine g_if_eq (tgt := 133) F dX5_isSame__126 (by decide) (fun k126 => ?_) (fun k126 => ?_)
        · skip
          refine g_iconst (v := 0) F dX5_isSame__133 (by decide) ?_
          exact g_topr (by simp [k126]) jn134
        · skip
          refine g_iconst (v := 1) F dX5_isSame__129 (by decide) ?_
          refine g_goto (tgt := 134) F dX5_isSame__130 (by decide) ?_
          exact g_topr (by simp [k126]) jn134
      refine g_if_eq (tgt := 118) F dX5_isSame__111 (by decide) (fun k111 => ?_) (fun k111 => ?_)
      · skip
        refine g_iconst (v := 0) F dX5_isSame__118 (by decide) ?_
        exact g_topr (by simp [k111]) jn119
      · skip
        refine g_iconst (v := 1) F dX5_isSame__114 (by decide) ?_
        refine g_goto (tgt := 119) F dX5_isSame__115 (by decide) ?_
        exact g_topr (by simp [k111]) jn119
    | succ n4 ih4 =>
      intro i4 hi4 w4  hm4
      have hl4 : i4 < 6 := by omega
      refine g_iload_n F dX5_isSame__4 rfl 3 rfl ?_
      refine g_bipush (v := 6) F dX5_isSame__5 (by decide) ?_
      refine g_icmp_ge_f (tgt := 87) F dX5_isSame__7 (by decide) (nle_nI (n := 6) hl4 (by omega)) ?_
      refine g_iload_n F dX5_isSame__10 rfl 2 rfl ?_
      refine g_aload_n F dX5_isSame__11 rfl 0 rfl ?_
      refine g_get F dX5_isSame__12 0 rfl rfl i5 5 (by decide) rfl (List.mem_of_getElem? (i := 1) rfl) ?_
      refine g_iload_n F dX5_isSame__15 rfl 3 rfl ?_
      refine g_ialdN (k := i4) F dX5_isSame__16 2 rfl (by omega) (by first | decide | omega) ?_
      refine g_iadd F dX5_isSame__17 ?_
      refine g_istore_n (L' := [(0, .ref y), (1, .ref x), (2, .int ((mHold th i4) + (th i4))), (3, .int (nI i4))]) F dX5_isSame__18 rfl (by decide) [1, 2, 0, 3] rfl ?_
      refine g_aload_n F dX5_isSame__19 rfl 1 rfl ?_
      refine g_iload_n F dX5_isSame__20 rfl 3 rfl ?_
      refine g_iconst (v := 0) F dX5_isSame__21 (by decide) ?_
      refine g_callM (B := ([(y, .inr (5, [.ref pa, .int (nI m), .int car, .int tur, .int pre, .ref sa, .int (nI n), .ref kpa, .ref kka, .int ko'])), (pa, qE E 8 r), (sa, .inl (E.2.2, 6, .inl th)), (kpa, .inl (E.2.2, kq, .inl pl)), (kka, qE E 8 r2)] ++ (gW E r (fun _ => 12) c 8 ++ (gW E r2 (fun _ => 12) d 8 ++ [])))) (wm := w4) F dX5_isSame__22 (m_thread0 hm4 i4 (by omega)) rfl gX5_isSame__X4_thread hm4.mem.choose_spec rfl kV_X4_thread ⟨by decide, by decide⟩ (by simp only [List.append_assoc]) rfl (by exact Nat.le_of_ble_eq_true rfl) ⟨by show 0 + 0 ≤ 70; omega, by show 0 + 0 ≤ 4000; omega⟩ (fun ov22 V22 hV22 => ?_)
      obtain ⟨rfl, hV22⟩ := hV22
      refine g_ws (ws' := ([(y, .inr (5, [.ref pa, .int (nI m), .int car, .int tur, .int pre, .ref sa, .int (nI n), .ref kpa, .ref kka, .int ko'])), (pa, qE E 8 r), (sa, .inl (E.2.2, 6, .inl th)), (kpa, .inl (E.2.2, kq, .inl pl)), (kka, qE E 8 r2)] ++ (gW E r (fun _ => 12) c 8 ++ (gW E r2 (fun _ => 12) d 8 ++ ([] ++ V22))))) (by simp only [List.append_assoc]) ?_
      refine g_aload_n F dX5_isSame__25 rfl 0 rfl ?_
      refine g_get F dX5_isSame__26 0 rfl rfl i5 5 (by decide) rfl (List.mem_of_getElem? (i := 1) rfl) ?_
      refine g_iload_n F dX5_isSame__29 rfl 3 rfl ?_
      refine g_ialdN (k := i4) F dX5_isSame__30 2 rfl (by omega) (by first | decide | omega) ?_
      refine g_icmp_ne_f (tgt := 79) F dX5_isSame__31 (by decide) (fun z => z rfl) ?_
      refine g_aload_n F dX5_isSame__34 rfl 1 rfl ?_
      refine g_iload_n F dX5_isSame__35 rfl 3 rfl ?_
      refine g_iconst (v := 1) F dX5_isSame__36 (by decide) ?_
      refine g_callM (B := ([(y, .inr (5, [.ref pa, .int (nI m), .int car, .int tur, .int pre, .ref sa, .int (nI n), .ref kpa, .ref kka, .int ko'])), (pa, qE E 8 r), (sa, .inl (E.2.2, 6, .inl th)), (kpa, .inl (E.2.2, kq, .inl pl)), (kka, qE E 8 r2)] ++ (gW E r (fun _ => 12) c 8 ++ (gW E r2 (fun _ => 12) d 8 ++ [])))) (wm := V22) F dX5_isSame__37 (m_thread1 hV22 i4 (by omega) hn) rfl gX5_isSame__X4_thread hV22.mem.choose_spec rfl kV_X4_thread ⟨by decide, by decide⟩ (by simp only [List.append_assoc]) rfl (by exact Nat.le_of_ble_eq_true rfl) ⟨by show 0 + 0 + 0 ≤ 70; omega, by show 0 + 0 + 0 ≤ 4000; omega⟩ (fun ov37 V37 hV37 => ?_)
      obtain ⟨rfl, hV37⟩ := hV37
      refine g_ws (ws' := ([(y, .inr (5, [.ref pa, .int (nI m), .int car, .int tur, .int pre, .ref sa, .int (nI n), .ref kpa, .ref kka, .int ko'])), (pa, qE E 8 r), (sa, .inl (E.2.2, 6, .inl th)), (kpa, .inl (E.2.2, kq, .inl pl)), (kka, qE E 8 r2)] ++ (gW E r (fun _ => 12) c 8 ++ (gW E r2 (fun _ => 12) d 8 ++ ([] ++ V37))))) (by simp only [List.append_assoc]) ?_
      refine g_topr (y := mCo k (nI i4) 96) (if_neg (by omega)) ?_
      refine g_aload_n F dX5_isSame__40 rfl 0 rfl ?_
      refine g_get F dX5_isSame__41 0 rfl rfl i5 8 (by decide) rfl (List.mem_of_getElem? (i := 2) rfl) ?_
      refine g_iload_n F dX5_isSame__44 rfl 3 rfl ?_
      refine g_callSA (R := ([(y, .inr (5, [.ref pa, .int (nI m), .int car, .int tur, .int pre, .ref sa, .int (nI n), .ref kpa, .ref kka, .int ko'])), (pa, qE E 8 r), (sa, .inl (E.2.2, 6, .inl th)), (kpa, .inl (E.2.2, kq, .inl pl))] ++ (gW E r (fun _ => 12) c 8 ++ ([] ++ V37)))) F dX5_isSame__45 (c_X5_cells E kka r2 d (nI i4) ) rfl gX5_isSame__X5_cells kS_X5_cells ⟨by decide, by decide⟩ (ps4 (pmc (A := [_]) (pmc (A := [_]) (pmc (A := [_]) (pmc (A := [_]) (pmc (A := []) (List.Perm.nil)))))) (by simp only [List.append_assoc, List.nil_append, List.append_nil]; exact psw _ _ _)) rfl (Nat.le_of_ble_eq_true rfl) ⟨by show 0 + 0 + 0 + 0 ≤ 70; omega, by show 0 + 0 + 0 + 0 ≤ 4000; omega⟩ (fun a45 => ?_)
      refine g_ws (ws' := ([(y, .inr (5, [.ref pa, .int (nI m), .int car, .int tur, .int pre, .ref sa, .int (nI n), .ref kpa, .ref kka, .int ko'])), (pa, qE E 8 r), (sa, .inl (E.2.2, 6, .inl th)), (kpa, .inl (E.2.2, kq, .inl pl)), (kka, qE E 8 r2)] ++ (gW E r (fun _ => 12) c 8 ++ (gW E r2 (fun _ => 12) d 8 ++ ([] ++ V37))))) rfl ?_
      refine g_icmp_ne_f (tgt := 79) F dX5_isSame__48 (by decide) (fun z => z (zCel_tie hd (nI i4) 8 (Nat.le_refl _)).symm) ?_
      refine g_aload_n F dX5_isSame__51 rfl 1 rfl ?_
      refine g_iload_n F dX5_isSame__52 rfl 3 rfl ?_
      refine g_iconst (v := 2) F dX5_isSame__53 (by decide) ?_
      refine g_callM (B := ([(y, .inr (5, [.ref pa, .int (nI m), .int car, .int tur, .int pre, .ref sa, .int (nI n), .ref kpa, .ref kka, .int ko'])), (pa, qE E 8 r), (sa, .inl (E.2.2, 6, .inl th)), (kpa, .inl (E.2.2, kq, .inl pl)), (kka, qE E 8 r2)] ++ (gW E r (fun _ => 12) c 8 ++ (gW E r2 (fun _ => 12) d 8 ++ [])))) (wm := V37) F dX5_isSame__54 (m_thread2 hV37 i4 (by omega) hn) rfl gX5_isSame__X4_thread hV37.mem.choose_spec rfl kV_X4_thread ⟨by decide, by decide⟩ (by simp only [List.append_assoc]) rfl (by exact Nat.le_of_ble_eq_true rfl) ⟨by show 0 + 0 + 0 + 0 + 0 ≤ 70; omega, by show 0 + 0 + 0 + 0 + 0 ≤ 4000; omega⟩ (fun ov54 V54 hV54 => ?_)
      obtain ⟨rfl, hV54⟩ := hV54
      refine g_ws (ws' := ([(y, .inr (5, [.ref pa, .int (nI m), .int car, .int tur, .int pre, .ref sa, .int (nI n), .ref kpa, .ref kka, .int ko'])), (pa, qE E 8 r), (sa, .inl (E.2.2, 6, .inl th)), (kpa, .inl (E.2.2, kq, .inl pl)), (kka, qE E 8 r2)] ++ (gW E r (fun _ => 12) c 8 ++ (gW E r2 (fun _ => 12) d 8 ++ ([] ++ V54))))) (by simp only [List.append_assoc]) ?_
      refine g_topr (y := if i4 < kq then kp i4 else (-1)) (if_neg (by omega)) ?_
      refine g_iload_n F dX5_isSame__57 rfl 3 rfl ?_
      refine g_aload_n F dX5_isSame__58 rfl 0 rfl ?_
      refine g_get F dX5_isSame__59 0 rfl rfl i5 7 (by decide) rfl (List.mem_of_getElem? (i := 3) rfl) ?_
      refine g_alen (v := nI kq) F dX5_isSame__62 3 rfl rfl ?_
      refine g_icmp_ge (tgt := 75) F dX5_isSame__63 (by decide) (fun k63 => ?_) (fun k63 => ?_)
      · skip
        refine g_iconst (v := (-1)) F dX5_isSame__75 (by decide) ?_
        refine g_icmp_eq_t (tgt := 81) F dX5_isSame__76 (by decide) (by first | exact if_neg (ge_no k63 hq6) | rw [if_pos (ge_yes k63 (by omega)), hpl _ (ge_yes k63 (by omega))]) ?_
        refine g_iinc (L' := [(0, .ref y), (1, .ref x), (2, .int ((mHold th i4) + (th i4))), (3, .int (nI (i4 + 1)))]) (v := nI (i4 + 1)) F dX5_isSame__81 3 rfl (nI_1 _) (by decide) [1, 2, 3, 0] rfl ?_
        refine g_goto (tgt := 4) F dX5_isSame__84 (by decide) ?_
        refine g_cs (cells' := 0) (slots' := 0) (by show 0 + 0 + 0 + 0 + 0 ≤ 0; omega) (by show 0 + 0 + 0 + 0 + 0 ≤ 0; omega) ?_
        exact ih4 (i4 + 1) (by omega) V54 hV54
      · skip
        refine g_aload_n F dX5_isSame__66 rfl 0 rfl ?_
        refine g_get F dX5_isSame__67 0 rfl rfl i5 7 (by decide) rfl (List.mem_of_getElem? (i := 3) rfl) ?_
        refine g_iload_n F dX5_isSame__70 rfl 3 rfl ?_
        refine g_ialdN (k := i4) F dX5_isSame__71 3 rfl (ge_yes k63 (by omega)) (by first | decide | omega) ?_
        refine g_goto (tgt := 76) F dX5_isSame__72 (by decide) ?_
        refine g_icmp_eq_t (tgt := 81) F dX5_isSame__76 (by decide) (by first | exact if_neg (ge_no k63 hq6) | rw [if_pos (ge_yes k63 (by omega)), hpl _ (ge_yes k63 (by omega))]) ?_
        refine g_iinc (L' := [(0, .ref y), (1, .ref x), (2, .int ((mHold th i4) + (th i4))), (3, .int (nI (i4 + 1)))]) (v := nI (i4 + 1)) F dX5_isSame__81 3 rfl (nI_1 _) (by decide) [1, 2, 3, 0] rfl ?_
        refine g_goto (tgt := 4) F dX5_isSame__84 (by decide) ?_
        refine g_cs (cells' := 0) (slots' := 0) (by show 0 + 0 + 0 + 0 + 0 ≤ 0; omega) (by show 0 + 0 + 0 + 0 + 0 ≤ 0; omega) ?_
        exact ih4 (i4 + 1) (by omega) V54 hV54
  exact lp4 6 0 (by omega) wm hm
set_option maxHeartbeats 4000000 in
set_option maxRecDepth 100000 in
theorem c_X5_isSame_0 {E : gE} {x y pa sa kpa kka : Nat} {r : Nat → Nat} {c : Nat → AF} {f th : AF} {m : Nat} {car tur pre : Int32} {n : Nat} {k kp : AF} {kq : Nat} {ko ko' : Int32} {wm : va_W} {N : Nat} (hm : MWP E x (f, th, m, car, tur, pre, n, k, kp, kq, ko) wm) (hc : RW c f) (hok : OkS N (f, th, m, car, tur, pre, n, k, kp, kq, ko)) (hN : N < 1000) (hn0 : n = 0) (hko : ko' = 0) : CtP E yX5_isSame_ wsX5_isSame_ ({ frames := 9, cells := 70, slots := 4000, locals := 154 }) [.ref y, .ref x] ([(y, .inr (5, [.ref pa, .int (nI m), .int car, .int tur, .int pre, .ref sa, .int (nI n), .ref kpa, .ref kka, .int ko'])), (pa, qE E 8 r), (sa, .inl (E.2.2, 6, .inl th)), (kpa, .inl (E.2.2, 0, .inl (fun _ => 0))), (kka, qF E 0 (fun _ => none))] ++ (gW E r (fun _ => 12) c 8 ++ ([] ++ wm))) (fun o V => o = some (.int 1)) := by
  refine CtP.of (cc := cX5_isSame_) (maxL := 8) (ret := some .boolean) (own := RX5) (L := [(0, .ref y), (1, .ref x)]) (by decide) rfl rfl (Nat.le_of_ble_eq_true rfl) rfl ?_
  intro X F hQ
  have i5 : ∀ w ∈ u_ws RX5 TX5 10, w ∈ wsX5_isSame_ := gsub [233, 234, 235, 236, 237, 238, 239, 240, 241, 242] rfl
  have hn : n < 2147483648 := by have := hok.2.2.2.2.2.2.1; omega
  have hm1 : 1 ≤ m := by have := hok.2.2.1.1; omega
  have hm6 : m ≤ 6 := hok.2.2.1.2
  have hp6 : PQ f m ≤ 6 := Nat.le_trans (PQ_m f hm1) hm6
  have hpp : ∀ j, j < PQ f m → zPal c m j = PP f m j := zPal_m hc hok.1 z0 z0 hm1 hm6
  refine g_iconst (v := 0) F dX5_isSame__0 (by decide) ?_
  refine g_istore_n (L' := [(0, .ref y), (1, .ref x), (2, .int 0)]) F dX5_isSame__1 rfl (by decide) [1, 2, 0] rfl ?_
  refine g_iconst (v := 0) F dX5_isSame__2 (by decide) ?_
  refine g_istore_n (L' := [(0, .ref y), (1, .ref x), (2, .int 0), (3, .int 0)]) F dX5_isSame__3 rfl (by decide) [1, 2, 3, 0] rfl ?_
  have lp4 : ∀ (n4 i4 : Nat), i4 + n4 = 6 → ∀ (w4 : va_W), (MWP E x (f, th, m, car, tur, pre, n, k, kp, kq, ko) w4) → G E X 0 0 4 [(0, .ref y), (1, .ref x), (2, .int (mHold th i4)), (3, .int (nI i4))] [] ([(y, .inr (5, [.ref pa, .int (nI m), .int car, .int tur, .int pre, .ref sa, .int (nI n), .ref kpa, .ref kka, .int ko'])), (pa, qE E 8 r), (sa, .inl (E.2.2, 6, .inl th)), (kpa, .inl (E.2.2, 0, .inl (fun _ => 0))), (kka, qF E 0 (fun _ => none))] ++ (gW E r (fun _ => 12) c 8 ++ ([] ++ w4))) := by
    intro n4
    induction n4 with
    | zero =>
      intro i4 hi4 w4  hm4
      have he4 : i4 = 6 := by omega
      rw [he4]
      refine g_iload_n F dX5_isSame__4 rfl 3 rfl ?_
      refine g_bipush (v := 6) F dX5_isSame__5 (by decide) ?_
      refine g_icmp_ge_t (tgt := 87) F dX5_isSame__7 (by decide) (by decide) ?_
      refine g_bipush (v := 8) F dX5_isSame__87 (by decide) ?_
      refine g_newa (N' := 8) F dX5_isSame__89 (List.mem_of_getElem? (i := 4) rfl) (by decide) (rfl) (by omega) (by show 0 + 1 ≤ 70; omega) (by show 0 + 8 ≤ 4000; omega) (fun q89 => g_front ?_)
      refine g_ws (ws' := ([(q89, .inl (E.2.2, 8, .inl (fun _ => 0))), (y, .inr (5, [.ref pa, .int (nI m), .int car, .int tur, .int pre, .ref sa, .int (nI n), .ref kpa, .ref kka, .int ko'])), (pa, qE E 8 r), (sa, .inl (E.2.2, 6, .inl th)), (kpa, .inl (E.2.2, 0, .inl (fun _ => 0))), (kka, qF E 0 (fun _ => none))] ++ (gW E r (fun _ => 12) c 8 ++ ([] ++ w4)))) rfl ?_
      refine g_dup F dX5_isSame__91 rfl ?_
      refine g_iconst (v := 0) F dX5_isSame__92 (by decide) ?_
      refine g_aload_n F dX5_isSame__93 rfl 0 rfl ?_
      refine g_get F dX5_isSame__94 1 rfl rfl i5 1 (by decide) rfl (List.mem_of_getElem? (i := 5) rfl) ?_
      refine g_iastN (k := 0) (ws' := ([(q89, .inl (E.2.2, 8, .inl (upd (fun _ => 0) 0 (nI m)))), (y, .inr (5, [.ref pa, .int (nI m), .int car, .int tur, .int pre, .ref sa, .int (nI n), .ref kpa, .ref kka, .int ko'])), (pa, qE E 8 r), (sa, .inl (E.2.2, 6, .inl th)), (kpa, .inl (E.2.2, 0, .inl (fun _ => 0))), (kka, qF E 0 (fun _ => none))] ++ (gW E r (fun _ => 12) c 8 ++ ([] ++ w4)))) F dX5_isSame__97 0 rfl (by omega) (by first | decide | omega) rfl ?_
      refine g_dup F dX5_isSame__98 rfl ?_
      refine g_iconst (v := 1) F dX5_isSame__99 (by decide) ?_
      refine g_aload_n F dX5_isSame__100 rfl 0 rfl ?_
      refine g_get F dX5_isSame__101 1 rfl rfl i5 2 (by decide) rfl (List.mem_of_getElem? (i := 6) rfl) ?_
      refine g_iastN (k := 1) (ws' := ([(q89, .inl (E.2.2, 8, .inl (upd (upd (fun _ => 0) 0 (nI m)) 1 car))), (y, .inr (5, [.ref pa, .int (nI m), .int car, .int tur, .int pre, .ref sa, .int (nI n), .ref kpa, .ref kka, .int ko'])), (pa, qE E 8 r), (sa, .inl (E.2.2, 6, .inl th)), (kpa, .inl (E.2.2, 0, .inl (fun _ => 0))), (kka, qF E 0 (fun _ => none))] ++ (gW E r (fun _ => 12) c 8 ++ ([] ++ w4)))) F dX5_isSame__104 0 rfl (by omega) (by first | decide | omega) rfl ?_
      refine g_dup F dX5_isSame__105 rfl ?_
      refine g_iconst (v := 2) F dX5_isSame__106 (by decide) ?_
      refine g_aload_n F dX5_isSame__107 rfl 0 rfl ?_
      refine g_get F dX5_isSame__108 1 rfl rfl i5 3 (by decide) rfl (List.mem_of_getElem? (i := 7) rfl) ?_
      have jn119 : G E X (0 + 1) (0 + 8) 119 [(0, .ref y), (1, .ref x), (2, .int (mHold th 6)), (3, .int (nI 6))] [.int (if tur = 0 then 0 else 1), .int 2, .ref q89, .ref q89] ([(q89, .inl (E.2.2, 8, .inl (upd (upd (fun _ => 0) 0 (nI m)) 1 car))), (y, .inr (5, [.ref pa, .int (nI m), .int car, .int tur, .int pre, .ref sa, .int (nI n), .ref kpa, .ref kka, .int ko'])), (pa, qE E 8 r), (sa, .inl (E.2.2, 6, .inl th)), (kpa, .inl (E.2.2, 0, .inl (fun _ => 0))), (kka, qF E 0 (fun _ => none))] ++ (gW E r (fun _ => 12) c 8 ++ ([] ++ w4))) := by
        refine g_iastN (k := 2) (ws' := ([(q89, .inl (E.2.2, 8, .inl (upd (upd (upd (fun _ => 0) 0 (nI m)) 1 car) 2 (if tur = 0 then 0 else 1)))), (y, .inr (5, [.ref pa, .int (nI m), .int car, .int tur, .int pre, .ref sa, .int (nI n), .ref kpa, .ref kka, .int ko'])), (pa, qE E 8 r), (sa, .inl (E.2.2, 6, .inl th)), (kpa, .inl (E.2.2, 0, .inl (fun _ => 0))), (kka, qF E 0 (fun _ => none))] ++ (gW E r (fun _ => 12) c 8 ++ ([] ++ w4)))) F dX5_isSame__119 0 rfl (by omega) (by first | decide | omega) rfl ?_
        refine g_dup F dX5_isSame__120 rfl ?_
        refine g_iconst (v := 3) F dX5_isSame__121 (by decide) ?_
        refine g_aload_n F dX5_isSame__122 rfl 0 rfl ?_
        refine g_get F dX5_isSame__123 1 rfl rfl i5 4 (by decide) rfl (List.mem_of_getElem? (i := 8) rfl) ?_
        have jn134 : G E X (0 + 1) (0 + 8) 134 [(0, .ref y), (1, .ref x), (2, .int (mHold th 6)), (3, .int (nI 6))] [.int (if pre = 0 then 0 else 1), .int 3, .ref q89, .ref q89] ([(q89, .inl (E.2.2, 8, .inl (upd (upd (upd (fun _ => 0) 0 (nI m)) 1 car) 2 (if tur = 0 then 0 else 1)))), (y, .inr (5, [.ref pa, .int (nI m), .int car, .int tur, .int pre, .ref sa, .int (nI n), .ref kpa, .ref kka, .int ko'])), (pa, qE E 8 r), (sa, .inl (E.2.2, 6, .inl th)), (kpa, .inl (E.2.2, 0, .inl (fun _ => 0))), (kka, qF E 0 (fun _ => none))] ++ (gW E r (fun _ => 12) c 8 ++ ([] ++ w4))) := by
          refine g_iastN (k := 3) (ws' := ([(q89, .inl (E.2.2, 8, .inl (upd (upd (upd (upd (fun _ => 0) 0 (nI m)) 1 car) 2 (if tur = 0 then 0 else 1)) 3 (if pre = 0 then 0 else 1)))), (y, .inr (5, [.ref pa, .int (nI m), .int car, .int tur, .int pre, .ref sa, .int (nI n), .ref kpa, .ref kka, .int ko'])), (pa, qE E 8 r), (sa, .inl (E.2.2, 6, .inl th)), (kpa, .inl (E.2.2, 0, .inl (fun _ => 0))), (kka, qF E 0 (fun _ => none))] ++ (gW E r (fun _ => 12) c 8 ++ ([] ++ w4)))) F dX5_isSame__134 0 rfl (by omega) (by first | decide | omega) rfl ?_
          refine g_dup F dX5_isSame__135 rfl ?_
          refine g_iconst (v := 4) F dX5_isSame__136 (by decide) ?_
          refine g_aload_n F dX5_isSame__137 rfl 0 rfl ?_
          refine g_get F dX5_isSame__138 1 rfl rfl i5 6 (by decide) rfl (List.mem_of_getElem? (i := 9) rfl) ?_
          refine g_iastN (k := 4) (ws' := ([(q89, .inl (E.2.2, 8, .inl (upd (upd (upd (upd (upd (fun _ => 0) 0 (nI m)) 1 car) 2 (if tur = 0 then 0 else 1)) 3 (if pre = 0 then 0 else 1)) 4 (nI n)))), (y, .inr (5, [.ref pa, .int (nI m), .int car, .int tur, .int pre, .ref sa, .int (nI n), .ref kpa, .ref kka, .int ko'])), (pa, qE E 8 r), (sa, .inl (E.2.2, 6, .inl th)), (kpa, .inl (E.2.2, 0, .inl (fun _ => 0))), (kka, qF E 0 (fun _ => none))] ++ (gW E r (fun _ => 12) c 8 ++ ([] ++ w4)))) F dX5_isSame__141 0 rfl (by omega) (by first | decide | omega) rfl ?_
          refine g_dup F dX5_isSame__142 rfl ?_
          refine g_iconst (v := 5) F dX5_isSame__143 (by decide) ?_
          refine g_iload_n F dX5_isSame__144 rfl 2 rfl ?_
          refine g_iastN (k := 5) (ws' := ([(q89, .inl (E.2.2, 8, .inl (upd (upd (upd (upd (upd (upd (fun _ => 0) 0 (nI m)) 1 car) 2 (if tur = 0 then 0 else 1)) 3 (if pre = 0 then 0 else 1)) 4 (nI n)) 5 (mHold th 6)))), (y, .inr (5, [.ref pa, .int (nI m), .int car, .int tur, .int pre, .ref sa, .int (nI n), .ref kpa, .ref kka, .int ko'])), (pa, qE E 8 r), (sa, .inl (E.2.2, 6, .inl th)), (kpa, .inl (E.2.2, 0, .inl (fun _ => 0))), (kka, qF E 0 (fun _ => none))] ++ (gW E r (fun _ => 12) c 8 ++ ([] ++ w4)))) F dX5_isSame__145 0 rfl (by omega) (by first | decide | omega) rfl ?_
          refine g_dup F dX5_isSame__146 rfl ?_
          refine g_bipush (v := 6) F dX5_isSame__147 (by decide) ?_
          refine g_aload_n F dX5_isSame__149 rfl 0 rfl ?_
          refine g_get F dX5_isSame__150 1 rfl rfl i5 9 (by decide) rfl (List.mem_of_getElem? (i := 10) rfl) ?_
          refine g_iastN (k := 6) (ws' := ([(q89, .inl (E.2.2, 8, .inl (upd (upd (upd (upd (upd (upd (upd (fun _ => 0) 0 (nI m)) 1 car) 2 (if tur = 0 then 0 else 1)) 3 (if pre = 0 then 0 else 1)) 4 (nI n)) 5 (mHold th 6)) 6 ko'))), (y, .inr (5, [.ref pa, .int (nI m), .int car, .int tur, .int pre, .ref sa, .int (nI n), .ref kpa, .ref kka, .int ko'])), (pa, qE E 8 r), (sa, .inl (E.2.2, 6, .inl th)), (kpa, .inl (E.2.2, 0, .inl (fun _ => 0))), (kka, qF E 0 (fun _ => none))] ++ (gW E r (fun _ => 12) c 8 ++ ([] ++ w4)))) F dX5_isSame__153 0 rfl (by omega) (by first | decide | omega) rfl ?_
          refine g_dup F dX5_isSame__154 rfl ?_
          refine g_bipush (v := 7) F dX5_isSame__155 (by decide) ?_
          refine g_aload_n F dX5_isSame__157 rfl 0 rfl ?_
          refine g_aload_n F dX5_isSame__158 rfl 0 rfl ?_
          refine g_get F dX5_isSame__159 1 rfl rfl i5 8 (by decide) rfl (List.mem_of_getElem? (i := 2) rfl) ?_
          refine g_callVA (R := ([(q89, .inl (E.2.2, 8, .inl (upd (upd (upd (upd (upd (upd (upd (fun _ => 0) 0 (nI m)) 1 car) 2 (if tur = 0 then 0 else 1)) 3 (if pre = 0 then 0 else 1)) 4 (nI n)) 5 (mHold th 6)) 6 ko'))), (pa, qE E 8 r), (sa, .inl (E.2.2, 6, .inl th)), (kpa, .inl (E.2.2, 0, .inl (fun _ => 0)))] ++ (gW E r (fun _ => 12) c 8 ++ ([] ++ w4)))) F dX5_isSame__162 (c_X5_knots_0 E y pa sa kpa kka (nI m) car tur pre (nI n) ko' kka (fun _ => none) ) rfl gX5_isSame__X5_knots_ (List.mem_of_getElem? (i := 1) rfl) rfl kV_X5_knots_ ⟨by decide, by decide⟩ (ps3 (pmc (A := [_, _]) (pmc (A := []) (pmc (A := [_]) (pmc (A := [_]) (pmc (A := [_]) (pmc (A := []) (List.Perm.nil)))))))) rfl (Nat.le_of_ble_eq_true rfl) ⟨by show 0 + 1 + 0 ≤ 70; omega, by show 0 + 8 + 0 ≤ 4000; omega⟩ (fun a162 => ?_)
          refine g_ws (ws' := ([(q89, .inl (E.2.2, 8, .inl (upd (upd (upd (upd (upd (upd (upd (fun _ => 0) 0 (nI m)) 1 car) 2 (if tur = 0 then 0 else 1)) 3 (if pre = 0 then 0 else 1)) 4 (nI n)) 5 (mHold th 6)) 6 ko'))), (y, .inr (5, [.ref pa, .int (nI m), .int car, .int tur, .int pre, .ref sa, .int (nI n), .ref kpa, .ref kka, .int ko'])), (pa, qE E 8 r), (sa, .inl (E.2.2, 6, .inl th)), (kpa, .inl (E.2.2, 0, .inl (fun _ => 0))), (kka, qF E 0 (fun _ => none))] ++ (gW E r (fun _ => 12) c 8 ++ ([] ++ w4)))) rfl ?_
          refine g_iastN (k := 7) (ws' := ([(q89, .inl (E.2.2, 8, .inl (upd (upd (upd (upd (upd (upd (upd (upd (fun _ => 0) 0 (nI m)) 1 car) 2 (if tur = 0 then 0 else 1)) 3 (if pre = 0 then 0 else 1)) 4 (nI n)) 5 (mHold th 6)) 6 ko') 7 0))), (y, .inr (5, [.ref pa, .int (nI m), .int car, .int tur, .int pre, .ref sa, .int (nI n), .ref kpa, .ref kka, .int ko'])), (pa, qE E 8 r), (sa, .inl (E.2.2, 6, .inl th)), (kpa, .inl (E.2.2, 0, .inl (fun _ => 0))), (kka, qF E 0 (fun _ => none))] ++ (gW E r (fun _ => 12) c 8 ++ ([] ++ w4)))) F dX5_isSame__165 0 rfl (by omega) (by first | decide | omega) rfl ?_
          obtain ⟨g9, hg9⟩ : ∃ g : AF, g = upd (upd (upd (upd (upd (upd (upd (upd (fun _ => 0) 0 (nI m)) 1 car) 2 (if tur = 0 then 0 else 1)) 3 (if pre = 0 then 0 else 1)) 4 (nI n)) 5 (mHold th 6)) 6 ko') 7 0 := ⟨_, rfl⟩
          have hcnt : ∀ w, w < 8 → mCnt (nI m) car tur pre (nI n) (if n = 0 then 0 else ko) th k w = g9 w := by
            intro w hw
            rw [hg9]
            match w, hw with
            | 0, _ => rfl
            | 1, _ => rfl
            | 2, _ => rfl
            | 3, _ => rfl
            | 4, _ => rfl
            | 5, _ => rfl
            | 6, _ => exact (if_pos hn0).trans hko.symm
            | 7, _ => exact if_pos ((nI_le0 hn).mpr hn0)
          refine g_ws (ws' := ([(q89, .inl (E.2.2, 8, .inl g9)), (y, .inr (5, [.ref pa, .int (nI m), .int car, .int tur, .int pre, .ref sa, .int (nI n), .ref kpa, .ref kka, .int ko'])), (pa, qE E 8 r), (sa, .inl (E.2.2, 6, .inl th)), (kpa, .inl (E.2.2, 0, .inl (fun _ => 0))), (kka, qF E 0 (fun _ => none))] ++ (gW E r (fun _ => 12) c 8 ++ ([] ++ w4)))) (by rw [hg9]) ?_
          clear hg9
          refine g_astore_n (L' := [(0, .ref y), (1, .ref x), (2, .int (mHold th 6)), (3, .ref q89)]) F dX5_isSame__166 rfl (by decide) [1, 2, 3, 0] rfl ?_
          refine g_iconst (v := 0) F dX5_isSame__167 (by decide) ?_
          refine g_istore (L' := [(0, .ref y), (1, .ref x), (2, .int (mHold th 6)), (3, .ref q89), (4, .int 0)]) F dX5_isSame__168 (by decide) [1, 2, 3, 4, 0] rfl ?_
          have lp170 : ∀ (n170 i170 : Nat), i170 + n170 = 8 → ∀ (w170 : va_W), (MWP E x (f, th, m, car, tur, pre, n, k, kp, kq, ko) w170) → G E X 17 968 170 [(0, .ref y), (1, .ref x), (2, .int (mHold th 6)), (3, .ref q89), (4, .int (nI i170))] [] ([(q89, .inl (E.2.2, 8, .inl g9)), (y, .inr (5, [.ref pa, .int (nI m), .int car, .int tur, .int pre, .ref sa, .int (nI n), .ref kpa, .ref kka, .int ko'])), (pa, qE E 8 r), (sa, .inl (E.2.2, 6, .inl th)), (kpa, .inl (E.2.2, 0, .inl (fun _ => 0))), (kka, qF E 0 (fun _ => none))] ++ (gW E r (fun _ => 12) c 8 ++ ([] ++ w170))) := by
            intro n170
            induction n170 with
            | zero =>
              intro i170 hi170 w170  hm170
              have he170 : i170 = 8 := by omega
              rw [he170]
              refine g_iload F dX5_isSame__170 4 rfl ?_
              refine g_bipush (v := 8) F dX5_isSame__172 (by decide) ?_
              refine g_icmp_ge_t (tgt := 198) F dX5_isSame__174 (by decide) (by decide) ?_
              refine g_iconst (v := 0) F dX5_isSame__198 (by decide) ?_
              refine g_istore (L' := [(0, .ref y), (1, .ref x), (2, .int (mHold th 6)), (3, .ref q89), (4, .int 0)]) F dX5_isSame__199 (by decide) [1, 2, 3, 4, 0] rfl ?_
              refine g_iconst (v := 0) F dX5_isSame__201 (by decide) ?_
              refine g_istore (L' := [(0, .ref y), (1, .ref x), (2, .int (mHold th 6)), (3, .ref q89), (4, .int 0), (5, .int 0)]) F dX5_isSame__202 (by decide) [1, 2, 3, 4, 5, 0] rfl ?_
              have lp204 : ∀ (n204 i204 : Nat), i204 + n204 = 8 → ∀ (w204 : va_W), (MWP E x (f, th, m, car, tur, pre, n, k, kp, kq, ko) w204) → G E X (17 + 4 * i204) (968 + 240 * i204) 204 [(0, .ref y), (1, .ref x), (2, .int (mHold th 6)), (3, .ref q89), (4, .int (mSumF f (12 * i204))), (5, .int (nI i204))] [] ([(q89, .inl (E.2.2, 8, .inl g9)), (y, .inr (5, [.ref pa, .int (nI m), .int car, .int tur, .int pre, .ref sa, .int (nI n), .ref kpa, .ref kka, .int ko'])), (pa, qE E 8 r), (sa, .inl (E.2.2, 6, .inl th)), (kpa, .inl (E.2.2, 0, .inl (fun _ => 0))), (kka, qF E 0 (fun _ => none))] ++ (gW E r (fun _ => 12) c 8 ++ ([] ++ w204))) := by
                intro n204
                induction n204 with
                | zero =>
                  intro i204 hi204 w204  hm204
                  have he204 : i204 = 8 := by omega
                  rw [he204]
                  refine g_iload F dX5_isSame__204 5 rfl ?_
                  refine g_bipush (v := 8) F dX5_isSame__206 (by decide) ?_
                  refine g_icmp_ge_t (tgt := 383) F dX5_isSame__208 (by decide) (by decide) ?_
                  refine g_aload_n F dX5_isSame__383 rfl 0 rfl ?_
                  refine g_aload_n F dX5_isSame__384 rfl 0 rfl ?_
                  refine g_get F dX5_isSame__385 1 rfl rfl i5 1 (by decide) rfl (List.mem_of_getElem? (i := 5) rfl) ?_
                  refine g_callVA (R := ([(q89, .inl (E.2.2, 8, .inl g9)), (sa, .inl (E.2.2, 6, .inl th)), (kpa, .inl (E.2.2, 0, .inl (fun _ => 0))), (kka, qF E 0 (fun _ => none))] ++ ([] ++ w204))) F dX5_isSame__388 (c_X5_pal E y pa sa kpa kka (nI m) car tur pre (nI n) ko' m r c (by first | assumption | decide | omega) (by first | assumption | decide | omega)) rfl gX5_isSame__X5_palette (List.mem_of_getElem? (i := 1) rfl) rfl kV_X5_palette ⟨by decide, by decide⟩ (ps4 (pmc (A := [_, _]) (pmc (A := []) (pmc (A := []) (pmc (A := []) (pmc (A := []) (pmc (A := []) (List.Perm.nil))))))) (by simp only [List.append_assoc, List.nil_append, List.append_nil]; exact List.Perm.refl _)) rfl (Nat.le_of_ble_eq_true rfl) ⟨by show 17 + 4 * 8 + 18 ≤ 70; omega, by show 968 + 240 * 8 + 1093 ≤ 4000; omega⟩ (fun a388 => ?_)
                  refine g_ws (ws' := ([((a388 0), .inl (E.2.2, zB c m, .inl (zPal c m))), (q89, .inl (E.2.2, 8, .inl g9)), (y, .inr (5, [.ref pa, .int (nI m), .int car, .int tur, .int pre, .ref sa, .int (nI n), .ref kpa, .ref kka, .int ko'])), (pa, qE E 8 r), (sa, .inl (E.2.2, 6, .inl th)), (kpa, .inl (E.2.2, 0, .inl (fun _ => 0))), (kka, qF E 0 (fun _ => none))] ++ (gW E r (fun _ => 12) c 8 ++ ([] ++ w204)))) rfl ?_
                  have hzB : zB c m = PQ f m := zB_m' hc hok.1 z0 hm1 hm6
                  refine g_ws (ws' := ([((a388 0), .inl (E.2.2, PQ f m, .inl (zPal c m))), (q89, .inl (E.2.2, 8, .inl g9)), (y, .inr (5, [.ref pa, .int (nI m), .int car, .int tur, .int pre, .ref sa, .int (nI n), .ref kpa, .ref kka, .int ko'])), (pa, qE E 8 r), (sa, .inl (E.2.2, 6, .inl th)), (kpa, .inl (E.2.2, 0, .inl (fun _ => 0))), (kka, qF E 0 (fun _ => none))] ++ (gW E r (fun _ => 12) c 8 ++ ([] ++ w204)))) (by rw [hzB]) ?_
                  refine g_astore (L' := [(0, .ref y), (1, .ref x), (2, .int (mHold th 6)), (3, .ref q89), (4, .int (mSumF f (12 * 8))), (5, .ref (a388 0))]) F dX5_isSame__391 (by decide) [1, 2, 3, 4, 5, 0] rfl ?_
                  refine g_iconst (v := 0) F dX5_isSame__393 (by decide) ?_
                  refine g_istore (L' := [(0, .ref y), (1, .ref x), (2, .int (mHold th 6)), (3, .ref q89), (4, .int (mSumF f (12 * 8))), (5, .ref (a388 0)), (6, .int 0)]) F dX5_isSame__394 (by decide) [1, 2, 3, 4, 5, 6, 0] rfl ?_
                  have lp396 : ∀ (n396 i396 : Nat), i396 + n396 = 6 → ∀ (w396 : va_W), (MWP E x (f, th, m, car, tur, pre, n, k, kp, kq, ko) w396) → G E X (17 + 4 * 8 + 18) (968 + 240 * 8 + 1093) 396 [(0, .ref y), (1, .ref x), (2, .int (mHold th 6)), (3, .ref q89), (4, .int (mSumF f (12 * 8))), (5, .ref (a388 0)), (6, .int (nI i396))] [] ([((a388 0), .inl (E.2.2, PQ f m, .inl (zPal c m))), (q89, .inl (E.2.2, 8, .inl g9)), (y, .inr (5, [.ref pa, .int (nI m), .int car, .int tur, .int pre, .ref sa, .int (nI n), .ref kpa, .ref kka, .int ko'])), (pa, qE E 8 r), (sa, .inl (E.2.2, 6, .inl th)), (kpa, .inl (E.2.2, 0, .inl (fun _ => 0))), (kka, qF E 0 (fun _ => none))] ++ (gW E r (fun _ => 12) c 8 ++ ([] ++ w396))) := by
                    intro n396
                    induction n396 with
                    | zero =>
                      intro i396 hi396 w396  hm396
                      have he396 : i396 = 6 := by omega
                      rw [he396]
                      refine g_iload F dX5_isSame__396 6 rfl ?_
                      refine g_bipush (v := 6) F dX5_isSame__398 (by decide) ?_
                      refine g_icmp_ge_t (tgt := 437) F dX5_isSame__400 (by decide) (by decide) ?_
                      refine g_aload_n F dX5_isSame__437 rfl 1 rfl ?_
                      refine g_callM (B := ([((a388 0), .inl (E.2.2, PQ f m, .inl (zPal c m))), (q89, .inl (E.2.2, 8, .inl g9)), (y, .inr (5, [.ref pa, .int (nI m), .int car, .int tur, .int pre, .ref sa, .int (nI n), .ref kpa, .ref kka, .int ko'])), (pa, qE E 8 r), (sa, .inl (E.2.2, 6, .inl th)), (kpa, .inl (E.2.2, 0, .inl (fun _ => 0))), (kka, qF E 0 (fun _ => none))] ++ (gW E r (fun _ => 12) c 8 ++ []))) (wm := w396) F dX5_isSame__438 (m_mean hm396) rfl gX5_isSame__X4_mean hm396.mem.choose_spec rfl kV_X4_mean ⟨by decide, by decide⟩ (by simp only [List.append_assoc]) rfl (by exact Nat.le_of_ble_eq_true rfl) ⟨by show 17 + 4 * 8 + 18 + 0 ≤ 70; omega, by show 968 + 240 * 8 + 1093 + 0 ≤ 4000; omega⟩ (fun ov438 V438 hV438 => ?_)
                      obtain ⟨rfl, hV438⟩ := hV438
                      refine g_ws (ws' := ([((a388 0), .inl (E.2.2, PQ f m, .inl (zPal c m))), (q89, .inl (E.2.2, 8, .inl g9)), (y, .inr (5, [.ref pa, .int (nI m), .int car, .int tur, .int pre, .ref sa, .int (nI n), .ref kpa, .ref kka, .int ko'])), (pa, qE E 8 r), (sa, .inl (E.2.2, 6, .inl th)), (kpa, .inl (E.2.2, 0, .inl (fun _ => 0))), (kka, qF E 0 (fun _ => none))] ++ (gW E r (fun _ => 12) c 8 ++ ([] ++ V438)))) (by simp only [List.append_assoc]) ?_
                      refine g_iload F dX5_isSame__441 4 rfl ?_
                      refine g_i2d F dX5_isSame__443 ?_
                      refine g_ldc2d (v := 4636455816377925632) F dX5_isSame__444 (List.mem_of_getElem? (i := 12) rfl) ?_
                      refine g_ddiv F dX5_isSame__447 (sMean_n _) ?_
                      refine g_dcmp F dX5_isSame__448 ?_
                      refine g_if_ne_f (tgt := 456) F dX5_isSame__449 (by decide) (fun z => z (mean_self _)) ?_
                      refine g_iconst (v := 1) F dX5_isSame__452 (by decide) ?_
                      refine g_goto (tgt := 457) F dX5_isSame__453 (by decide) ?_
                      refine g_cs (cells' := 70) (slots' := 4000) (by show 17 + 4 * 8 + 18 + 0 ≤ 70; omega) (by show 968 + 240 * 8 + 1093 + 0 ≤ 4000; omega) ?_
                      exact g_zretP F hQ dX5_isSame__457 (Or.inr rfl) rfl
                    | succ n396 ih396 =>
                      intro i396 hi396 w396  hm396
                      have hl396 : i396 < 6 := by omega
                      refine g_iload F dX5_isSame__396 6 rfl ?_
                      refine g_bipush (v := 6) F dX5_isSame__398 (by decide) ?_
                      refine g_icmp_ge_f (tgt := 437) F dX5_isSame__400 (by decide) (nle_nI (n := 6) hl396 (by omega)) ?_
                      refine g_aload_n F dX5_isSame__403 rfl 1 rfl ?_
                      refine g_iload F dX5_isSame__404 6 rfl ?_
                      refine g_callM (B := ([((a388 0), .inl (E.2.2, PQ f m, .inl (zPal c m))), (q89, .inl (E.2.2, 8, .inl g9)), (y, .inr (5, [.ref pa, .int (nI m), .int car, .int tur, .int pre, .ref sa, .int (nI n), .ref kpa, .ref kka, .int ko'])), (pa, qE E 8 r), (sa, .inl (E.2.2, 6, .inl th)), (kpa, .inl (E.2.2, 0, .inl (fun _ => 0))), (kka, qF E 0 (fun _ => none))] ++ (gW E r (fun _ => 12) c 8 ++ []))) (wm := w396) F dX5_isSame__406 (m_palette hm396 i396 (by omega) hok) rfl gX5_isSame__X4_palette hm396.mem.choose_spec rfl kV_X4_palette ⟨by decide, by decide⟩ (by simp only [List.append_assoc]) rfl (by exact Nat.le_of_ble_eq_true rfl) ⟨by show 17 + 4 * 8 + 18 + 0 ≤ 70; omega, by show 968 + 240 * 8 + 1093 + 0 ≤ 4000; omega⟩ (fun ov406 V406 hV406 => ?_)
                      obtain ⟨rfl, hV406⟩ := hV406
                      refine g_ws (ws' := ([((a388 0), .inl (E.2.2, PQ f m, .inl (zPal c m))), (q89, .inl (E.2.2, 8, .inl g9)), (y, .inr (5, [.ref pa, .int (nI m), .int car, .int tur, .int pre, .ref sa, .int (nI n), .ref kpa, .ref kka, .int ko'])), (pa, qE E 8 r), (sa, .inl (E.2.2, 6, .inl th)), (kpa, .inl (E.2.2, 0, .inl (fun _ => 0))), (kka, qF E 0 (fun _ => none))] ++ (gW E r (fun _ => 12) c 8 ++ ([] ++ V406)))) (by simp only [List.append_assoc]) ?_
                      refine g_iload F dX5_isSame__409 6 rfl ?_
                      refine g_aload F dX5_isSame__411 5 rfl ?_
                      refine g_alen (v := nI (PQ f m)) F dX5_isSame__413 0 rfl rfl ?_
                      refine g_icmp_ge (tgt := 425) F dX5_isSame__414 (by decide) (fun k414 => ?_) (fun k414 => ?_)
                      · skip
                        refine g_iconst (v := (-1)) F dX5_isSame__425 (by decide) ?_
                        refine g_icmp_eq_t (tgt := 431) F dX5_isSame__426 (by decide) (by first | exact if_neg (ge_no k414 hp6) | rw [if_pos (ge_yes k414 (by omega)), hpp _ (ge_yes k414 (by omega))]) ?_
                        refine g_iinc (L' := [(0, .ref y), (1, .ref x), (2, .int (mHold th 6)), (3, .ref q89), (4, .int (mSumF f (12 * 8))), (5, .ref (a388 0)), (6, .int (nI (i396 + 1)))]) (v := nI (i396 + 1)) F dX5_isSame__431 6 rfl (nI_1 _) (by decide) [1, 2, 3, 4, 5, 6, 0] rfl ?_
                        refine g_goto (tgt := 396) F dX5_isSame__434 (by decide) ?_
                        exact ih396 (i396 + 1) (by omega) V406 hV406
                      · skip
                        refine g_aload F dX5_isSame__417 5 rfl ?_
                        refine g_iload F dX5_isSame__419 6 rfl ?_
                        refine g_ialdN (k := i396) F dX5_isSame__421 0 rfl (ge_yes k414 (by omega)) (by first | decide | omega) ?_
                        refine g_goto (tgt := 426) F dX5_isSame__422 (by decide) ?_
                        refine g_icmp_eq_t (tgt := 431) F dX5_isSame__426 (by decide) (by first | exact if_neg (ge_no k414 hp6) | rw [if_pos (ge_yes k414 (by omega)), hpp _ (ge_yes k414 (by omega))]) ?_
                        refine g_iinc (L' := [(0, .ref y), (1, .ref x), (2, .int (mHold th 6)), (3, .ref q89), (4, .int (mSumF f (12 * 8))), (5, .ref (a388 0)), (6, .int (nI (i396 + 1)))]) (v := nI (i396 + 1)) F dX5_isSame__431 6 rfl (nI_1 _) (by decide) [1, 2, 3, 4, 5, 6, 0] rfl ?_
                        refine g_goto (tgt := 396) F dX5_isSame__434 (by decide) ?_
                        exact ih396 (i396 + 1) (by omega) V406 hV406
                  exact lp396 6 0 (by omega) w204 hm204
                | succ n204 ih204 =>
                  intro i204 hi204 w204  hm204
                  have hl204 : i204 < 8 := by omega
                  refine g_iload F dX5_isSame__204 5 rfl ?_
                  refine g_bipush (v := 8) F dX5_isSame__206 (by decide) ?_
                  refine g_icmp_ge_f (tgt := 383) F dX5_isSame__208 (by decide) (nle_nI (n := 8) hl204 (by omega)) ?_
                  refine g_iconst (v := 0) F dX5_isSame__211 (by decide) ?_
                  refine g_istore (L' := [(0, .ref y), (1, .ref x), (2, .int (mHold th 6)), (3, .ref q89), (4, .int (mSumF f (12 * i204))), (5, .int (nI i204)), (6, .int 0)]) F dX5_isSame__212 (by decide) [1, 2, 3, 4, 5, 6, 0] rfl ?_
                  have lp214 : ∀ (n214 i214 : Nat), i214 + n214 = 12 → ∀ (w214 : va_W), (MWP E x (f, th, m, car, tur, pre, n, k, kp, kq, ko) w214) → G E X (17 + 4 * i204) (968 + 240 * i204) 214 [(0, .ref y), (1, .ref x), (2, .int (mHold th 6)), (3, .ref q89), (4, .int (mSumF f (12 * i204 + i214))), (5, .int (nI i204)), (6, .int (nI i214))] [] ([(q89, .inl (E.2.2, 8, .inl g9)), (y, .inr (5, [.ref pa, .int (nI m), .int car, .int tur, .int pre, .ref sa, .int (nI n), .ref kpa, .ref kka, .int ko'])), (pa, qE E 8 r), (sa, .inl (E.2.2, 6, .inl th)), (kpa, .inl (E.2.2, 0, .inl (fun _ => 0))), (kka, qF E 0 (fun _ => none))] ++ (gW E r (fun _ => 12) c 8 ++ ([] ++ w214))) := by
                    intro n214
                    induction n214 with
                    | zero =>
                      intro i214 hi214 w214  hm214
                      have he214 : i214 = 12 := by omega
                      rw [he214]
                      refine g_iload F dX5_isSame__214 6 rfl ?_
                      refine g_bipush (v := 12) F dX5_isSame__216 (by decide) ?_
                      refine g_icmp_ge_t (tgt := 293) F dX5_isSame__218 (by decide) (by decide) ?_
                      refine g_aload_n F dX5_isSame__293 rfl 0 rfl ?_
                      refine g_get F dX5_isSame__294 1 rfl rfl i5 6 (by decide) rfl (List.mem_of_getElem? (i := 9) rfl) ?_
                      refine g_if_ne_f (tgt := 303) F dX5_isSame__297 (by decide) (fun z => z (by rw [hn0]; rfl)) ?_
                      refine g_goto (tgt := 377) F dX5_isSame__300 (by decide) ?_
                      refine g_iinc (L' := [(0, .ref y), (1, .ref x), (2, .int (mHold th 6)), (3, .ref q89), (4, .int (mSumF f (12 * i204 + 12))), (5, .int (nI (i204 + 1))), (6, .int (nI 12))]) (v := nI (i204 + 1)) F dX5_isSame__377 5 rfl (nI_1 _) (by decide) [1, 2, 3, 4, 5, 0, 6] rfl ?_
                      refine g_goto (tgt := 204) F dX5_isSame__380 (by decide) ?_
                      refine g_lv (L' := [(0, .ref y), (1, .ref x), (2, .int (mHold th 6)), (3, .ref q89), (4, .int (mSumF f (12 * i204 + 12))), (5, .int (nI (i204 + 1)))]) [0, 1, 2, 3, 4, 5] rfl ?_
                      refine g_cs (cells' := (17 + 4 * (i204 + 1))) (slots' := (968 + 240 * (i204 + 1))) (by show 17 + 4 * i204 ≤ 17 + 4 * (i204 + 1); omega) (by show 968 + 240 * i204 ≤ 968 + 240 * (i204 + 1); omega) ?_
                      rw [show 12 * i204 + 12 = 12 * (i204 + 1) by omega]
                      exact ih204 (i204 + 1) (by omega) w214 hm214
                    | succ n214 ih214 =>
                      intro i214 hi214 w214  hm214
                      have hl214 : i214 < 12 := by omega
                      refine g_iload F dX5_isSame__214 6 rfl ?_
                      refine g_bipush (v := 12) F dX5_isSame__216 (by decide) ?_
                      refine g_icmp_ge_f (tgt := 293) F dX5_isSame__218 (by decide) (nle_nI (n := 12) hl214 (by omega)) ?_
                      refine g_iload F dX5_isSame__221 4 rfl ?_
                      refine g_aload_n F dX5_isSame__223 rfl 0 rfl ?_
                      refine g_get F dX5_isSame__224 1 rfl rfl i5 0 (by decide) rfl (List.mem_of_getElem? (i := 11) rfl) ?_
                      refine g_iload F dX5_isSame__227 5 rfl ?_
                      refine g_aald (k := i204) F dX5_isSame__229 2 rfl (by omega) (by first | decide | omega) rfl ?_
                      refine g_iload F dX5_isSame__230 6 rfl ?_
                      refine g_ialdG0 (y := i204) (k := i214) F dX5_isSame__232 rfl (by omega) (by show _ < _; first | decide | omega) (by show _ < _; first | decide | omega) ?_
                      refine g_iadd F dX5_isSame__233 ?_
                      refine g_topr (y := mSumF f (12 * i204 + (i214 + 1))) (by rw [hc i204 (by omega) i214 (by omega)]; rfl) ?_
                      refine g_istore (L' := [(0, .ref y), (1, .ref x), (2, .int (mHold th 6)), (3, .ref q89), (4, .int (mSumF f (12 * i204 + (i214 + 1)))), (5, .int (nI i204)), (6, .int (nI i214))]) F dX5_isSame__234 (by decide) [1, 2, 3, 4, 0, 5, 6] rfl ?_
                      refine g_aload_n F dX5_isSame__236 rfl 1 rfl ?_
                      refine g_iload F dX5_isSame__237 6 rfl ?_
                      refine g_iload F dX5_isSame__239 5 rfl ?_
                      refine g_callM (B := ([(q89, .inl (E.2.2, 8, .inl g9)), (y, .inr (5, [.ref pa, .int (nI m), .int car, .int tur, .int pre, .ref sa, .int (nI n), .ref kpa, .ref kka, .int ko'])), (pa, qE E 8 r), (sa, .inl (E.2.2, 6, .inl th)), (kpa, .inl (E.2.2, 0, .inl (fun _ => 0))), (kka, qF E 0 (fun _ => none))] ++ (gW E r (fun _ => 12) c 8 ++ []))) (wm := w214) F dX5_isSame__241 (m_shade hm214 i214 i204 (by omega) (by omega)) rfl gX5_isSame__X4_shade hm214.mem.choose_spec rfl kV_X4_shade ⟨by decide, by decide⟩ (by simp only [List.append_assoc]) rfl (by exact Nat.le_of_ble_eq_true rfl) ⟨by show 17 + 4 * i204 + 0 ≤ 70; omega, by show 968 + 240 * i204 + 0 ≤ 4000; omega⟩ (fun ov241 V241 hV241 => ?_)
                      obtain ⟨rfl, hV241⟩ := hV241
                      refine g_ws (ws' := ([(q89, .inl (E.2.2, 8, .inl g9)), (y, .inr (5, [.ref pa, .int (nI m), .int car, .int tur, .int pre, .ref sa, .int (nI n), .ref kpa, .ref kka, .int ko'])), (pa, qE E 8 r), (sa, .inl (E.2.2, 6, .inl th)), (kpa, .inl (E.2.2, 0, .inl (fun _ => 0))), (kka, qF E 0 (fun _ => none))] ++ (gW E r (fun _ => 12) c 8 ++ ([] ++ V241)))) (by simp only [List.append_assoc]) ?_
                      refine g_aload_n F dX5_isSame__244 rfl 0 rfl ?_
                      refine g_get F dX5_isSame__245 1 rfl rfl i5 0 (by decide) rfl (List.mem_of_getElem? (i := 11) rfl) ?_
                      refine g_iload F dX5_isSame__248 5 rfl ?_
                      refine g_aald (k := i204) F dX5_isSame__250 2 rfl (by omega) (by first | decide | omega) rfl ?_
                      refine g_iload F dX5_isSame__251 6 rfl ?_
                      refine g_ialdG0 (y := i204) (k := i214) F dX5_isSame__253 rfl (by omega) (by show _ < _; first | decide | omega) (by show _ < _; first | decide | omega) ?_
                      refine g_icmp_ne_f (tgt := 285) F dX5_isSame__254 (by decide) (fun z => z (hc i204 (by omega) i214 (by omega)).symm) ?_
                      refine g_aload_n F dX5_isSame__257 rfl 0 rfl ?_
                      refine g_get F dX5_isSame__258 1 rfl rfl i5 6 (by decide) rfl (List.mem_of_getElem? (i := 9) rfl) ?_
                      refine g_if_le_t (tgt := 287) F dX5_isSame__261 (by decide) ((nI_le0 hn).mpr hn0) ?_
                      refine g_iinc (L' := [(0, .ref y), (1, .ref x), (2, .int (mHold th 6)), (3, .ref q89), (4, .int (mSumF f (12 * i204 + (i214 + 1)))), (5, .int (nI i204)), (6, .int (nI (i214 + 1)))]) (v := nI (i214 + 1)) F dX5_isSame__287 6 rfl (nI_1 _) (by decide) [1, 2, 3, 4, 5, 6, 0] rfl ?_
                      refine g_goto (tgt := 214) F dX5_isSame__290 (by decide) ?_
                      exact ih214 (i214 + 1) (by omega) V241 hV241
                  exact lp214 12 0 (by omega) w204 hm204
              refine g_cs (cells' := (17 + 4 * 0)) (slots' := (968 + 240 * 0)) (by show 17 ≤ 17 + 4 * 0; omega) (by show 968 ≤ 968 + 240 * 0; omega) ?_
              exact lp204 8 0 (by omega) w170 hm170
            | succ n170 ih170 =>
              intro i170 hi170 w170  hm170
              have hl170 : i170 < 8 := by omega
              refine g_iload F dX5_isSame__170 4 rfl ?_
              refine g_bipush (v := 8) F dX5_isSame__172 (by decide) ?_
              refine g_icmp_ge_f (tgt := 198) F dX5_isSame__174 (by decide) (nle_nI (n := 8) hl170 (by omega)) ?_
              refine g_aload_n F dX5_isSame__177 rfl 1 rfl ?_
              refine g_iload F dX5_isSame__178 4 rfl ?_
              refine g_callM (B := ([(q89, .inl (E.2.2, 8, .inl g9)), (y, .inr (5, [.ref pa, .int (nI m), .int car, .int tur, .int pre, .ref sa, .int (nI n), .ref kpa, .ref kka, .int ko'])), (pa, qE E 8 r), (sa, .inl (E.2.2, 6, .inl th)), (kpa, .inl (E.2.2, 0, .inl (fun _ => 0))), (kka, qF E 0 (fun _ => none))] ++ (gW E r (fun _ => 12) c 8 ++ []))) (wm := w170) F dX5_isSame__180 (m_count hm170 i170 (by omega) hn) rfl gX5_isSame__X4_count hm170.mem.choose_spec rfl kV_X4_count ⟨by decide, by decide⟩ (by simp only [List.append_assoc]) rfl (by exact Nat.le_of_ble_eq_true rfl) ⟨by show 17 + 0 ≤ 70; omega, by show 968 + 0 ≤ 4000; omega⟩ (fun ov180 V180 hV180 => ?_)
              obtain ⟨rfl, hV180⟩ := hV180
              refine g_ws (ws' := ([(q89, .inl (E.2.2, 8, .inl g9)), (y, .inr (5, [.ref pa, .int (nI m), .int car, .int tur, .int pre, .ref sa, .int (nI n), .ref kpa, .ref kka, .int ko'])), (pa, qE E 8 r), (sa, .inl (E.2.2, 6, .inl th)), (kpa, .inl (E.2.2, 0, .inl (fun _ => 0))), (kka, qF E 0 (fun _ => none))] ++ (gW E r (fun _ => 12) c 8 ++ ([] ++ V180)))) (by simp only [List.append_assoc]) ?_
              refine g_aload_n F dX5_isSame__183 rfl 3 rfl ?_
              refine g_iload F dX5_isSame__184 4 rfl ?_
              refine g_ialdN (k := i170) F dX5_isSame__186 0 rfl (by omega) (by first | decide | omega) ?_
              refine g_icmp_eq_t (tgt := 192) F dX5_isSame__187 (by decide) (hcnt i170 hl170) ?_
              refine g_iinc (L' := [(0, .ref y), (1, .ref x), (2, .int (mHold th 6)), (3, .ref q89), (4, .int (nI (i170 + 1)))]) (v := nI (i170 + 1)) F dX5_isSame__192 4 rfl (nI_1 _) (by decide) [1, 2, 3, 4, 0] rfl ?_
              refine g_goto (tgt := 170) F dX5_isSame__195 (by decide) ?_
              refine g_cs (cells' := 17) (slots' := 968) (by show 17 + 0 ≤ 17; omega) (by show 968 + 0 ≤ 968; omega) ?_
              exact ih170 (i170 + 1) (by omega) V180 hV180
          refine g_cs (cells' := 17) (slots' := 968) (by show 0 + 1 + 0 ≤ 17; omega) (by show 0 + 8 + 0 ≤ 968; omega) ?_
          exact lp170 8 0 (by omega) w4 hm4
        refine g_if_eq (tgt := 133) F dX5_isSame__126 (by decide) (fun k126 => ?_) (fun k126 => ?_)
        · skip
          refine g_iconst (v := 0) F dX5_isSame__133 (by decide) ?_
          exact g_topr (by simp [k126]) jn134
        · skip
          refine g_iconst (v := 1) F dX5_isSame__129 (by decide) ?_
          refine g_goto (tgt := 134) F dX5_isSame__130 (by decide) ?_
          exact g_topr (by simp [k126]) jn134
      refine g_if_eq (tgt := 118) F dX5_isSame__111 (by decide) (fun k111 => ?_) (fun k111 => ?_)
      · skip
        refine g_iconst (v := 0) F dX5_isSame__118 (by decide) ?_
        exact g_topr (by simp [k111]) jn119
      · skip
        refine g_iconst (v := 1) F dX5_isSame__114 (by decide) ?_
        refine g_goto (tgt := 119) F dX5_isSame__115 (by decide) ?_
        exact g_topr (by simp [k111]) jn119
    | succ n4 ih4 =>
      intro i4 hi4 w4  hm4
      have hl4 : i4 < 6 := by omega
      refine g_iload_n F dX5_isSame__4 rfl 3 rfl ?_
      refine g_bipush (v := 6) F dX5_isSame__5 (by decide) ?_
      refine g_icmp_ge_f (tgt := 87) F dX5_isSame__7 (by decide) (nle_nI (n := 6) hl4 (by omega)) ?_
      refine g_iload_n F dX5_isSame__10 rfl 2 rfl ?_
      refine g_aload_n F dX5_isSame__11 rfl 0 rfl ?_
      refine g_get F dX5_isSame__12 0 rfl rfl i5 5 (by decide) rfl (List.mem_of_getElem? (i := 1) rfl) ?_
      refine g_iload_n F dX5_isSame__15 rfl 3 rfl ?_
      refine g_ialdN (k := i4) F dX5_isSame__16 2 rfl (by omega) (by first | decide | omega) ?_
      refine g_iadd F dX5_isSame__17 ?_
      refine g_istore_n (L' := [(0, .ref y), (1, .ref x), (2, .int ((mHold th i4) + (th i4))), (3, .int (nI i4))]) F dX5_isSame__18 rfl (by decide) [1, 2, 0, 3] rfl ?_
      refine g_aload_n F dX5_isSame__19 rfl 1 rfl ?_
      refine g_iload_n F dX5_isSame__20 rfl 3 rfl ?_
      refine g_iconst (v := 0) F dX5_isSame__21 (by decide) ?_
      refine g_callM (B := ([(y, .inr (5, [.ref pa, .int (nI m), .int car, .int tur, .int pre, .ref sa, .int (nI n), .ref kpa, .ref kka, .int ko'])), (pa, qE E 8 r), (sa, .inl (E.2.2, 6, .inl th)), (kpa, .inl (E.2.2, 0, .inl (fun _ => 0))), (kka, qF E 0 (fun _ => none))] ++ (gW E r (fun _ => 12) c 8 ++ []))) (wm := w4) F dX5_isSame__22 (m_thread0 hm4 i4 (by omega)) rfl gX5_isSame__X4_thread hm4.mem.choose_spec rfl kV_X4_thread ⟨by decide, by decide⟩ (by simp only [List.append_assoc]) rfl (by exact Nat.le_of_ble_eq_true rfl) ⟨by show 0 + 0 ≤ 70; omega, by show 0 + 0 ≤ 4000; omega⟩ (fun ov22 V22 hV22 => ?_)
      obtain ⟨rfl, hV22⟩ := hV22
      refine g_ws (ws' := ([(y, .inr (5, [.ref pa, .int (nI m), .int car, .int tur, .int pre, .ref sa, .int (nI n), .ref kpa, .ref kka, .int ko'])), (pa, qE E 8 r), (sa, .inl (E.2.2, 6, .inl th)), (kpa, .inl (E.2.2, 0, .inl (fun _ => 0))), (kka, qF E 0 (fun _ => none))] ++ (gW E r (fun _ => 12) c 8 ++ ([] ++ V22)))) (by simp only [List.append_assoc]) ?_
      refine g_aload_n F dX5_isSame__25 rfl 0 rfl ?_
      refine g_get F dX5_isSame__26 0 rfl rfl i5 5 (by decide) rfl (List.mem_of_getElem? (i := 1) rfl) ?_
      refine g_iload_n F dX5_isSame__29 rfl 3 rfl ?_
      refine g_ialdN (k := i4) F dX5_isSame__30 2 rfl (by omega) (by first | decide | omega) ?_
      refine g_icmp_ne_f (tgt := 79) F dX5_isSame__31 (by decide) (fun z => z rfl) ?_
      refine g_aload_n F dX5_isSame__34 rfl 1 rfl ?_
      refine g_iload_n F dX5_isSame__35 rfl 3 rfl ?_
      refine g_iconst (v := 1) F dX5_isSame__36 (by decide) ?_
      refine g_callM (B := ([(y, .inr (5, [.ref pa, .int (nI m), .int car, .int tur, .int pre, .ref sa, .int (nI n), .ref kpa, .ref kka, .int ko'])), (pa, qE E 8 r), (sa, .inl (E.2.2, 6, .inl th)), (kpa, .inl (E.2.2, 0, .inl (fun _ => 0))), (kka, qF E 0 (fun _ => none))] ++ (gW E r (fun _ => 12) c 8 ++ []))) (wm := V22) F dX5_isSame__37 (m_thread1 hV22 i4 (by omega) hn) rfl gX5_isSame__X4_thread hV22.mem.choose_spec rfl kV_X4_thread ⟨by decide, by decide⟩ (by simp only [List.append_assoc]) rfl (by exact Nat.le_of_ble_eq_true rfl) ⟨by show 0 + 0 + 0 ≤ 70; omega, by show 0 + 0 + 0 ≤ 4000; omega⟩ (fun ov37 V37 hV37 => ?_)
      obtain ⟨rfl, hV37⟩ := hV37
      refine g_ws (ws' := ([(y, .inr (5, [.ref pa, .int (nI m), .int car, .int tur, .int pre, .ref sa, .int (nI n), .ref kpa, .ref kka, .int ko'])), (pa, qE E 8 r), (sa, .inl (E.2.2, 6, .inl th)), (kpa, .inl (E.2.2, 0, .inl (fun _ => 0))), (kka, qF E 0 (fun _ => none))] ++ (gW E r (fun _ => 12) c 8 ++ ([] ++ V37)))) (by simp only [List.append_assoc]) ?_
      refine g_topr (y := 0) (if_pos hn0) ?_
      refine g_aload_n F dX5_isSame__40 rfl 0 rfl ?_
      refine g_get F dX5_isSame__41 0 rfl rfl i5 8 (by decide) rfl (List.mem_of_getElem? (i := 2) rfl) ?_
      refine g_iload_n F dX5_isSame__44 rfl 3 rfl ?_
      refine g_callSA (R := ([(y, .inr (5, [.ref pa, .int (nI m), .int car, .int tur, .int pre, .ref sa, .int (nI n), .ref kpa, .ref kka, .int ko'])), (pa, qE E 8 r), (sa, .inl (E.2.2, 6, .inl th)), (kpa, .inl (E.2.2, 0, .inl (fun _ => 0)))] ++ (gW E r (fun _ => 12) c 8 ++ ([] ++ V37)))) F dX5_isSame__45 (c_X5_cells0 E kka (fun _ => none) (nI i4) ) rfl gX5_isSame__X5_cells kS_X5_cells ⟨by decide, by decide⟩ (ps3 (pmc (A := [_]) (pmc (A := [_]) (pmc (A := [_]) (pmc (A := [_]) (pmc (A := []) (List.Perm.nil))))))) rfl (Nat.le_of_ble_eq_true rfl) ⟨by show 0 + 0 + 0 + 0 ≤ 70; omega, by show 0 + 0 + 0 + 0 ≤ 4000; omega⟩ (fun a45 => ?_)
      refine g_ws (ws' := ([(y, .inr (5, [.ref pa, .int (nI m), .int car, .int tur, .int pre, .ref sa, .int (nI n), .ref kpa, .ref kka, .int ko'])), (pa, qE E 8 r), (sa, .inl (E.2.2, 6, .inl th)), (kpa, .inl (E.2.2, 0, .inl (fun _ => 0))), (kka, qF E 0 (fun _ => none))] ++ (gW E r (fun _ => 12) c 8 ++ ([] ++ V37)))) rfl ?_
      refine g_icmp_ne_f (tgt := 79) F dX5_isSame__48 (by decide) (fun z => z rfl) ?_
      refine g_aload_n F dX5_isSame__51 rfl 1 rfl ?_
      refine g_iload_n F dX5_isSame__52 rfl 3 rfl ?_
      refine g_iconst (v := 2) F dX5_isSame__53 (by decide) ?_
      refine g_callM (B := ([(y, .inr (5, [.ref pa, .int (nI m), .int car, .int tur, .int pre, .ref sa, .int (nI n), .ref kpa, .ref kka, .int ko'])), (pa, qE E 8 r), (sa, .inl (E.2.2, 6, .inl th)), (kpa, .inl (E.2.2, 0, .inl (fun _ => 0))), (kka, qF E 0 (fun _ => none))] ++ (gW E r (fun _ => 12) c 8 ++ []))) (wm := V37) F dX5_isSame__54 (m_thread2 hV37 i4 (by omega) hn) rfl gX5_isSame__X4_thread hV37.mem.choose_spec rfl kV_X4_thread ⟨by decide, by decide⟩ (by simp only [List.append_assoc]) rfl (by exact Nat.le_of_ble_eq_true rfl) ⟨by show 0 + 0 + 0 + 0 + 0 ≤ 70; omega, by show 0 + 0 + 0 + 0 + 0 ≤ 4000; omega⟩ (fun ov54 V54 hV54 => ?_)
      obtain ⟨rfl, hV54⟩ := hV54
      refine g_ws (ws' := ([(y, .inr (5, [.ref pa, .int (nI m), .int car, .int tur, .int pre, .ref sa, .int (nI n), .ref kpa, .ref kka, .int ko'])), (pa, qE E 8 r), (sa, .inl (E.2.2, 6, .inl th)), (kpa, .inl (E.2.2, 0, .inl (fun _ => 0))), (kka, qF E 0 (fun _ => none))] ++ (gW E r (fun _ => 12) c 8 ++ ([] ++ V54)))) (by simp only [List.append_assoc]) ?_
      refine g_topr (y := (-1)) (if_pos hn0) ?_
      refine g_iload_n F dX5_isSame__57 rfl 3 rfl ?_
      refine g_aload_n F dX5_isSame__58 rfl 0 rfl ?_
      refine g_get F dX5_isSame__59 0 rfl rfl i5 7 (by decide) rfl (List.mem_of_getElem? (i := 3) rfl) ?_
      refine g_alen (v := 0) F dX5_isSame__62 3 rfl rfl ?_
      refine g_icmp_ge_t (tgt := 75) F dX5_isSame__63 (by decide) (nI_pos' (by omega)) ?_
      refine g_iconst (v := (-1)) F dX5_isSame__75 (by decide) ?_
      refine g_icmp_eq_t (tgt := 81) F dX5_isSame__76 (by decide) (rfl) ?_
      refine g_iinc (L' := [(0, .ref y), (1, .ref x), (2, .int ((mHold th i4) + (th i4))), (3, .int (nI (i4 + 1)))]) (v := nI (i4 + 1)) F dX5_isSame__81 3 rfl (nI_1 _) (by decide) [1, 2, 3, 0] rfl ?_
      refine g_goto (tgt := 4) F dX5_isSame__84 (by decide) ?_
      refine g_cs (cells' := 0) (slots' := 0) (by show 0 + 0 + 0 + 0 + 0 ≤ 0; omega) (by show 0 + 0 + 0 + 0 + 0 ≤ 0; omega) ?_
      exact ih4 (i4 + 1) (by omega) V54 hV54
  exact lp4 6 0 (by omega) wm hm
end MWR
