/-! the reference: weave, would, advise, digest -/
section PMODD
section MADV
variable {f : AF} {car tur pre kn : Int32} {s : WS} {i : Nat}
theorem mAdv_s1 (h : kn < mAK (wsCl (mOn f (i + 2) car tur (mAdv f car tur pre kn s i).2.2)) pre 8) : mAdv f car tur pre kn s (i + 1) = ((mAdv f car tur pre kn s i).1, (mAdv f car tur pre kn s i).2.1, mOn f (i + 2) car tur (mAdv f car tur pre kn s i).2.2) := by rw [mAdv, mAdS, if_pos h]
theorem mAdv_s2 (h : ¬ kn < mAK (wsCl (mOn f (i + 2) car tur (mAdv f car tur pre kn s i).2.2)) pre 8) (h2 : (mAdv f car tur pre kn s i).1 = (-1)) : mAdv f car tur pre kn s (i + 1) = (nI (i + 2), wsOff (mOn f (i + 2) car tur (mAdv f car tur pre kn s i).2.2), mOn f (i + 2) car tur (mAdv f car tur pre kn s i).2.2) := by rw [mAdv, mAdS, if_neg h, if_pos h2]
theorem mAdv_s3 (h : ¬ kn < mAK (wsCl (mOn f (i + 2) car tur (mAdv f car tur pre kn s i).2.2)) pre 8) (h2 : ¬ (mAdv f car tur pre kn s i).1 = (-1)) (h3 : wsOff (mOn f (i + 2) car tur (mAdv f car tur pre kn s i).2.2) < (mAdv f car tur pre kn s i).2.1) : mAdv f car tur pre kn s (i + 1) = (nI (i + 2), wsOff (mOn f (i + 2) car tur (mAdv f car tur pre kn s i).2.2), mOn f (i + 2) car tur (mAdv f car tur pre kn s i).2.2) := by rw [mAdv, mAdS, if_neg h, if_neg h2, if_pos h3]
theorem mAdv_s4 (h : ¬ kn < mAK (wsCl (mOn f (i + 2) car tur (mAdv f car tur pre kn s i).2.2)) pre 8) (h2 : ¬ (mAdv f car tur pre kn s i).1 = (-1)) (h3 : ¬ wsOff (mOn f (i + 2) car tur (mAdv f car tur pre kn s i).2.2) < (mAdv f car tur pre kn s i).2.1) : mAdv f car tur pre kn s (i + 1) = ((mAdv f car tur pre kn s i).1, (mAdv f car tur pre kn s i).2.1, mOn f (i + 2) car tur (mAdv f car tur pre kn s i).2.2) := by rw [mAdv, mAdS, if_neg h, if_neg h2, if_neg h3]
end MADV
set_option maxHeartbeats 4000000 in
set_option maxRecDepth 100000 in
theorem c_X5_weave (E : gE) (y : Nat) (y1 : Nat) (y2 : Nat) (y3 : Nat) (y4 : Nat) (y5 : Nat) (y6 : Nat) (y7 : Nat) (y8 : Nat) (y9 : Nat) (f : AF) (th : AF) (pa : AF) (so : AF) (cl : AF) (he : AF) (be : AF) (kp : AF) (kk : AF) (thr : Int32) (car : Int32) (tur : Int32) (pre : Int32) (mb : Int32) (off : Int32) (wov : Int32) (km : Int32) (ko : Int32) (m : Nat) (h2 : 2 ≤ m) (h6 : m ≤ 6) (hs : ∀ c, c < 6 → mCo (mWeave f m car tur so pa cl he be).1 (nI c) 96 ≤ th c) : Ct E yX5_weave wsX5_weave ({ frames := 5, cells := 1, slots := 7, locals := 117 }) [.ref y] [(y, .inr (5, [.int thr, .ref y1, .int (nI m), .int car, .int tur, .int pre, .ref y2, .int mb, .ref y3, .ref y4, .ref y5, .int off, .ref y6, .ref y7, .int wov, .int km, .int ko, .ref y8, .ref y9])), (y1, .inl (E.2.2, 96, .inl f)), (y2, .inl (E.2.2, 6, .inl th)), (y3, .inl (E.2.2, 6, .inl pa)), (y4, .inl (E.2.2, 96, .inl so)), (y5, .inl (E.2.2, 96, .inl cl)), (y6, .inl (E.2.2, 12, .inl he)), (y7, .inl (E.2.2, 12, .inl be)), (y8, .inl (E.2.2, 6, .inl kp)), (y9, .inl (E.2.2, 96, .inl kk))] (some (.int (mAK (va_cpy (mWeave f m car tur so pa cl he be).1 kk 0 0 96) pre 8))) [(y, .inr (5, [.int 0, .ref y1, .int (nI m), .int car, .int tur, .int pre, .ref y2, .int (nI (mFit f so m).2), .ref y3, .ref y4, .ref y5, .int ((mWeave f m car tur so pa cl he be).2.1), .ref y6, .ref y7, .int (wov + 1), .int (nI (mFit f so m).2), .int ((mWeave f m car tur so pa cl he be).2.1), .ref y8, .ref y9])), (y1, .inl (E.2.2, 96, .inl f)), (y2, .inl (E.2.2, 6, .inl (mTk (mWeave f m car tur so pa cl he be).1 th 6))), (y3, .inl (E.2.2, 6, .inl (mPal f so pa m))), (y4, .inl (E.2.2, 96, .inl (mSrt f so))), (y5, .inl (E.2.2, 96, .inl ((mWeave f m car tur so pa cl he be).1))), (y6, .inl (E.2.2, 12, .inl ((mWeave f m car tur so pa cl he be).2.2.1))), (y7, .inl (E.2.2, 12, .inl ((mWeave f m car tur so pa cl he be).2.2.2))), (y8, .inl (E.2.2, 6, .inl (va_cpy (mPal f so pa m) kp 0 0 6))), (y9, .inl (E.2.2, 96, .inl (va_cpy (mWeave f m car tur so pa cl he be).1 kk 0 0 96)))] := by
  refine Ct.of (cc := cX5_weave) (maxL := 2) (ret := (some .int)) (own := RX5) (L := [(0, .ref y)]) (by decide) rfl rfl rfl (Nat.le_of_ble_eq_true rfl) rfl ?_
  intro X F hQ
  have i5 : ∀ w ∈ u_ws RX5 TX5 19, w ∈ wsX5_weave := gsub [90, 91, 92, 93, 94, 95, 96, 97, 98, 99, 100, 101, 102, 103, 104, 105, 106, 107, 108] rfl
  refine g_aload_n F dX5_weave_0 rfl 0 rfl ?_
  refine g_iconst (v := 0) F dX5_weave_1 (by decide) ?_
  refine g_put (ws' := [(y, .inr (5, [.int 0, .ref y1, .int (nI m), .int car, .int tur, .int pre, .ref y2, .int mb, .ref y3, .ref y4, .ref y5, .int off, .ref y6, .ref y7, .int wov, .int km, .int ko, .ref y8, .ref y9])), (y1, .inl (E.2.2, 96, .inl f)), (y2, .inl (E.2.2, 6, .inl th)), (y3, .inl (E.2.2, 6, .inl pa)), (y4, .inl (E.2.2, 96, .inl so)), (y5, .inl (E.2.2, 96, .inl cl)), (y6, .inl (E.2.2, 12, .inl he)), (y7, .inl (E.2.2, 12, .inl be)), (y8, .inl (E.2.2, 6, .inl kp)), (y9, .inl (E.2.2, 96, .inl kk))]) F dX5_weave_2 0 rfl rfl i5 tyX5 tyX5_ok nmX5 0 (by decide) rfl (rfl) (rfl) (Nat.le_of_ble_eq_true rfl) (List.mem_of_getElem? (i := 1) rfl) rfl ?_
  refine g_aload_n F dX5_weave_5 rfl 0 rfl ?_
  refine g_aload_n F dX5_weave_6 rfl 0 rfl ?_
  refine g_get F dX5_weave_7 0 rfl rfl i5 2 (by decide) rfl (List.mem_of_getElem? (i := 2) rfl) ?_
  refine g_callV (ws' := [(y, .inr (5, [.int 0, .ref y1, .int (nI m), .int car, .int tur, .int pre, .ref y2, .int (nI (mFit f so m).2), .ref y3, .ref y4, .ref y5, .int ((mWeave f m car tur so pa cl he be).2.1), .ref y6, .ref y7, .int wov, .int km, .int ko, .ref y8, .ref y9])), (y1, .inl (E.2.2, 96, .inl f)), (y2, .inl (E.2.2, 6, .inl th)), (y3, .inl (E.2.2, 6, .inl (mPal f so pa m))), (y4, .inl (E.2.2, 96, .inl (mSrt f so))), (y5, .inl (E.2.2, 96, .inl ((mWeave f m car tur so pa cl he be).1))), (y6, .inl (E.2.2, 12, .inl ((mWeave f m car tur so pa cl he be).2.2.1))), (y7, .inl (E.2.2, 12, .inl ((mWeave f m car tur so pa cl he be).2.2.2))), (y8, .inl (E.2.2, 6, .inl kp)), (y9, .inl (E.2.2, 96, .inl kk))]) F dX5_weave_10 (c_X5_weaveOn E y y1 y2 y3 y4 y5 y6 y7 y8 y9 f th pa so cl he be kp kk 0 (nI m) car tur pre mb off wov km ko m (by first | assumption | decide | omega) (by first | assumption | decide | omega)) rfl gX5_weave_X5_weaveOn 0 rfl rfl kV_X5_weaveOn ⟨by decide, by decide⟩ [0, 1, 2, 3, 4, 5, 6, 7, 8, 9] rfl (by decide +kernel) rfl rfl (Nat.le_of_ble_eq_true rfl) ⟨by decide, by decide⟩ ?_
  refine g_iconst (v := 0) F dX5_weave_13 (by decide) ?_
  refine g_istore_n (L' := [(0, .ref y), (1, .int 0)]) F dX5_weave_14 rfl (by decide) [1, 0] rfl ?_
  have lp15 : ∀ (n15 i15 : Nat), i15 + n15 = 6 → G E X (0 + 1) (0 + 7) 15 [(0, .ref y), (1, .int (nI i15))] [] [(y, .inr (5, [.int 0, .ref y1, .int (nI m), .int car, .int tur, .int pre, .ref y2, .int (nI (mFit f so m).2), .ref y3, .ref y4, .ref y5, .int ((mWeave f m car tur so pa cl he be).2.1), .ref y6, .ref y7, .int wov, .int km, .int ko, .ref y8, .ref y9])), (y1, .inl (E.2.2, 96, .inl f)), (y2, .inl (E.2.2, 6, .inl th)), (y3, .inl (E.2.2, 6, .inl (mPal f so pa m))), (y4, .inl (E.2.2, 96, .inl (mSrt f so))), (y5, .inl (E.2.2, 96, .inl ((mWeave f m car tur so pa cl he be).1))), (y6, .inl (E.2.2, 12, .inl ((mWeave f m car tur so pa cl he be).2.2.1))), (y7, .inl (E.2.2, 12, .inl ((mWeave f m car tur so pa cl he be).2.2.2))), (y8, .inl (E.2.2, 6, .inl kp)), (y9, .inl (E.2.2, 96, .inl kk))] := by
    intro n15
    induction n15 with
    | zero =>
      intro i15 hi15
      have he15 : i15 = 6 := by omega
      rw [he15]
      refine g_iload_n F dX5_weave_15 rfl 1 rfl ?_
      refine g_bipush (v := 6) F dX5_weave_16 (by decide) ?_
      refine g_icmp_ge_t (tgt := 50) F dX5_weave_18 (by decide) (by decide) ?_
      refine g_iconst (v := 0) F dX5_weave_50 (by decide) ?_
      refine g_istore_n (L' := [(0, .ref y), (1, .int 0)]) F dX5_weave_51 rfl (by decide) [1, 0] rfl ?_
      have lp52 : ∀ (n52 i52 : Nat), i52 + n52 = 6 → G E X (0 + 1) (0 + 7) 52 [(0, .ref y), (1, .int (nI i52))] [] [(y, .inr (5, [.int 0, .ref y1, .int (nI m), .int car, .int tur, .int pre, .ref y2, .int (nI (mFit f so m).2), .ref y3, .ref y4, .ref y5, .int ((mWeave f m car tur so pa cl he be).2.1), .ref y6, .ref y7, .int wov, .int km, .int ko, .ref y8, .ref y9])), (y1, .inl (E.2.2, 96, .inl f)), (y2, .inl (E.2.2, 6, .inl (mTk (mWeave f m car tur so pa cl he be).1 th i52))), (y3, .inl (E.2.2, 6, .inl (mPal f so pa m))), (y4, .inl (E.2.2, 96, .inl (mSrt f so))), (y5, .inl (E.2.2, 96, .inl ((mWeave f m car tur so pa cl he be).1))), (y6, .inl (E.2.2, 12, .inl ((mWeave f m car tur so pa cl he be).2.2.1))), (y7, .inl (E.2.2, 12, .inl ((mWeave f m car tur so pa cl he be).2.2.2))), (y8, .inl (E.2.2, 6, .inl kp)), (y9, .inl (E.2.2, 96, .inl kk))] := by
        intro n52
        induction n52 with
        | zero =>
          intro i52 hi52
          have he52 : i52 = 6 := by omega
          rw [he52]
          refine g_iload_n F dX5_weave_52 rfl 1 rfl ?_
          refine g_bipush (v := 6) F dX5_weave_53 (by decide) ?_
          refine g_icmp_ge_t (tgt := 81) F dX5_weave_55 (by decide) (by decide) ?_
          refine g_aload_n F dX5_weave_81 rfl 0 rfl ?_
          refine g_dup F dX5_weave_82 rfl ?_
          refine g_get F dX5_weave_83 0 rfl rfl i5 14 (by decide) rfl (List.mem_of_getElem? (i := 5) rfl) ?_
          refine g_iconst (v := 1) F dX5_weave_86 (by decide) ?_
          refine g_iadd F dX5_weave_87 ?_
          refine g_put (ws' := [(y, .inr (5, [.int 0, .ref y1, .int (nI m), .int car, .int tur, .int pre, .ref y2, .int (nI (mFit f so m).2), .ref y3, .ref y4, .ref y5, .int ((mWeave f m car tur so pa cl he be).2.1), .ref y6, .ref y7, .int (wov + 1), .int km, .int ko, .ref y8, .ref y9])), (y1, .inl (E.2.2, 96, .inl f)), (y2, .inl (E.2.2, 6, .inl (mTk (mWeave f m car tur so pa cl he be).1 th 6))), (y3, .inl (E.2.2, 6, .inl (mPal f so pa m))), (y4, .inl (E.2.2, 96, .inl (mSrt f so))), (y5, .inl (E.2.2, 96, .inl ((mWeave f m car tur so pa cl he be).1))), (y6, .inl (E.2.2, 12, .inl ((mWeave f m car tur so pa cl he be).2.2.1))), (y7, .inl (E.2.2, 12, .inl ((mWeave f m car tur so pa cl he be).2.2.2))), (y8, .inl (E.2.2, 6, .inl kp)), (y9, .inl (E.2.2, 96, .inl kk))]) F dX5_weave_88 0 rfl rfl i5 tyX5 tyX5_ok nmX5 14 (by decide) rfl (rfl) (rfl) (Nat.le_of_ble_eq_true rfl) (List.mem_of_getElem? (i := 5) rfl) rfl ?_
          refine g_aload_n F dX5_weave_91 rfl 0 rfl ?_
          refine g_aload_n F dX5_weave_92 rfl 0 rfl ?_
          refine g_get F dX5_weave_93 0 rfl rfl i5 7 (by decide) rfl (List.mem_of_getElem? (i := 6) rfl) ?_
          refine g_put (ws' := [(y, .inr (5, [.int 0, .ref y1, .int (nI m), .int car, .int tur, .int pre, .ref y2, .int (nI (mFit f so m).2), .ref y3, .ref y4, .ref y5, .int ((mWeave f m car tur so pa cl he be).2.1), .ref y6, .ref y7, .int (wov + 1), .int (nI (mFit f so m).2), .int ko, .ref y8, .ref y9])), (y1, .inl (E.2.2, 96, .inl f)), (y2, .inl (E.2.2, 6, .inl (mTk (mWeave f m car tur so pa cl he be).1 th 6))), (y3, .inl (E.2.2, 6, .inl (mPal f so pa m))), (y4, .inl (E.2.2, 96, .inl (mSrt f so))), (y5, .inl (E.2.2, 96, .inl ((mWeave f m car tur so pa cl he be).1))), (y6, .inl (E.2.2, 12, .inl ((mWeave f m car tur so pa cl he be).2.2.1))), (y7, .inl (E.2.2, 12, .inl ((mWeave f m car tur so pa cl he be).2.2.2))), (y8, .inl (E.2.2, 6, .inl kp)), (y9, .inl (E.2.2, 96, .inl kk))]) F dX5_weave_96 0 rfl rfl i5 tyX5 tyX5_ok nmX5 15 (by decide) rfl (rfl) (rfl) (Nat.le_of_ble_eq_true rfl) (List.mem_of_getElem? (i := 7) rfl) rfl ?_
          refine g_aload_n F dX5_weave_99 rfl 0 rfl ?_
          refine g_aload_n F dX5_weave_100 rfl 0 rfl ?_
          refine g_get F dX5_weave_101 0 rfl rfl i5 11 (by decide) rfl (List.mem_of_getElem? (i := 8) rfl) ?_
          refine g_put (ws' := [(y, .inr (5, [.int 0, .ref y1, .int (nI m), .int car, .int tur, .int pre, .ref y2, .int (nI (mFit f so m).2), .ref y3, .ref y4, .ref y5, .int ((mWeave f m car tur so pa cl he be).2.1), .ref y6, .ref y7, .int (wov + 1), .int (nI (mFit f so m).2), .int ((mWeave f m car tur so pa cl he be).2.1), .ref y8, .ref y9])), (y1, .inl (E.2.2, 96, .inl f)), (y2, .inl (E.2.2, 6, .inl (mTk (mWeave f m car tur so pa cl he be).1 th 6))), (y3, .inl (E.2.2, 6, .inl (mPal f so pa m))), (y4, .inl (E.2.2, 96, .inl (mSrt f so))), (y5, .inl (E.2.2, 96, .inl ((mWeave f m car tur so pa cl he be).1))), (y6, .inl (E.2.2, 12, .inl ((mWeave f m car tur so pa cl he be).2.2.1))), (y7, .inl (E.2.2, 12, .inl ((mWeave f m car tur so pa cl he be).2.2.2))), (y8, .inl (E.2.2, 6, .inl kp)), (y9, .inl (E.2.2, 96, .inl kk))]) F dX5_weave_104 0 rfl rfl i5 tyX5 tyX5_ok nmX5 16 (by decide) rfl (rfl) (rfl) (Nat.le_of_ble_eq_true rfl) (List.mem_of_getElem? (i := 9) rfl) rfl ?_
          refine g_aload_n F dX5_weave_107 rfl 0 rfl ?_
          refine g_get F dX5_weave_108 0 rfl rfl i5 8 (by decide) rfl (List.mem_of_getElem? (i := 10) rfl) ?_
          refine g_iconst (v := 0) F dX5_weave_111 (by decide) ?_
          refine g_aload_n F dX5_weave_112 rfl 0 rfl ?_
          refine g_get F dX5_weave_113 0 rfl rfl i5 17 (by decide) rfl (List.mem_of_getElem? (i := 11) rfl) ?_
          refine g_iconst (v := 0) F dX5_weave_116 (by decide) ?_
          refine g_bipush (v := 6) F dX5_weave_117 (by decide) ?_
          refine g_copyi (n := 6) (ws' := [(y, .inr (5, [.int 0, .ref y1, .int (nI m), .int car, .int tur, .int pre, .ref y2, .int (nI (mFit f so m).2), .ref y3, .ref y4, .ref y5, .int ((mWeave f m car tur so pa cl he be).2.1), .ref y6, .ref y7, .int (wov + 1), .int (nI (mFit f so m).2), .int ((mWeave f m car tur so pa cl he be).2.1), .ref y8, .ref y9])), (y1, .inl (E.2.2, 96, .inl f)), (y2, .inl (E.2.2, 6, .inl (mTk (mWeave f m car tur so pa cl he be).1 th 6))), (y3, .inl (E.2.2, 6, .inl (mPal f so pa m))), (y4, .inl (E.2.2, 96, .inl (mSrt f so))), (y5, .inl (E.2.2, 96, .inl ((mWeave f m car tur so pa cl he be).1))), (y6, .inl (E.2.2, 12, .inl ((mWeave f m car tur so pa cl he be).2.2.1))), (y7, .inl (E.2.2, 12, .inl ((mWeave f m car tur so pa cl he be).2.2.2))), (y8, .inl (E.2.2, 6, .inl (va_cpy (mPal f so pa m) kp 0 0 6))), (y9, .inl (E.2.2, 96, .inl kk))]) F dX5_weave_119 (List.mem_of_getElem? (i := 12) rfl) (List.mem_of_getElem? (i := 13) rfl) (List.mem_of_getElem? (i := 14) rfl) (List.mem_of_getElem? (i := 15) rfl) 3 8 rfl rfl (by decide) (by decide) (by decide) (by decide) (Nat.le_of_ble_eq_true rfl) rfl ?_
          refine g_aload_n F dX5_weave_122 rfl 0 rfl ?_
          refine g_get F dX5_weave_123 0 rfl rfl i5 10 (by decide) rfl (List.mem_of_getElem? (i := 3) rfl) ?_
          refine g_iconst (v := 0) F dX5_weave_126 (by decide) ?_
          refine g_aload_n F dX5_weave_127 rfl 0 rfl ?_
          refine g_get F dX5_weave_128 0 rfl rfl i5 18 (by decide) rfl (List.mem_of_getElem? (i := 16) rfl) ?_
          refine g_iconst (v := 0) F dX5_weave_131 (by decide) ?_
          refine g_bipush (v := 96) F dX5_weave_132 (by decide) ?_
          refine g_copyi (n := 96) (ws' := [(y, .inr (5, [.int 0, .ref y1, .int (nI m), .int car, .int tur, .int pre, .ref y2, .int (nI (mFit f so m).2), .ref y3, .ref y4, .ref y5, .int ((mWeave f m car tur so pa cl he be).2.1), .ref y6, .ref y7, .int (wov + 1), .int (nI (mFit f so m).2), .int ((mWeave f m car tur so pa cl he be).2.1), .ref y8, .ref y9])), (y1, .inl (E.2.2, 96, .inl f)), (y2, .inl (E.2.2, 6, .inl (mTk (mWeave f m car tur so pa cl he be).1 th 6))), (y3, .inl (E.2.2, 6, .inl (mPal f so pa m))), (y4, .inl (E.2.2, 96, .inl (mSrt f so))), (y5, .inl (E.2.2, 96, .inl ((mWeave f m car tur so pa cl he be).1))), (y6, .inl (E.2.2, 12, .inl ((mWeave f m car tur so pa cl he be).2.2.1))), (y7, .inl (E.2.2, 12, .inl ((mWeave f m car tur so pa cl he be).2.2.2))), (y8, .inl (E.2.2, 6, .inl (va_cpy (mPal f so pa m) kp 0 0 6))), (y9, .inl (E.2.2, 96, .inl (va_cpy ((mWeave f m car tur so pa cl he be).1) kk 0 0 96)))]) F dX5_weave_134 (List.mem_of_getElem? (i := 12) rfl) (List.mem_of_getElem? (i := 13) rfl) (List.mem_of_getElem? (i := 14) rfl) (List.mem_of_getElem? (i := 15) rfl) 5 9 rfl rfl (by decide) (by decide) (by decide) (by decide) (Nat.le_of_ble_eq_true rfl) rfl ?_
          refine g_aload_n F dX5_weave_137 rfl 0 rfl ?_
          refine g_aload_n F dX5_weave_138 rfl 0 rfl ?_
          refine g_get F dX5_weave_139 0 rfl rfl i5 18 (by decide) rfl (List.mem_of_getElem? (i := 16) rfl) ?_
          refine g_callV (ws' := [(y, .inr (5, [.int 0, .ref y1, .int (nI m), .int car, .int tur, .int pre, .ref y2, .int (nI (mFit f so m).2), .ref y3, .ref y4, .ref y5, .int ((mWeave f m car tur so pa cl he be).2.1), .ref y6, .ref y7, .int (wov + 1), .int (nI (mFit f so m).2), .int ((mWeave f m car tur so pa cl he be).2.1), .ref y8, .ref y9])), (y1, .inl (E.2.2, 96, .inl f)), (y2, .inl (E.2.2, 6, .inl (mTk (mWeave f m car tur so pa cl he be).1 th 6))), (y3, .inl (E.2.2, 6, .inl (mPal f so pa m))), (y4, .inl (E.2.2, 96, .inl (mSrt f so))), (y5, .inl (E.2.2, 96, .inl ((mWeave f m car tur so pa cl he be).1))), (y6, .inl (E.2.2, 12, .inl ((mWeave f m car tur so pa cl he be).2.2.1))), (y7, .inl (E.2.2, 12, .inl ((mWeave f m car tur so pa cl he be).2.2.2))), (y8, .inl (E.2.2, 6, .inl (va_cpy (mPal f so pa m) kp 0 0 6))), (y9, .inl (E.2.2, 96, .inl (va_cpy ((mWeave f m car tur so pa cl he be).1) kk 0 0 96)))]) F dX5_weave_142 (c_X5_allKnots E y y1 y2 y3 y4 y5 y6 y7 y8 y9 y9 (va_cpy ((mWeave f m car tur so pa cl he be).1) kk 0 0 96) 0 (nI m) car tur pre (nI (mFit f so m).2) ((mWeave f m car tur so pa cl he be).2.1) (wov + 1) (nI (mFit f so m).2) ((mWeave f m car tur so pa cl he be).2.1) ) rfl gX5_weave_X5_allKnots 0 rfl rfl kV_X5_allKnots ⟨by decide, by decide⟩ [0, 9] rfl (by decide +kernel) rfl rfl (Nat.le_of_ble_eq_true rfl) ⟨by show 0 + 1 + 0 ≤ 1; omega, by show 0 + 7 + 0 ≤ 7; omega⟩ ?_
          refine g_cs (cells' := 1) (slots' := 7) (by show 0 + 1 ≤ 1; omega) (by show 0 + 7 ≤ 7; omega) ?_
          exact g_iret F hQ dX5_weave_145 (rfl) (rfl)
        | succ n52 ih52 =>
          intro i52 hi52
          have hl52 : i52 < 6 := by omega
          refine g_iload_n F dX5_weave_52 rfl 1 rfl ?_
          refine g_bipush (v := 6) F dX5_weave_53 (by decide) ?_
          refine g_icmp_ge_f (tgt := 81) F dX5_weave_55 (by decide) (nle_nI (n := 6) hl52 (by omega)) ?_
          refine g_aload_n F dX5_weave_58 rfl 0 rfl ?_
          refine g_get F dX5_weave_59 0 rfl rfl i5 6 (by decide) rfl (List.mem_of_getElem? (i := 4) rfl) ?_
          refine g_iload_n F dX5_weave_62 rfl 1 rfl ?_
          refine g_dup2 F dX5_weave_63 rfl rfl ?_
          refine g_ialdN (k := i52) F dX5_weave_64 2 rfl (by omega) (by first | decide | omega) ?_
          refine g_aload_n F dX5_weave_65 rfl 0 rfl ?_
          refine g_get F dX5_weave_66 0 rfl rfl i5 10 (by decide) rfl (List.mem_of_getElem? (i := 3) rfl) ?_
          refine g_iload_n F dX5_weave_69 rfl 1 rfl ?_
          refine g_callS (ws' := [(y, .inr (5, [.int 0, .ref y1, .int (nI m), .int car, .int tur, .int pre, .ref y2, .int (nI (mFit f so m).2), .ref y3, .ref y4, .ref y5, .int ((mWeave f m car tur so pa cl he be).2.1), .ref y6, .ref y7, .int wov, .int km, .int ko, .ref y8, .ref y9])), (y1, .inl (E.2.2, 96, .inl f)), (y2, .inl (E.2.2, 6, .inl (mTk (mWeave f m car tur so pa cl he be).1 th i52))), (y3, .inl (E.2.2, 6, .inl (mPal f so pa m))), (y4, .inl (E.2.2, 96, .inl (mSrt f so))), (y5, .inl (E.2.2, 96, .inl ((mWeave f m car tur so pa cl he be).1))), (y6, .inl (E.2.2, 12, .inl ((mWeave f m car tur so pa cl he be).2.2.1))), (y7, .inl (E.2.2, 12, .inl ((mWeave f m car tur so pa cl he be).2.2.2))), (y8, .inl (E.2.2, 6, .inl kp)), (y9, .inl (E.2.2, 96, .inl kk))]) F dX5_weave_70 (c_X5_cellsOf E y5 ((mWeave f m car tur so pa cl he be).1) (nI i52) ) rfl gX5_weave_X5_cellsOf kS_X5_cellsOf ⟨by decide, by decide⟩ [5] rfl (by decide +kernel) rfl rfl (Nat.le_of_ble_eq_true rfl) ⟨by show 0 + 1 + 0 ≤ 1; omega, by show 0 + 7 + 0 ≤ 7; omega⟩ ?_
          refine g_isub F dX5_weave_73 ?_
          refine g_iastN (k := i52) (ws' := [(y, .inr (5, [.int 0, .ref y1, .int (nI m), .int car, .int tur, .int pre, .ref y2, .int (nI (mFit f so m).2), .ref y3, .ref y4, .ref y5, .int ((mWeave f m car tur so pa cl he be).2.1), .ref y6, .ref y7, .int wov, .int km, .int ko, .ref y8, .ref y9])), (y1, .inl (E.2.2, 96, .inl f)), (y2, .inl (E.2.2, 6, .inl (upd (mTk (mWeave f m car tur so pa cl he be).1 th i52) i52 (((mTk (mWeave f m car tur so pa cl he be).1 th i52) i52) - (mCo ((mWeave f m car tur so pa cl he be).1) (nI i52) 96))))), (y3, .inl (E.2.2, 6, .inl (mPal f so pa m))), (y4, .inl (E.2.2, 96, .inl (mSrt f so))), (y5, .inl (E.2.2, 96, .inl ((mWeave f m car tur so pa cl he be).1))), (y6, .inl (E.2.2, 12, .inl ((mWeave f m car tur so pa cl he be).2.2.1))), (y7, .inl (E.2.2, 12, .inl ((mWeave f m car tur so pa cl he be).2.2.2))), (y8, .inl (E.2.2, 6, .inl kp)), (y9, .inl (E.2.2, 96, .inl kk))]) F dX5_weave_74 2 rfl (by omega) (by first | decide | omega) rfl ?_
          refine g_iinc (L' := [(0, .ref y), (1, .int (nI (i52 + 1)))]) (v := nI (i52 + 1)) F dX5_weave_75 1 rfl (nI_1 _) (by decide) [1, 0] rfl ?_
          refine g_goto (tgt := 52) F dX5_weave_78 (by decide) ?_
          exact ih52 (i52 + 1) (by omega)
      exact lp52 6 0 (by omega)
    | succ n15 ih15 =>
      intro i15 hi15
      have hl15 : i15 < 6 := by omega
      refine g_iload_n F dX5_weave_15 rfl 1 rfl ?_
      refine g_bipush (v := 6) F dX5_weave_16 (by decide) ?_
      refine g_icmp_ge_f (tgt := 50) F dX5_weave_18 (by decide) (nle_nI (n := 6) hl15 (by omega)) ?_
      refine g_aload_n F dX5_weave_21 rfl 0 rfl ?_
      refine g_get F dX5_weave_22 0 rfl rfl i5 10 (by decide) rfl (List.mem_of_getElem? (i := 3) rfl) ?_
      refine g_iload_n F dX5_weave_25 rfl 1 rfl ?_
      refine g_callS (ws' := [(y, .inr (5, [.int 0, .ref y1, .int (nI m), .int car, .int tur, .int pre, .ref y2, .int (nI (mFit f so m).2), .ref y3, .ref y4, .ref y5, .int ((mWeave f m car tur so pa cl he be).2.1), .ref y6, .ref y7, .int wov, .int km, .int ko, .ref y8, .ref y9])), (y1, .inl (E.2.2, 96, .inl f)), (y2, .inl (E.2.2, 6, .inl th)), (y3, .inl (E.2.2, 6, .inl (mPal f so pa m))), (y4, .inl (E.2.2, 96, .inl (mSrt f so))), (y5, .inl (E.2.2, 96, .inl ((mWeave f m car tur so pa cl he be).1))), (y6, .inl (E.2.2, 12, .inl ((mWeave f m car tur so pa cl he be).2.2.1))), (y7, .inl (E.2.2, 12, .inl ((mWeave f m car tur so pa cl he be).2.2.2))), (y8, .inl (E.2.2, 6, .inl kp)), (y9, .inl (E.2.2, 96, .inl kk))]) F dX5_weave_26 (c_X5_cellsOf E y5 ((mWeave f m car tur so pa cl he be).1) (nI i15) ) rfl gX5_weave_X5_cellsOf kS_X5_cellsOf ⟨by decide, by decide⟩ [5] rfl (by decide +kernel) rfl rfl (Nat.le_of_ble_eq_true rfl) ⟨by show 0 + 1 + 0 ≤ 1; omega, by show 0 + 7 + 0 ≤ 7; omega⟩ ?_
      refine g_aload_n F dX5_weave_29 rfl 0 rfl ?_
      refine g_get F dX5_weave_30 0 rfl rfl i5 6 (by decide) rfl (List.mem_of_getElem? (i := 4) rfl) ?_
      refine g_iload_n F dX5_weave_33 rfl 1 rfl ?_
      refine g_ialdN (k := i15) F dX5_weave_34 2 rfl (by omega) (by first | decide | omega) ?_
      refine g_icmp_le_t (tgt := 44) F dX5_weave_35 (by decide) (hs i15 hl15) ?_
      refine g_iinc (L' := [(0, .ref y), (1, .int (nI (i15 + 1)))]) (v := nI (i15 + 1)) F dX5_weave_44 1 rfl (nI_1 _) (by decide) [1, 0] rfl ?_
      refine g_goto (tgt := 15) F dX5_weave_47 (by decide) ?_
      exact ih15 (i15 + 1) (by omega)
  exact lp15 6 0 (by omega)

set_option maxHeartbeats 4000000 in
set_option maxRecDepth 100000 in
theorem c_X5_weave_1 (E : gE) (y : Nat) (y1 : Nat) (y2 : Nat) (y3 : Nat) (y4 : Nat) (y5 : Nat) (y6 : Nat) (y7 : Nat) (y8 : Nat) (y9 : Nat) (f : AF) (th : AF) (pa : AF) (so : AF) (cl : AF) (he : AF) (be : AF) (kp : AF) (kk : AF) (thr : Int32) (car : Int32) (tur : Int32) (pre : Int32) (mb : Int32) (off : Int32) (wov : Int32) (km : Int32) (ko : Int32) (m : Nat) (h2 : 2 ≤ m) (h6 : m ≤ 6) (hs : ¬ ∀ c, c < 6 → mCo (mWeave f m car tur so pa cl he be).1 (nI c) 96 ≤ th c) : Ct E yX5_weave wsX5_weave ({ frames := 5, cells := 1, slots := 7, locals := 117 }) [.ref y] [(y, .inr (5, [.int thr, .ref y1, .int (nI m), .int car, .int tur, .int pre, .ref y2, .int mb, .ref y3, .ref y4, .ref y5, .int off, .ref y6, .ref y7, .int wov, .int km, .int ko, .ref y8, .ref y9])), (y1, .inl (E.2.2, 96, .inl f)), (y2, .inl (E.2.2, 6, .inl th)), (y3, .inl (E.2.2, 6, .inl pa)), (y4, .inl (E.2.2, 96, .inl so)), (y5, .inl (E.2.2, 96, .inl cl)), (y6, .inl (E.2.2, 12, .inl he)), (y7, .inl (E.2.2, 12, .inl be)), (y8, .inl (E.2.2, 6, .inl kp)), (y9, .inl (E.2.2, 96, .inl kk))] (some (.int 0)) [(y, .inr (5, [.int 1, .ref y1, .int (nI m), .int car, .int tur, .int pre, .ref y2, .int (nI (mFit f so m).2), .ref y3, .ref y4, .ref y5, .int ((mWeave f m car tur so pa cl he be).2.1), .ref y6, .ref y7, .int wov, .int km, .int ko, .ref y8, .ref y9])), (y1, .inl (E.2.2, 96, .inl f)), (y2, .inl (E.2.2, 6, .inl th)), (y3, .inl (E.2.2, 6, .inl (mPal f so pa m))), (y4, .inl (E.2.2, 96, .inl (mSrt f so))), (y5, .inl (E.2.2, 96, .inl ((mWeave f m car tur so pa cl he be).1))), (y6, .inl (E.2.2, 12, .inl ((mWeave f m car tur so pa cl he be).2.2.1))), (y7, .inl (E.2.2, 12, .inl ((mWeave f m car tur so pa cl he be).2.2.2))), (y8, .inl (E.2.2, 6, .inl kp)), (y9, .inl (E.2.2, 96, .inl kk))] := by
  refine Ct.of (cc := cX5_weave) (maxL := 2) (ret := (some .int)) (own := RX5) (L := [(0, .ref y)]) (by decide) rfl rfl rfl (Nat.le_of_ble_eq_true rfl) rfl ?_
  intro X F hQ
  have i5 : ∀ w ∈ u_ws RX5 TX5 19, w ∈ wsX5_weave := gsub [90, 91, 92, 93, 94, 95, 96, 97, 98, 99, 100, 101, 102, 103, 104, 105, 106, 107, 108] rfl
  refine g_aload_n F dX5_weave_0 rfl 0 rfl ?_
  refine g_iconst (v := 0) F dX5_weave_1 (by decide) ?_
  refine g_put (ws' := [(y, .inr (5, [.int 0, .ref y1, .int (nI m), .int car, .int tur, .int pre, .ref y2, .int mb, .ref y3, .ref y4, .ref y5, .int off, .ref y6, .ref y7, .int wov, .int km, .int ko, .ref y8, .ref y9])), (y1, .inl (E.2.2, 96, .inl f)), (y2, .inl (E.2.2, 6, .inl th)), (y3, .inl (E.2.2, 6, .inl pa)), (y4, .inl (E.2.2, 96, .inl so)), (y5, .inl (E.2.2, 96, .inl cl)), (y6, .inl (E.2.2, 12, .inl he)), (y7, .inl (E.2.2, 12, .inl be)), (y8, .inl (E.2.2, 6, .inl kp)), (y9, .inl (E.2.2, 96, .inl kk))]) F dX5_weave_2 0 rfl rfl i5 tyX5 tyX5_ok nmX5 0 (by decide) rfl (rfl) (rfl) (Nat.le_of_ble_eq_true rfl) (List.mem_of_getElem? (i := 1) rfl) rfl ?_
  refine g_aload_n F dX5_weave_5 rfl 0 rfl ?_
  refine g_aload_n F dX5_weave_6 rfl 0 rfl ?_
  refine g_get F dX5_weave_7 0 rfl rfl i5 2 (by decide) rfl (List.mem_of_getElem? (i := 2) rfl) ?_
  refine g_callV (ws' := [(y, .inr (5, [.int 0, .ref y1, .int (nI m), .int car, .int tur, .int pre, .ref y2, .int (nI (mFit f so m).2), .ref y3, .ref y4, .ref y5, .int ((mWeave f m car tur so pa cl he be).2.1), .ref y6, .ref y7, .int wov, .int km, .int ko, .ref y8, .ref y9])), (y1, .inl (E.2.2, 96, .inl f)), (y2, .inl (E.2.2, 6, .inl th)), (y3, .inl (E.2.2, 6, .inl (mPal f so pa m))), (y4, .inl (E.2.2, 96, .inl (mSrt f so))), (y5, .inl (E.2.2, 96, .inl ((mWeave f m car tur so pa cl he be).1))), (y6, .inl (E.2.2, 12, .inl ((mWeave f m car tur so pa cl he be).2.2.1))), (y7, .inl (E.2.2, 12, .inl ((mWeave f m car tur so pa cl he be).2.2.2))), (y8, .inl (E.2.2, 6, .inl kp)), (y9, .inl (E.2.2, 96, .inl kk))]) F dX5_weave_10 (c_X5_weaveOn E y y1 y2 y3 y4 y5 y6 y7 y8 y9 f th pa so cl he be kp kk 0 (nI m) car tur pre mb off wov km ko m (by first | assumption | decide | omega) (by first | assumption | decide | omega)) rfl gX5_weave_X5_weaveOn 0 rfl rfl kV_X5_weaveOn ⟨by decide, by decide⟩ [0, 1, 2, 3, 4, 5, 6, 7, 8, 9] rfl (by decide +kernel) rfl rfl (Nat.le_of_ble_eq_true rfl) ⟨by decide, by decide⟩ ?_
  refine g_iconst (v := 0) F dX5_weave_13 (by decide) ?_
  refine g_istore_n (L' := [(0, .ref y), (1, .int 0)]) F dX5_weave_14 rfl (by decide) [1, 0] rfl ?_
  have lp15 : ∀ (n15 i15 : Nat), i15 + n15 = 6 → (∀ c, c < i15 → mCo (mWeave f m car tur so pa cl he be).1 (nI c) 96 ≤ th c) → G E X (0 + 1) (0 + 7) 15 [(0, .ref y), (1, .int (nI i15))] [] [(y, .inr (5, [.int 0, .ref y1, .int (nI m), .int car, .int tur, .int pre, .ref y2, .int (nI (mFit f so m).2), .ref y3, .ref y4, .ref y5, .int ((mWeave f m car tur so pa cl he be).2.1), .ref y6, .ref y7, .int wov, .int km, .int ko, .ref y8, .ref y9])), (y1, .inl (E.2.2, 96, .inl f)), (y2, .inl (E.2.2, 6, .inl th)), (y3, .inl (E.2.2, 6, .inl (mPal f so pa m))), (y4, .inl (E.2.2, 96, .inl (mSrt f so))), (y5, .inl (E.2.2, 96, .inl ((mWeave f m car tur so pa cl he be).1))), (y6, .inl (E.2.2, 12, .inl ((mWeave f m car tur so pa cl he be).2.2.1))), (y7, .inl (E.2.2, 12, .inl ((mWeave f m car tur so pa cl he be).2.2.2))), (y8, .inl (E.2.2, 6, .inl kp)), (y9, .inl (E.2.2, 96, .inl kk))] := by
    intro n15
    induction n15 with
    | zero =>
      intro i15 hi15  ha
      have he15 : i15 = 6 := by omega
      exact absurd (he15 ▸ ha) hs
    | succ n15 ih15 =>
      intro i15 hi15  ha
      have hl15 : i15 < 6 := by omega
      refine g_iload_n F dX5_weave_15 rfl 1 rfl ?_
      refine g_bipush (v := 6) F dX5_weave_16 (by decide) ?_
      refine g_icmp_ge_f (tgt := 50) F dX5_weave_18 (by decide) (nle_nI (n := 6) hl15 (by omega)) ?_
      refine g_aload_n F dX5_weave_21 rfl 0 rfl ?_
      refine g_get F dX5_weave_22 0 rfl rfl i5 10 (by decide) rfl (List.mem_of_getElem? (i := 3) rfl) ?_
      refine g_iload_n F dX5_weave_25 rfl 1 rfl ?_
      refine g_callS (ws' := [(y, .inr (5, [.int 0, .ref y1, .int (nI m), .int car, .int tur, .int pre, .ref y2, .int (nI (mFit f so m).2), .ref y3, .ref y4, .ref y5, .int ((mWeave f m car tur so pa cl he be).2.1), .ref y6, .ref y7, .int wov, .int km, .int ko, .ref y8, .ref y9])), (y1, .inl (E.2.2, 96, .inl f)), (y2, .inl (E.2.2, 6, .inl th)), (y3, .inl (E.2.2, 6, .inl (mPal f so pa m))), (y4, .inl (E.2.2, 96, .inl (mSrt f so))), (y5, .inl (E.2.2, 96, .inl ((mWeave f m car tur so pa cl he be).1))), (y6, .inl (E.2.2, 12, .inl ((mWeave f m car tur so pa cl he be).2.2.1))), (y7, .inl (E.2.2, 12, .inl ((mWeave f m car tur so pa cl he be).2.2.2))), (y8, .inl (E.2.2, 6, .inl kp)), (y9, .inl (E.2.2, 96, .inl kk))]) F dX5_weave_26 (c_X5_cellsOf E y5 ((mWeave f m car tur so pa cl he be).1) (nI i15) ) rfl gX5_weave_X5_cellsOf kS_X5_cellsOf ⟨by decide, by decide⟩ [5] rfl (by decide +kernel) rfl rfl (Nat.le_of_ble_eq_true rfl) ⟨by show 0 + 1 + 0 ≤ 1; omega, by show 0 + 7 + 0 ≤ 7; omega⟩ ?_
      refine g_aload_n F dX5_weave_29 rfl 0 rfl ?_
      refine g_get F dX5_weave_30 0 rfl rfl i5 6 (by decide) rfl (List.mem_of_getElem? (i := 4) rfl) ?_
      refine g_iload_n F dX5_weave_33 rfl 1 rfl ?_
      refine g_ialdN (k := i15) F dX5_weave_34 2 rfl (by omega) (by first | decide | omega) ?_
      refine g_icmp_le (tgt := 44) F dX5_weave_35 (by decide) (fun k35 => ?_) (fun k35 => ?_)
      · skip
        refine g_iinc (L' := [(0, .ref y), (1, .int (nI (i15 + 1)))]) (v := nI (i15 + 1)) F dX5_weave_44 1 rfl (nI_1 _) (by decide) [1, 0] rfl ?_
        refine g_goto (tgt := 15) F dX5_weave_47 (by decide) ?_
        exact ih15 (i15 + 1) (by omega) (lt_s ha k35)
      · skip
        refine g_aload_n F dX5_weave_38 rfl 0 rfl ?_
        refine g_iconst (v := 1) F dX5_weave_39 (by decide) ?_
        refine g_callV (ws' := [(y, .inr (5, [.int 1, .ref y1, .int (nI m), .int car, .int tur, .int pre, .ref y2, .int (nI (mFit f so m).2), .ref y3, .ref y4, .ref y5, .int ((mWeave f m car tur so pa cl he be).2.1), .ref y6, .ref y7, .int wov, .int km, .int ko, .ref y8, .ref y9])), (y1, .inl (E.2.2, 96, .inl f)), (y2, .inl (E.2.2, 6, .inl th)), (y3, .inl (E.2.2, 6, .inl (mPal f so pa m))), (y4, .inl (E.2.2, 96, .inl (mSrt f so))), (y5, .inl (E.2.2, 96, .inl ((mWeave f m car tur so pa cl he be).1))), (y6, .inl (E.2.2, 12, .inl ((mWeave f m car tur so pa cl he be).2.2.1))), (y7, .inl (E.2.2, 12, .inl ((mWeave f m car tur so pa cl he be).2.2.2))), (y8, .inl (E.2.2, 6, .inl kp)), (y9, .inl (E.2.2, 96, .inl kk))]) F dX5_weave_40 (c_X5_no E y y1 y2 y3 y4 y5 y6 y7 y8 y9 0 (nI m) car tur pre (nI (mFit f so m).2) ((mWeave f m car tur so pa cl he be).2.1) wov km ko 1 ) rfl gX5_weave_X5_no 0 rfl rfl kV_X5_no ⟨by decide, by decide⟩ [0] rfl (by decide +kernel) rfl rfl (Nat.le_of_ble_eq_true rfl) ⟨by show 0 + 1 + 0 ≤ 1; omega, by show 0 + 7 + 0 ≤ 7; omega⟩ ?_
        refine g_cs (cells' := 1) (slots' := 7) (by show 0 + 1 ≤ 1; omega) (by show 0 + 7 ≤ 7; omega) ?_
        exact g_iret F hQ dX5_weave_43 (rfl) (rfl)
  exact lp15 6 0 (by omega) (fun x hx => absurd hx (Nat.not_lt_zero x))

set_option maxHeartbeats 4000000 in
set_option maxRecDepth 100000 in
theorem c_X5_counted (E : gE) (y : Nat) (y1 : Nat) (y2 : Nat) (y3 : Nat) (y4 : Nat) (y5 : Nat) (y6 : Nat) (y7 : Nat) (y8 : Nat) (y9 : Nat) (th : AF) (kk : AF) (thr : Int32) (col : Int32) (car : Int32) (tur : Int32) (pre : Int32) (mb : Int32) (off : Int32) (wov : Int32) (km : Int32) (ko : Int32) (k : Nat) (hk : k < 8) : Ct E yX5_counted wsX5_counted ({ frames := 5, cells := 0, slots := 0, locals := 112 }) [.ref y, .int (nI k)] [(y, .inr (5, [.int thr, .ref y1, .int col, .int car, .int tur, .int pre, .ref y2, .int mb, .ref y3, .ref y4, .ref y5, .int off, .ref y6, .ref y7, .int wov, .int km, .int ko, .ref y8, .ref y9])), (y2, .inl (E.2.2, 6, .inl th)), (y9, .inl (E.2.2, 96, .inl kk))] (some (.int (mCnt col car tur pre wov ko th kk k))) [(y, .inr (5, [.int thr, .ref y1, .int col, .int car, .int tur, .int pre, .ref y2, .int mb, .ref y3, .ref y4, .ref y5, .int off, .ref y6, .ref y7, .int wov, .int km, .int ko, .ref y8, .ref y9])), (y2, .inl (E.2.2, 6, .inl th)), (y9, .inl (E.2.2, 96, .inl kk))] := by
  refine Ct.of (cc := cX5_counted) (maxL := 7) (ret := (some .int)) (own := RX5) (L := [(0, .ref y), (1, .int (nI k))]) (by decide) rfl rfl rfl (Nat.le_of_ble_eq_true rfl) rfl ?_
  intro X F hQ
  have i5 : ∀ w ∈ u_ws RX5 TX5 19, w ∈ wsX5_counted := gsub [30, 31, 32, 33, 34, 35, 36, 37, 38, 39, 40, 41, 42, 43, 44, 45, 46, 47, 48] rfl
  refine g_iconst (v := 0) F dX5_counted_0 (by decide) ?_
  refine g_istore_n (L' := [(0, .ref y), (1, .int (nI k)), (2, .int 0)]) F dX5_counted_1 rfl (by decide) [1, 2, 0] rfl ?_
  refine g_iload_n F dX5_counted_2 rfl 1 rfl ?_
  rcases (show k = 0 ∨ k = 1 ∨ k = 2 ∨ k = 3 ∨ k = 4 ∨ k = 5 ∨ k = 6 ∨ k = 7 by omega) with rfl | rfl | rfl | rfl | rfl | rfl | rfl | rfl
  · skip
    refine g_swIn (tgt := 44) F dX5_counted_3 (by decide) (by decide) rfl (by decide) ?_
    refine g_aload_n F dX5_counted_44 rfl 0 rfl ?_
    refine g_get F dX5_counted_45 0 rfl rfl i5 2 (by decide) rfl (List.mem_of_getElem? (i := 1) rfl) ?_
    exact g_iret F hQ dX5_counted_48 (by first | rfl | simp [mCnt]) (rfl)
  · skip
    refine g_swIn (tgt := 49) F dX5_counted_3 (by decide) (by decide) rfl (by decide) ?_
    refine g_aload_n F dX5_counted_49 rfl 0 rfl ?_
    refine g_get F dX5_counted_50 0 rfl rfl i5 3 (by decide) rfl (List.mem_of_getElem? (i := 2) rfl) ?_
    exact g_iret F hQ dX5_counted_53 (by first | rfl | simp [mCnt]) (rfl)
  · skip
    refine g_swIn (tgt := 54) F dX5_counted_3 (by decide) (by decide) rfl (by decide) ?_
    refine g_aload_n F dX5_counted_54 rfl 0 rfl ?_
    refine g_get F dX5_counted_55 0 rfl rfl i5 4 (by decide) rfl (List.mem_of_getElem? (i := 3) rfl) ?_
    refine g_if_eq (tgt := 65) F dX5_counted_58 (by decide) (fun k58 => ?_) (fun k58 => ?_)
    · skip
      refine g_iconst (v := 0) F dX5_counted_65 (by decide) ?_
      exact g_iret F hQ dX5_counted_66 (by first | rfl | simp [mCnt, k58]) (rfl)
    · skip
      refine g_iconst (v := 1) F dX5_counted_61 (by decide) ?_
      refine g_goto (tgt := 66) F dX5_counted_62 (by decide) ?_
      exact g_iret F hQ dX5_counted_66 (by first | rfl | simp [mCnt, k58]) (rfl)
  · skip
    refine g_swIn (tgt := 67) F dX5_counted_3 (by decide) (by decide) rfl (by decide) ?_
    refine g_aload_n F dX5_counted_67 rfl 0 rfl ?_
    refine g_get F dX5_counted_68 0 rfl rfl i5 5 (by decide) rfl (List.mem_of_getElem? (i := 4) rfl) ?_
    refine g_if_eq (tgt := 78) F dX5_counted_71 (by decide) (fun k71 => ?_) (fun k71 => ?_)
    · skip
      refine g_iconst (v := 0) F dX5_counted_78 (by decide) ?_
      exact g_iret F hQ dX5_counted_79 (by first | rfl | simp [mCnt, k71]) (rfl)
    · skip
      refine g_iconst (v := 1) F dX5_counted_74 (by decide) ?_
      refine g_goto (tgt := 79) F dX5_counted_75 (by decide) ?_
      exact g_iret F hQ dX5_counted_79 (by first | rfl | simp [mCnt, k71]) (rfl)
  · skip
    refine g_swIn (tgt := 80) F dX5_counted_3 (by decide) (by decide) rfl (by decide) ?_
    refine g_aload_n F dX5_counted_80 rfl 0 rfl ?_
    refine g_get F dX5_counted_81 0 rfl rfl i5 14 (by decide) rfl (List.mem_of_getElem? (i := 5) rfl) ?_
    exact g_iret F hQ dX5_counted_84 (by first | rfl | simp [mCnt]) (rfl)
  · skip
    refine g_swIn (tgt := 85) F dX5_counted_3 (by decide) (by decide) rfl (by decide) ?_
    refine g_aload_n F dX5_counted_85 rfl 0 rfl ?_
    refine g_get F dX5_counted_86 0 rfl rfl i5 6 (by decide) rfl (List.mem_of_getElem? (i := 6) rfl) ?_
    refine g_astore_n (L' := [(0, .ref y), (1, .int (nI 5)), (2, .int 0), (3, .ref y2)]) F dX5_counted_89 rfl (by decide) [1, 2, 3, 0] rfl ?_
    refine g_aload_n F dX5_counted_90 rfl 3 rfl ?_
    refine g_alen (v := 6) F dX5_counted_91 1 rfl rfl ?_
    refine g_istore (L' := [(0, .ref y), (1, .int (nI 5)), (2, .int 0), (3, .ref y2), (4, .int 6)]) F dX5_counted_92 (by decide) [1, 2, 3, 4, 0] rfl ?_
    refine g_iconst (v := 0) F dX5_counted_94 (by decide) ?_
    refine g_istore (L' := [(0, .ref y), (1, .int (nI 5)), (2, .int 0), (3, .ref y2), (4, .int 6), (5, .int 0)]) F dX5_counted_95 (by decide) [1, 2, 3, 4, 5, 0] rfl ?_
    have lp97 : ∀ (n97 i97 : Nat), i97 + n97 = 6 → G E X 0 0 97 [(0, .ref y), (1, .int (nI 5)), (2, .int (mHold th i97)), (3, .ref y2), (4, .int 6), (5, .int (nI i97))] [] [(y, .inr (5, [.int thr, .ref y1, .int col, .int car, .int tur, .int pre, .ref y2, .int mb, .ref y3, .ref y4, .ref y5, .int off, .ref y6, .ref y7, .int wov, .int km, .int ko, .ref y8, .ref y9])), (y2, .inl (E.2.2, 6, .inl th)), (y9, .inl (E.2.2, 96, .inl kk))] := by
      intro n97
      induction n97 with
      | zero =>
        intro i97 hi97
        have he97 : i97 = 6 := by omega
        rw [he97]
        refine g_iload F dX5_counted_97 5 rfl ?_
        refine g_iload F dX5_counted_99 4 rfl ?_
        refine g_icmp_ge_t (tgt := 121) F dX5_counted_101 (by decide) (by decide) ?_
        refine g_iload_n F dX5_counted_121 rfl 2 rfl ?_
        exact g_iret F hQ dX5_counted_122 (by first | rfl | simp [mCnt]) (rfl)
      | succ n97 ih97 =>
        intro i97 hi97
        have hl97 : i97 < 6 := by omega
        refine g_iload F dX5_counted_97 5 rfl ?_
        refine g_iload F dX5_counted_99 4 rfl ?_
        refine g_icmp_ge_f (tgt := 121) F dX5_counted_101 (by decide) (nle_nI (n := 6) hl97 (by omega)) ?_
        refine g_aload_n F dX5_counted_104 rfl 3 rfl ?_
        refine g_iload F dX5_counted_105 5 rfl ?_
        refine g_ialdN (k := i97) F dX5_counted_107 1 rfl (by omega) (by first | decide | omega) ?_
        refine g_istore (L' := [(0, .ref y), (1, .int (nI 5)), (2, .int (mHold th i97)), (3, .ref y2), (4, .int 6), (5, .int (nI i97)), (6, .int (th i97))]) F dX5_counted_108 (by decide) [1, 2, 3, 4, 5, 6, 0] rfl ?_
        refine g_iload_n F dX5_counted_110 rfl 2 rfl ?_
        refine g_iload F dX5_counted_111 6 rfl ?_
        refine g_iadd F dX5_counted_113 ?_
        refine g_istore_n (L' := [(0, .ref y), (1, .int (nI 5)), (2, .int ((mHold th i97) + (th i97))), (3, .ref y2), (4, .int 6), (5, .int (nI i97)), (6, .int (th i97))]) F dX5_counted_114 rfl (by decide) [1, 2, 0, 3, 4, 5, 6] rfl ?_
        refine g_iinc (L' := [(0, .ref y), (1, .int (nI 5)), (2, .int ((mHold th i97) + (th i97))), (3, .ref y2), (4, .int 6), (5, .int (nI (i97 + 1))), (6, .int (th i97))]) (v := nI (i97 + 1)) F dX5_counted_115 5 rfl (nI_1 _) (by decide) [1, 2, 3, 4, 5, 0, 6] rfl ?_
        refine g_goto (tgt := 97) F dX5_counted_118 (by decide) ?_
        refine g_lv (L' := [(0, .ref y), (1, .int (nI 5)), (2, .int ((mHold th i97) + (th i97))), (3, .ref y2), (4, .int 6), (5, .int (nI (i97 + 1)))]) [0, 1, 2, 3, 4, 5] rfl ?_
        exact ih97 (i97 + 1) (by omega)
    exact lp97 6 0 (by omega)
  · skip
    refine g_swIn (tgt := 123) F dX5_counted_3 (by decide) (by decide) rfl (by decide) ?_
    refine g_aload_n F dX5_counted_123 rfl 0 rfl ?_
    refine g_get F dX5_counted_124 0 rfl rfl i5 16 (by decide) rfl (List.mem_of_getElem? (i := 7) rfl) ?_
    exact g_iret F hQ dX5_counted_127 (by first | rfl | simp [mCnt]) (rfl)
  · skip
    refine g_swOut (tgt := 128) F dX5_counted_3 (by decide) (by decide) ?_
    refine g_aload_n F dX5_counted_128 rfl 0 rfl ?_
    refine g_get F dX5_counted_129 0 rfl rfl i5 14 (by decide) rfl (List.mem_of_getElem? (i := 5) rfl) ?_
    refine g_if_le (tgt := 146) F dX5_counted_132 (by decide) (fun k132 => ?_) (fun k132 => ?_)
    · skip
      refine g_iconst (v := 0) F dX5_counted_146 (by decide) ?_
      exact g_iret F hQ dX5_counted_147 (by first | rfl | simp [mCnt, k132]) (rfl)
    · skip
      refine g_aload_n F dX5_counted_135 rfl 0 rfl ?_
      refine g_aload_n F dX5_counted_136 rfl 0 rfl ?_
      refine g_get F dX5_counted_137 0 rfl rfl i5 18 (by decide) rfl (List.mem_of_getElem? (i := 8) rfl) ?_
      refine g_callV (ws' := [(y, .inr (5, [.int thr, .ref y1, .int col, .int car, .int tur, .int pre, .ref y2, .int mb, .ref y3, .ref y4, .ref y5, .int off, .ref y6, .ref y7, .int wov, .int km, .int ko, .ref y8, .ref y9])), (y2, .inl (E.2.2, 6, .inl th)), (y9, .inl (E.2.2, 96, .inl kk))]) F dX5_counted_140 (c_X5_allKnots E y y1 y2 y3 y4 y5 y6 y7 y8 y9 y9 kk thr col car tur pre mb off wov km ko ) rfl gX5_counted_X5_allKnots 0 rfl rfl kV_X5_allKnots ⟨by decide, by decide⟩ [0, 2] rfl (by decide +kernel) rfl rfl (Nat.le_of_ble_eq_true rfl) ⟨by decide, by decide⟩ ?_
      refine g_goto (tgt := 147) F dX5_counted_143 (by decide) ?_
      exact g_iret F hQ dX5_counted_147 (by first | rfl | simp [mCnt, k132]) (rfl)

set_option maxHeartbeats 4000000 in
set_option maxRecDepth 100000 in
theorem c_X5_count (E : gE) (y : Nat) (y1 : Nat) (y2 : Nat) (y3 : Nat) (y4 : Nat) (y5 : Nat) (y6 : Nat) (y7 : Nat) (y8 : Nat) (y9 : Nat) (th : AF) (kk : AF) (thr : Int32) (col : Int32) (car : Int32) (tur : Int32) (pre : Int32) (mb : Int32) (off : Int32) (wov : Int32) (km : Int32) (ko : Int32) (k : Nat) (hk : k < 8) : Ct E yX5_count wsX5_count ({ frames := 6, cells := 0, slots := 0, locals := 138 }) [.ref y, .int (nI k)] [(y, .inr (5, [.int thr, .ref y1, .int col, .int car, .int tur, .int pre, .ref y2, .int mb, .ref y3, .ref y4, .ref y5, .int off, .ref y6, .ref y7, .int wov, .int km, .int ko, .ref y8, .ref y9])), (y2, .inl (E.2.2, 6, .inl th)), (y9, .inl (E.2.2, 96, .inl kk))] (some (.int (mCnt col car tur pre wov ko th kk k))) [(y, .inr (5, [.int 0, .ref y1, .int col, .int car, .int tur, .int pre, .ref y2, .int mb, .ref y3, .ref y4, .ref y5, .int off, .ref y6, .ref y7, .int wov, .int km, .int ko, .ref y8, .ref y9])), (y2, .inl (E.2.2, 6, .inl th)), (y9, .inl (E.2.2, 96, .inl kk))] := by
  refine Ct.of (cc := cX5_count) (maxL := 2) (ret := (some .int)) (own := RX5) (L := [(0, .ref y), (1, .int (nI k))]) (by decide) rfl rfl rfl (Nat.le_of_ble_eq_true rfl) rfl ?_
  intro X F hQ
  have i5 : ∀ w ∈ u_ws RX5 TX5 19, w ∈ wsX5_count := gsub [42, 43, 44, 45, 46, 47, 48, 49, 50, 51, 52, 53, 54, 55, 56, 57, 58, 59, 60] rfl
  refine g_aload_n F dX5_count_0 rfl 0 rfl ?_
  refine g_iconst (v := 0) F dX5_count_1 (by decide) ?_
  refine g_put (ws' := [(y, .inr (5, [.int 0, .ref y1, .int col, .int car, .int tur, .int pre, .ref y2, .int mb, .ref y3, .ref y4, .ref y5, .int off, .ref y6, .ref y7, .int wov, .int km, .int ko, .ref y8, .ref y9])), (y2, .inl (E.2.2, 6, .inl th)), (y9, .inl (E.2.2, 96, .inl kk))]) F dX5_count_2 0 rfl rfl i5 tyX5 tyX5_ok nmX5 0 (by decide) rfl (rfl) (rfl) (Nat.le_of_ble_eq_true rfl) (List.mem_of_getElem? (i := 1) rfl) rfl ?_
  refine g_iload_n F dX5_count_5 rfl 1 rfl ?_
  refine g_iconst (v := 0) F dX5_count_6 (by decide) ?_
  refine g_bipush (v := 7) F dX5_count_7 (by decide) ?_
  refine g_callS (ws' := [(y, .inr (5, [.int 0, .ref y1, .int col, .int car, .int tur, .int pre, .ref y2, .int mb, .ref y3, .ref y4, .ref y5, .int off, .ref y6, .ref y7, .int wov, .int km, .int ko, .ref y8, .ref y9])), (y2, .inl (E.2.2, 6, .inl th)), (y9, .inl (E.2.2, 96, .inl kk))]) F dX5_count_9 (c_X5_isIn E (nI k) 0 7 ) rfl gX5_count_X5_isIn kS_X5_isIn ⟨by decide, by decide⟩ [] rfl (by decide +kernel) rfl rfl (Nat.le_of_ble_eq_true rfl) ⟨by decide, by decide⟩ ?_
  refine g_topr (y := 1) (mIn_nI (n := 7) (by omega) (by omega)) ?_
  refine g_if_eq_f (tgt := 23) F dX5_count_12 (by decide) (by decide) ?_
  refine g_aload_n F dX5_count_15 rfl 0 rfl ?_
  refine g_iload_n F dX5_count_16 rfl 1 rfl ?_
  refine g_callV (ws' := [(y, .inr (5, [.int 0, .ref y1, .int col, .int car, .int tur, .int pre, .ref y2, .int mb, .ref y3, .ref y4, .ref y5, .int off, .ref y6, .ref y7, .int wov, .int km, .int ko, .ref y8, .ref y9])), (y2, .inl (E.2.2, 6, .inl th)), (y9, .inl (E.2.2, 96, .inl kk))]) F dX5_count_17 (c_X5_counted E y y1 y2 y3 y4 y5 y6 y7 y8 y9 th kk 0 col car tur pre mb off wov km ko k (by first | assumption | decide | omega)) rfl gX5_count_X5_counted 0 rfl rfl kV_X5_counted ⟨by decide, by decide⟩ [0, 1, 2] rfl (by decide +kernel) rfl rfl (Nat.le_of_ble_eq_true rfl) ⟨by decide, by decide⟩ ?_
  refine g_goto (tgt := 28) F dX5_count_20 (by decide) ?_
  exact g_iret F hQ dX5_count_28 (rfl) (rfl)

set_option maxHeartbeats 4000000 in
set_option maxRecDepth 100000 in
theorem c_X5_count_1 (E : gE) (y : Nat) (y1 : Nat) (y2 : Nat) (y3 : Nat) (y4 : Nat) (y5 : Nat) (y6 : Nat) (y7 : Nat) (y8 : Nat) (y9 : Nat) (thr : Int32) (col : Int32) (car : Int32) (tur : Int32) (pre : Int32) (mb : Int32) (off : Int32) (wov : Int32) (km : Int32) (ko : Int32) (n : Int32) (h0 : mIn n 0 7 = 0) : Ct E yX5_count wsX5_count ({ frames := 6, cells := 0, slots := 0, locals := 138 }) [.ref y, .int n] [(y, .inr (5, [.int thr, .ref y1, .int col, .int car, .int tur, .int pre, .ref y2, .int mb, .ref y3, .ref y4, .ref y5, .int off, .ref y6, .ref y7, .int wov, .int km, .int ko, .ref y8, .ref y9]))] (some (.int 0)) [(y, .inr (5, [.int 1, .ref y1, .int col, .int car, .int tur, .int pre, .ref y2, .int mb, .ref y3, .ref y4, .ref y5, .int off, .ref y6, .ref y7, .int wov, .int km, .int ko, .ref y8, .ref y9]))] := by
  refine Ct.of (cc := cX5_count) (maxL := 2) (ret := (some .int)) (own := RX5) (L := [(0, .ref y), (1, .int n)]) (by decide) rfl rfl rfl (Nat.le_of_ble_eq_true rfl) rfl ?_
  intro X F hQ
  have i5 : ∀ w ∈ u_ws RX5 TX5 19, w ∈ wsX5_count := gsub [42, 43, 44, 45, 46, 47, 48, 49, 50, 51, 52, 53, 54, 55, 56, 57, 58, 59, 60] rfl
  refine g_aload_n F dX5_count_0 rfl 0 rfl ?_
  refine g_iconst (v := 0) F dX5_count_1 (by decide) ?_
  refine g_put (ws' := [(y, .inr (5, [.int 0, .ref y1, .int col, .int car, .int tur, .int pre, .ref y2, .int mb, .ref y3, .ref y4, .ref y5, .int off, .ref y6, .ref y7, .int wov, .int km, .int ko, .ref y8, .ref y9]))]) F dX5_count_2 0 rfl rfl i5 tyX5 tyX5_ok nmX5 0 (by decide) rfl (rfl) (rfl) (Nat.le_of_ble_eq_true rfl) (List.mem_of_getElem? (i := 1) rfl) rfl ?_
  refine g_iload_n F dX5_count_5 rfl 1 rfl ?_
  refine g_iconst (v := 0) F dX5_count_6 (by decide) ?_
  refine g_bipush (v := 7) F dX5_count_7 (by decide) ?_
  refine g_callS (ws' := [(y, .inr (5, [.int 0, .ref y1, .int col, .int car, .int tur, .int pre, .ref y2, .int mb, .ref y3, .ref y4, .ref y5, .int off, .ref y6, .ref y7, .int wov, .int km, .int ko, .ref y8, .ref y9]))]) F dX5_count_9 (c_X5_isIn E n 0 7 ) rfl gX5_count_X5_isIn kS_X5_isIn ⟨by decide, by decide⟩ [] rfl (by decide +kernel) rfl rfl (Nat.le_of_ble_eq_true rfl) ⟨by decide, by decide⟩ ?_
  refine g_if_eq_t (tgt := 23) F dX5_count_12 (by decide) (h0) ?_
  refine g_aload_n F dX5_count_23 rfl 0 rfl ?_
  refine g_iconst (v := 1) F dX5_count_24 (by decide) ?_
  refine g_callV (ws' := [(y, .inr (5, [.int 1, .ref y1, .int col, .int car, .int tur, .int pre, .ref y2, .int mb, .ref y3, .ref y4, .ref y5, .int off, .ref y6, .ref y7, .int wov, .int km, .int ko, .ref y8, .ref y9]))]) F dX5_count_25 (c_X5_no E y y1 y2 y3 y4 y5 y6 y7 y8 y9 0 col car tur pre mb off wov km ko 1 ) rfl gX5_count_X5_no 0 rfl rfl kV_X5_no ⟨by decide, by decide⟩ [0] rfl (by decide +kernel) rfl rfl (Nat.le_of_ble_eq_true rfl) ⟨by decide, by decide⟩ ?_
  exact g_iret F hQ dX5_count_28 (rfl) (rfl)

set_option maxHeartbeats 4000000 in
set_option maxRecDepth 100000 in
theorem c_X5_wouldTell (E : gE) (y : Nat) (y1 : Nat) (y2 : Nat) (y3 : Nat) (y4 : Nat) (y5 : Nat) (y6 : Nat) (y7 : Nat) (y8 : Nat) (y9 : Nat) (f : AF) (th : AF) (pa : AF) (so : AF) (cl : AF) (he : AF) (be : AF) (kp : AF) (kk : AF) (thr : Int32) (col : Int32) (car : Int32) (tur : Int32) (pre : Int32) (mb : Int32) (off : Int32) (wov : Int32) (km : Int32) (ko : Int32) (m : Nat) (w : Int32) (h2 : 2 ≤ m) (h6 : m ≤ 6) : Ct E yX5_wouldTell wsX5_wouldTell ({ frames := 5, cells := 1, slots := 7, locals := 117 }) [.ref y, .int (nI m), .int w] [(y, .inr (5, [.int thr, .ref y1, .int col, .int car, .int tur, .int pre, .ref y2, .int mb, .ref y3, .ref y4, .ref y5, .int off, .ref y6, .ref y7, .int wov, .int km, .int ko, .ref y8, .ref y9])), (y1, .inl (E.2.2, 96, .inl f)), (y2, .inl (E.2.2, 6, .inl th)), (y3, .inl (E.2.2, 6, .inl pa)), (y4, .inl (E.2.2, 96, .inl so)), (y5, .inl (E.2.2, 96, .inl cl)), (y6, .inl (E.2.2, 12, .inl he)), (y7, .inl (E.2.2, 12, .inl be)), (y8, .inl (E.2.2, 6, .inl kp)), (y9, .inl (E.2.2, 96, .inl kk))] (some (.int (mWould (mFit f so m).2 (mWeave f m car tur so pa cl he be).2.1 (mWeave f m car tur so pa cl he be).1 pre w))) [(y, .inr (5, [.int thr, .ref y1, .int col, .int car, .int tur, .int pre, .ref y2, .int (nI (mFit f so m).2), .ref y3, .ref y4, .ref y5, .int ((mWeave f m car tur so pa cl he be).2.1), .ref y6, .ref y7, .int wov, .int km, .int ko, .ref y8, .ref y9])), (y1, .inl (E.2.2, 96, .inl f)), (y2, .inl (E.2.2, 6, .inl th)), (y3, .inl (E.2.2, 6, .inl (mPal f so pa m))), (y4, .inl (E.2.2, 96, .inl (mSrt f so))), (y5, .inl (E.2.2, 96, .inl ((mWeave f m car tur so pa cl he be).1))), (y6, .inl (E.2.2, 12, .inl ((mWeave f m car tur so pa cl he be).2.2.1))), (y7, .inl (E.2.2, 12, .inl ((mWeave f m car tur so pa cl he be).2.2.2))), (y8, .inl (E.2.2, 6, .inl kp)), (y9, .inl (E.2.2, 96, .inl kk))] := by
  refine Ct.of (cc := cX5_wouldTell) (maxL := 3) (ret := (some .int)) (own := RX5) (L := [(0, .ref y), (1, .int (nI m)), (2, .int w)]) (by decide) rfl rfl rfl (Nat.le_of_ble_eq_true rfl) rfl ?_
  intro X F hQ
  have i5 : ∀ w ∈ u_ws RX5 TX5 19, w ∈ wsX5_wouldTell := gsub [71, 72, 73, 74, 75, 76, 77, 78, 79, 80, 81, 82, 83, 84, 85, 86, 87, 88, 89] rfl
  refine g_aload_n F dX5_wouldTell_0 rfl 0 rfl ?_
  refine g_iload_n F dX5_wouldTell_1 rfl 1 rfl ?_
  refine g_callV (ws' := [(y, .inr (5, [.int thr, .ref y1, .int col, .int car, .int tur, .int pre, .ref y2, .int (nI (mFit f so m).2), .ref y3, .ref y4, .ref y5, .int ((mWeave f m car tur so pa cl he be).2.1), .ref y6, .ref y7, .int wov, .int km, .int ko, .ref y8, .ref y9])), (y1, .inl (E.2.2, 96, .inl f)), (y2, .inl (E.2.2, 6, .inl th)), (y3, .inl (E.2.2, 6, .inl (mPal f so pa m))), (y4, .inl (E.2.2, 96, .inl (mSrt f so))), (y5, .inl (E.2.2, 96, .inl ((mWeave f m car tur so pa cl he be).1))), (y6, .inl (E.2.2, 12, .inl ((mWeave f m car tur so pa cl he be).2.2.1))), (y7, .inl (E.2.2, 12, .inl ((mWeave f m car tur so pa cl he be).2.2.2))), (y8, .inl (E.2.2, 6, .inl kp)), (y9, .inl (E.2.2, 96, .inl kk))]) F dX5_wouldTell_2 (c_X5_weaveOn E y y1 y2 y3 y4 y5 y6 y7 y8 y9 f th pa so cl he be kp kk thr col car tur pre mb off wov km ko m (by first | assumption | decide | omega) (by first | assumption | decide | omega)) rfl gX5_wouldTell_X5_weaveOn 0 rfl rfl kV_X5_weaveOn ⟨by decide, by decide⟩ [0, 1, 2, 3, 4, 5, 6, 7, 8, 9] rfl (by decide +kernel) rfl rfl (Nat.le_of_ble_eq_true rfl) ⟨by decide, by decide⟩ ?_
  refine g_iload_n F dX5_wouldTell_5 rfl 2 rfl ?_
  refine g_if_ne (tgt := 16) F dX5_wouldTell_6 (by decide) (fun k6 => ?_) (fun k6 => ?_)
  · skip
    refine g_iload_n F dX5_wouldTell_16 rfl 2 rfl ?_
    refine g_iconst (v := 1) F dX5_wouldTell_17 (by decide) ?_
    refine g_icmp_ne (tgt := 28) F dX5_wouldTell_18 (by decide) (fun k18 => ?_) (fun k18 => ?_)
    · skip
      refine g_aload_n F dX5_wouldTell_28 rfl 0 rfl ?_
      refine g_aload_n F dX5_wouldTell_29 rfl 0 rfl ?_
      refine g_get F dX5_wouldTell_30 0 rfl rfl i5 10 (by decide) rfl (List.mem_of_getElem? (i := 3) rfl) ?_
      refine g_callV (ws' := [(y, .inr (5, [.int thr, .ref y1, .int col, .int car, .int tur, .int pre, .ref y2, .int (nI (mFit f so m).2), .ref y3, .ref y4, .ref y5, .int ((mWeave f m car tur so pa cl he be).2.1), .ref y6, .ref y7, .int wov, .int km, .int ko, .ref y8, .ref y9])), (y1, .inl (E.2.2, 96, .inl f)), (y2, .inl (E.2.2, 6, .inl th)), (y3, .inl (E.2.2, 6, .inl (mPal f so pa m))), (y4, .inl (E.2.2, 96, .inl (mSrt f so))), (y5, .inl (E.2.2, 96, .inl ((mWeave f m car tur so pa cl he be).1))), (y6, .inl (E.2.2, 12, .inl ((mWeave f m car tur so pa cl he be).2.2.1))), (y7, .inl (E.2.2, 12, .inl ((mWeave f m car tur so pa cl he be).2.2.2))), (y8, .inl (E.2.2, 6, .inl kp)), (y9, .inl (E.2.2, 96, .inl kk))]) F dX5_wouldTell_33 (c_X5_allKnots E y y1 y2 y3 y4 y5 y6 y7 y8 y9 y5 ((mWeave f m car tur so pa cl he be).1) thr col car tur pre (nI (mFit f so m).2) ((mWeave f m car tur so pa cl he be).2.1) wov km ko ) rfl gX5_wouldTell_X5_allKnots 0 rfl rfl kV_X5_allKnots ⟨by decide, by decide⟩ [0, 5] rfl (by decide +kernel) rfl rfl (Nat.le_of_ble_eq_true rfl) ⟨by show 0 + 1 + 0 ≤ 1; omega, by show 0 + 7 + 0 ≤ 7; omega⟩ ?_
      refine g_cs (cells' := 1) (slots' := 7) (by show 0 + 1 ≤ 1; omega) (by show 0 + 7 ≤ 7; omega) ?_
      exact g_iret F hQ dX5_wouldTell_36 (by simp [mWould, k6, k18]) (rfl)
    · skip
      refine g_aload_n F dX5_wouldTell_21 rfl 0 rfl ?_
      refine g_get F dX5_wouldTell_22 0 rfl rfl i5 11 (by decide) rfl (List.mem_of_getElem? (i := 2) rfl) ?_
      refine g_goto (tgt := 36) F dX5_wouldTell_25 (by decide) ?_
      refine g_cs (cells' := 1) (slots' := 7) (by show 0 + 1 ≤ 1; omega) (by show 0 + 7 ≤ 7; omega) ?_
      exact g_iret F hQ dX5_wouldTell_36 (by simp [mWould, k6, k18]) (rfl)
  · skip
    refine g_aload_n F dX5_wouldTell_9 rfl 0 rfl ?_
    refine g_get F dX5_wouldTell_10 0 rfl rfl i5 7 (by decide) rfl (List.mem_of_getElem? (i := 1) rfl) ?_
    refine g_goto (tgt := 36) F dX5_wouldTell_13 (by decide) ?_
    refine g_cs (cells' := 1) (slots' := 7) (by show 0 + 1 ≤ 1; omega) (by show 0 + 7 ≤ 7; omega) ?_
    exact g_iret F hQ dX5_wouldTell_36 (by simp [mWould, k6]) (rfl)

set_option maxHeartbeats 4000000 in
set_option maxRecDepth 100000 in
theorem c_X5_would (E : gE) (y : Nat) (y1 : Nat) (y2 : Nat) (y3 : Nat) (y4 : Nat) (y5 : Nat) (y6 : Nat) (y7 : Nat) (y8 : Nat) (y9 : Nat) (f : AF) (th : AF) (pa : AF) (so : AF) (cl : AF) (he : AF) (be : AF) (kp : AF) (kk : AF) (thr : Int32) (col : Int32) (car : Int32) (tur : Int32) (pre : Int32) (mb : Int32) (off : Int32) (wov : Int32) (km : Int32) (ko : Int32) (m : Nat) (w : Int32) (h2 : 2 ≤ m) (h6 : m ≤ 6) (h1 : ¬ mIn w 0 2 = 0) : Ct E yX5_would wsX5_would ({ frames := 6, cells := 1, slots := 7, locals := 139 }) [.ref y, .int (nI m), .int w] [(y, .inr (5, [.int thr, .ref y1, .int col, .int car, .int tur, .int pre, .ref y2, .int mb, .ref y3, .ref y4, .ref y5, .int off, .ref y6, .ref y7, .int wov, .int km, .int ko, .ref y8, .ref y9])), (y1, .inl (E.2.2, 96, .inl f)), (y2, .inl (E.2.2, 6, .inl th)), (y3, .inl (E.2.2, 6, .inl pa)), (y4, .inl (E.2.2, 96, .inl so)), (y5, .inl (E.2.2, 96, .inl cl)), (y6, .inl (E.2.2, 12, .inl he)), (y7, .inl (E.2.2, 12, .inl be)), (y8, .inl (E.2.2, 6, .inl kp)), (y9, .inl (E.2.2, 96, .inl kk))] (some (.int (mWould (mFit f so m).2 (mWeave f m car tur so pa cl he be).2.1 (mWeave f m car tur so pa cl he be).1 pre w))) [(y, .inr (5, [.int 0, .ref y1, .int col, .int car, .int tur, .int pre, .ref y2, .int (nI (mFit f so m).2), .ref y3, .ref y4, .ref y5, .int ((mWeave f m car tur so pa cl he be).2.1), .ref y6, .ref y7, .int wov, .int km, .int ko, .ref y8, .ref y9])), (y1, .inl (E.2.2, 96, .inl f)), (y2, .inl (E.2.2, 6, .inl th)), (y3, .inl (E.2.2, 6, .inl (mPal f so pa m))), (y4, .inl (E.2.2, 96, .inl (mSrt f so))), (y5, .inl (E.2.2, 96, .inl ((mWeave f m car tur so pa cl he be).1))), (y6, .inl (E.2.2, 12, .inl ((mWeave f m car tur so pa cl he be).2.2.1))), (y7, .inl (E.2.2, 12, .inl ((mWeave f m car tur so pa cl he be).2.2.2))), (y8, .inl (E.2.2, 6, .inl kp)), (y9, .inl (E.2.2, 96, .inl kk))] := by
  refine Ct.of (cc := cX5_would) (maxL := 3) (ret := (some .int)) (own := RX5) (L := [(0, .ref y), (1, .int (nI m)), (2, .int w)]) (by decide) rfl rfl rfl (Nat.le_of_ble_eq_true rfl) rfl ?_
  intro X F hQ
  have i5 : ∀ w ∈ u_ws RX5 TX5 19, w ∈ wsX5_would := gsub [80, 81, 82, 83, 84, 85, 86, 87, 88, 89, 90, 91, 92, 93, 94, 95, 96, 97, 98] rfl
  refine g_aload_n F dX5_would_0 rfl 0 rfl ?_
  refine g_iconst (v := 0) F dX5_would_1 (by decide) ?_
  refine g_put (ws' := [(y, .inr (5, [.int 0, .ref y1, .int col, .int car, .int tur, .int pre, .ref y2, .int mb, .ref y3, .ref y4, .ref y5, .int off, .ref y6, .ref y7, .int wov, .int km, .int ko, .ref y8, .ref y9])), (y1, .inl (E.2.2, 96, .inl f)), (y2, .inl (E.2.2, 6, .inl th)), (y3, .inl (E.2.2, 6, .inl pa)), (y4, .inl (E.2.2, 96, .inl so)), (y5, .inl (E.2.2, 96, .inl cl)), (y6, .inl (E.2.2, 12, .inl he)), (y7, .inl (E.2.2, 12, .inl be)), (y8, .inl (E.2.2, 6, .inl kp)), (y9, .inl (E.2.2, 96, .inl kk))]) F dX5_would_2 0 rfl rfl i5 tyX5 tyX5_ok nmX5 0 (by decide) rfl (rfl) (rfl) (Nat.le_of_ble_eq_true rfl) (List.mem_of_getElem? (i := 1) rfl) rfl ?_
  refine g_iload_n F dX5_would_5 rfl 1 rfl ?_
  refine g_iconst (v := 2) F dX5_would_6 (by decide) ?_
  refine g_bipush (v := 6) F dX5_would_7 (by decide) ?_
  refine g_callS (ws' := [(y, .inr (5, [.int 0, .ref y1, .int col, .int car, .int tur, .int pre, .ref y2, .int mb, .ref y3, .ref y4, .ref y5, .int off, .ref y6, .ref y7, .int wov, .int km, .int ko, .ref y8, .ref y9])), (y1, .inl (E.2.2, 96, .inl f)), (y2, .inl (E.2.2, 6, .inl th)), (y3, .inl (E.2.2, 6, .inl pa)), (y4, .inl (E.2.2, 96, .inl so)), (y5, .inl (E.2.2, 96, .inl cl)), (y6, .inl (E.2.2, 12, .inl he)), (y7, .inl (E.2.2, 12, .inl be)), (y8, .inl (E.2.2, 6, .inl kp)), (y9, .inl (E.2.2, 96, .inl kk))]) F dX5_would_9 (c_X5_isIn E (nI m) 2 6 ) rfl gX5_would_X5_isIn kS_X5_isIn ⟨by decide, by decide⟩ [] rfl (by decide +kernel) rfl rfl (Nat.le_of_ble_eq_true rfl) ⟨by decide, by decide⟩ ?_
  refine g_topr (y := 1) (mIn_1 (nI_nlt (b := 2) (by omega) (by omega)) (nI_nlt (a := 6) (by omega) (by omega))) ?_
  refine g_if_ne_t (tgt := 21) F dX5_would_12 (by decide) (by decide) ?_
  refine g_iload_n F dX5_would_21 rfl 2 rfl ?_
  refine g_iconst (v := 0) F dX5_would_22 (by decide) ?_
  refine g_iconst (v := 2) F dX5_would_23 (by decide) ?_
  refine g_callS (ws' := [(y, .inr (5, [.int 0, .ref y1, .int col, .int car, .int tur, .int pre, .ref y2, .int mb, .ref y3, .ref y4, .ref y5, .int off, .ref y6, .ref y7, .int wov, .int km, .int ko, .ref y8, .ref y9])), (y1, .inl (E.2.2, 96, .inl f)), (y2, .inl (E.2.2, 6, .inl th)), (y3, .inl (E.2.2, 6, .inl pa)), (y4, .inl (E.2.2, 96, .inl so)), (y5, .inl (E.2.2, 96, .inl cl)), (y6, .inl (E.2.2, 12, .inl he)), (y7, .inl (E.2.2, 12, .inl be)), (y8, .inl (E.2.2, 6, .inl kp)), (y9, .inl (E.2.2, 96, .inl kk))]) F dX5_would_24 (c_X5_isIn E w 0 2 ) rfl gX5_would_X5_isIn kS_X5_isIn ⟨by decide, by decide⟩ [] rfl (by decide +kernel) rfl rfl (Nat.le_of_ble_eq_true rfl) ⟨by decide, by decide⟩ ?_
  refine g_if_eq_f (tgt := 39) F dX5_would_27 (by decide) (h1) ?_
  refine g_aload_n F dX5_would_30 rfl 0 rfl ?_
  refine g_iload_n F dX5_would_31 rfl 1 rfl ?_
  refine g_iload_n F dX5_would_32 rfl 2 rfl ?_
  refine g_callV (ws' := [(y, .inr (5, [.int 0, .ref y1, .int col, .int car, .int tur, .int pre, .ref y2, .int (nI (mFit f so m).2), .ref y3, .ref y4, .ref y5, .int ((mWeave f m car tur so pa cl he be).2.1), .ref y6, .ref y7, .int wov, .int km, .int ko, .ref y8, .ref y9])), (y1, .inl (E.2.2, 96, .inl f)), (y2, .inl (E.2.2, 6, .inl th)), (y3, .inl (E.2.2, 6, .inl (mPal f so pa m))), (y4, .inl (E.2.2, 96, .inl (mSrt f so))), (y5, .inl (E.2.2, 96, .inl ((mWeave f m car tur so pa cl he be).1))), (y6, .inl (E.2.2, 12, .inl ((mWeave f m car tur so pa cl he be).2.2.1))), (y7, .inl (E.2.2, 12, .inl ((mWeave f m car tur so pa cl he be).2.2.2))), (y8, .inl (E.2.2, 6, .inl kp)), (y9, .inl (E.2.2, 96, .inl kk))]) F dX5_would_33 (c_X5_wouldTell E y y1 y2 y3 y4 y5 y6 y7 y8 y9 f th pa so cl he be kp kk 0 col car tur pre mb off wov km ko m w (by first | assumption | decide | omega) (by first | assumption | decide | omega)) rfl gX5_would_X5_wouldTell 0 rfl rfl kV_X5_wouldTell ⟨by decide, by decide⟩ [0, 1, 2, 3, 4, 5, 6, 7, 8, 9] rfl (by decide +kernel) rfl rfl (Nat.le_of_ble_eq_true rfl) ⟨by decide, by decide⟩ ?_
  refine g_goto (tgt := 44) F dX5_would_36 (by decide) ?_
  refine g_cs (cells' := 1) (slots' := 7) (by show 0 + 1 ≤ 1; omega) (by show 0 + 7 ≤ 7; omega) ?_
  exact g_iret F hQ dX5_would_44 (rfl) (rfl)

set_option maxHeartbeats 4000000 in
set_option maxRecDepth 100000 in
theorem c_X5_would_1 (E : gE) (y : Nat) (y1 : Nat) (y2 : Nat) (y3 : Nat) (y4 : Nat) (y5 : Nat) (y6 : Nat) (y7 : Nat) (y8 : Nat) (y9 : Nat) (thr : Int32) (col : Int32) (car : Int32) (tur : Int32) (pre : Int32) (mb : Int32) (off : Int32) (wov : Int32) (km : Int32) (ko : Int32) (n : Int32) (w : Int32) (h0 : mIn n 2 6 = 0) : Ct E yX5_would wsX5_would ({ frames := 6, cells := 0, slots := 0, locals := 139 }) [.ref y, .int n, .int w] [(y, .inr (5, [.int thr, .ref y1, .int col, .int car, .int tur, .int pre, .ref y2, .int mb, .ref y3, .ref y4, .ref y5, .int off, .ref y6, .ref y7, .int wov, .int km, .int ko, .ref y8, .ref y9]))] (some (.int 0)) [(y, .inr (5, [.int 1, .ref y1, .int col, .int car, .int tur, .int pre, .ref y2, .int mb, .ref y3, .ref y4, .ref y5, .int off, .ref y6, .ref y7, .int wov, .int km, .int ko, .ref y8, .ref y9]))] := by
  refine Ct.of (cc := cX5_would) (maxL := 3) (ret := (some .int)) (own := RX5) (L := [(0, .ref y), (1, .int n), (2, .int w)]) (by decide) rfl rfl rfl (Nat.le_of_ble_eq_true rfl) rfl ?_
  intro X F hQ
  have i5 : ∀ w ∈ u_ws RX5 TX5 19, w ∈ wsX5_would := gsub [80, 81, 82, 83, 84, 85, 86, 87, 88, 89, 90, 91, 92, 93, 94, 95, 96, 97, 98] rfl
  refine g_aload_n F dX5_would_0 rfl 0 rfl ?_
  refine g_iconst (v := 0) F dX5_would_1 (by decide) ?_
  refine g_put (ws' := [(y, .inr (5, [.int 0, .ref y1, .int col, .int car, .int tur, .int pre, .ref y2, .int mb, .ref y3, .ref y4, .ref y5, .int off, .ref y6, .ref y7, .int wov, .int km, .int ko, .ref y8, .ref y9]))]) F dX5_would_2 0 rfl rfl i5 tyX5 tyX5_ok nmX5 0 (by decide) rfl (rfl) (rfl) (Nat.le_of_ble_eq_true rfl) (List.mem_of_getElem? (i := 1) rfl) rfl ?_
  refine g_iload_n F dX5_would_5 rfl 1 rfl ?_
  refine g_iconst (v := 2) F dX5_would_6 (by decide) ?_
  refine g_bipush (v := 6) F dX5_would_7 (by decide) ?_
  refine g_callS (ws' := [(y, .inr (5, [.int 0, .ref y1, .int col, .int car, .int tur, .int pre, .ref y2, .int mb, .ref y3, .ref y4, .ref y5, .int off, .ref y6, .ref y7, .int wov, .int km, .int ko, .ref y8, .ref y9]))]) F dX5_would_9 (c_X5_isIn E n 2 6 ) rfl gX5_would_X5_isIn kS_X5_isIn ⟨by decide, by decide⟩ [] rfl (by decide +kernel) rfl rfl (Nat.le_of_ble_eq_true rfl) ⟨by decide, by decide⟩ ?_
  refine g_if_ne_f (tgt := 21) F dX5_would_12 (by decide) (fun q => q h0) ?_
  refine g_aload_n F dX5_would_15 rfl 0 rfl ?_
  refine g_iconst (v := 1) F dX5_would_16 (by decide) ?_
  refine g_callV (ws' := [(y, .inr (5, [.int 1, .ref y1, .int col, .int car, .int tur, .int pre, .ref y2, .int mb, .ref y3, .ref y4, .ref y5, .int off, .ref y6, .ref y7, .int wov, .int km, .int ko, .ref y8, .ref y9]))]) F dX5_would_17 (c_X5_no E y y1 y2 y3 y4 y5 y6 y7 y8 y9 0 col car tur pre mb off wov km ko 1 ) rfl gX5_would_X5_no 0 rfl rfl kV_X5_no ⟨by decide, by decide⟩ [0] rfl (by decide +kernel) rfl rfl (Nat.le_of_ble_eq_true rfl) ⟨by decide, by decide⟩ ?_
  exact g_iret F hQ dX5_would_20 (rfl) (rfl)

set_option maxHeartbeats 4000000 in
set_option maxRecDepth 100000 in
theorem c_X5_would_2 (E : gE) (y : Nat) (y1 : Nat) (y2 : Nat) (y3 : Nat) (y4 : Nat) (y5 : Nat) (y6 : Nat) (y7 : Nat) (y8 : Nat) (y9 : Nat) (thr : Int32) (col : Int32) (car : Int32) (tur : Int32) (pre : Int32) (mb : Int32) (off : Int32) (wov : Int32) (km : Int32) (ko : Int32) (n : Int32) (w : Int32) (h0 : ¬ mIn n 2 6 = 0) (h1 : mIn w 0 2 = 0) : Ct E yX5_would wsX5_would ({ frames := 6, cells := 0, slots := 0, locals := 139 }) [.ref y, .int n, .int w] [(y, .inr (5, [.int thr, .ref y1, .int col, .int car, .int tur, .int pre, .ref y2, .int mb, .ref y3, .ref y4, .ref y5, .int off, .ref y6, .ref y7, .int wov, .int km, .int ko, .ref y8, .ref y9]))] (some (.int 0)) [(y, .inr (5, [.int 2, .ref y1, .int col, .int car, .int tur, .int pre, .ref y2, .int mb, .ref y3, .ref y4, .ref y5, .int off, .ref y6, .ref y7, .int wov, .int km, .int ko, .ref y8, .ref y9]))] := by
  refine Ct.of (cc := cX5_would) (maxL := 3) (ret := (some .int)) (own := RX5) (L := [(0, .ref y), (1, .int n), (2, .int w)]) (by decide) rfl rfl rfl (Nat.le_of_ble_eq_true rfl) rfl ?_
  intro X F hQ
  have i5 : ∀ w ∈ u_ws RX5 TX5 19, w ∈ wsX5_would := gsub [80, 81, 82, 83, 84, 85, 86, 87, 88, 89, 90, 91, 92, 93, 94, 95, 96, 97, 98] rfl
  refine g_aload_n F dX5_would_0 rfl 0 rfl ?_
  refine g_iconst (v := 0) F dX5_would_1 (by decide) ?_
  refine g_put (ws' := [(y, .inr (5, [.int 0, .ref y1, .int col, .int car, .int tur, .int pre, .ref y2, .int mb, .ref y3, .ref y4, .ref y5, .int off, .ref y6, .ref y7, .int wov, .int km, .int ko, .ref y8, .ref y9]))]) F dX5_would_2 0 rfl rfl i5 tyX5 tyX5_ok nmX5 0 (by decide) rfl (rfl) (rfl) (Nat.le_of_ble_eq_true rfl) (List.mem_of_getElem? (i := 1) rfl) rfl ?_
  refine g_iload_n F dX5_would_5 rfl 1 rfl ?_
  refine g_iconst (v := 2) F dX5_would_6 (by decide) ?_
  refine g_bipush (v := 6) F dX5_would_7 (by decide) ?_
  refine g_callS (ws' := [(y, .inr (5, [.int 0, .ref y1, .int col, .int car, .int tur, .int pre, .ref y2, .int mb, .ref y3, .ref y4, .ref y5, .int off, .ref y6, .ref y7, .int wov, .int km, .int ko, .ref y8, .ref y9]))]) F dX5_would_9 (c_X5_isIn E n 2 6 ) rfl gX5_would_X5_isIn kS_X5_isIn ⟨by decide, by decide⟩ [] rfl (by decide +kernel) rfl rfl (Nat.le_of_ble_eq_true rfl) ⟨by decide, by decide⟩ ?_
  refine g_if_ne_t (tgt := 21) F dX5_would_12 (by decide) (h0) ?_
  refine g_iload_n F dX5_would_21 rfl 2 rfl ?_
  refine g_iconst (v := 0) F dX5_would_22 (by decide) ?_
  refine g_iconst (v := 2) F dX5_would_23 (by decide) ?_
  refine g_callS (ws' := [(y, .inr (5, [.int 0, .ref y1, .int col, .int car, .int tur, .int pre, .ref y2, .int mb, .ref y3, .ref y4, .ref y5, .int off, .ref y6, .ref y7, .int wov, .int km, .int ko, .ref y8, .ref y9]))]) F dX5_would_24 (c_X5_isIn E w 0 2 ) rfl gX5_would_X5_isIn kS_X5_isIn ⟨by decide, by decide⟩ [] rfl (by decide +kernel) rfl rfl (Nat.le_of_ble_eq_true rfl) ⟨by decide, by decide⟩ ?_
  refine g_if_eq_t (tgt := 39) F dX5_would_27 (by decide) (h1) ?_
  refine g_aload_n F dX5_would_39 rfl 0 rfl ?_
  refine g_iconst (v := 2) F dX5_would_40 (by decide) ?_
  refine g_callV (ws' := [(y, .inr (5, [.int 2, .ref y1, .int col, .int car, .int tur, .int pre, .ref y2, .int mb, .ref y3, .ref y4, .ref y5, .int off, .ref y6, .ref y7, .int wov, .int km, .int ko, .ref y8, .ref y9]))]) F dX5_would_41 (c_X5_no E y y1 y2 y3 y4 y5 y6 y7 y8 y9 0 col car tur pre mb off wov km ko 2 ) rfl gX5_would_X5_no 0 rfl rfl kV_X5_no ⟨by decide, by decide⟩ [0] rfl (by decide +kernel) rfl rfl (Nat.le_of_ble_eq_true rfl) ⟨by decide, by decide⟩ ?_
  exact g_iret F hQ dX5_would_44 (rfl) (rfl)

set_option maxHeartbeats 4000000 in
set_option maxRecDepth 100000 in
theorem c_X5_advise (E : gE) (y : Nat) (y1 : Nat) (y2 : Nat) (y3 : Nat) (y4 : Nat) (y5 : Nat) (y6 : Nat) (y7 : Nat) (y8 : Nat) (y9 : Nat) (f : AF) (th : AF) (pa : AF) (so : AF) (cl : AF) (he : AF) (be : AF) (kp : AF) (kk : AF) (thr : Int32) (col : Int32) (car : Int32) (tur : Int32) (pre : Int32) (mb : Int32) (off : Int32) (wov : Int32) (km : Int32) (ko : Int32) (kn : Int32) (h0 : ¬ mIn kn 0 96 = 0) : Ct E yX5_advise wsX5_advise ({ frames := 5, cells := 5, slots := 35, locals := 117 }) [.ref y, .int kn] [(y, .inr (5, [.int thr, .ref y1, .int col, .int car, .int tur, .int pre, .ref y2, .int mb, .ref y3, .ref y4, .ref y5, .int off, .ref y6, .ref y7, .int wov, .int km, .int ko, .ref y8, .ref y9])), (y1, .inl (E.2.2, 96, .inl f)), (y2, .inl (E.2.2, 6, .inl th)), (y3, .inl (E.2.2, 6, .inl pa)), (y4, .inl (E.2.2, 96, .inl so)), (y5, .inl (E.2.2, 96, .inl cl)), (y6, .inl (E.2.2, 12, .inl he)), (y7, .inl (E.2.2, 12, .inl be)), (y8, .inl (E.2.2, 6, .inl kp)), (y9, .inl (E.2.2, 96, .inl kk))] (some (.int ((mAdv f car tur pre kn (so, mb, pa, cl, off, he, be) 5).1))) [(y, .inr (5, [.int 0, .ref y1, .int col, .int car, .int tur, .int pre, .ref y2, .int (((mAdv f car tur pre kn (so, mb, pa, cl, off, he, be) 5).2.2).2.1), .ref y3, .ref y4, .ref y5, .int (((mAdv f car tur pre kn (so, mb, pa, cl, off, he, be) 5).2.2).2.2.2.2.1), .ref y6, .ref y7, .int wov, .int km, .int ko, .ref y8, .ref y9])), (y1, .inl (E.2.2, 96, .inl f)), (y2, .inl (E.2.2, 6, .inl th)), (y3, .inl (E.2.2, 6, .inl (((mAdv f car tur pre kn (so, mb, pa, cl, off, he, be) 5).2.2).2.2.1))), (y4, .inl (E.2.2, 96, .inl (((mAdv f car tur pre kn (so, mb, pa, cl, off, he, be) 5).2.2).1))), (y5, .inl (E.2.2, 96, .inl (((mAdv f car tur pre kn (so, mb, pa, cl, off, he, be) 5).2.2).2.2.2.1))), (y6, .inl (E.2.2, 12, .inl (((mAdv f car tur pre kn (so, mb, pa, cl, off, he, be) 5).2.2).2.2.2.2.2.1))), (y7, .inl (E.2.2, 12, .inl (((mAdv f car tur pre kn (so, mb, pa, cl, off, he, be) 5).2.2).2.2.2.2.2.2))), (y8, .inl (E.2.2, 6, .inl kp)), (y9, .inl (E.2.2, 96, .inl kk))] := by
  refine Ct.of (cc := cX5_advise) (maxL := 5) (ret := (some .int)) (own := RX5) (L := [(0, .ref y), (1, .int kn)]) (by decide) rfl rfl rfl (Nat.le_of_ble_eq_true rfl) rfl ?_
  intro X F hQ
  have i5 : ∀ w ∈ u_ws RX5 TX5 19, w ∈ wsX5_advise := gsub [76, 77, 78, 79, 80, 81, 82, 83, 84, 85, 86, 87, 88, 89, 90, 91, 92, 93, 94] rfl
  refine g_aload_n F dX5_advise_0 rfl 0 rfl ?_
  refine g_iconst (v := 0) F dX5_advise_1 (by decide) ?_
  refine g_put (ws' := [(y, .inr (5, [.int 0, .ref y1, .int col, .int car, .int tur, .int pre, .ref y2, .int mb, .ref y3, .ref y4, .ref y5, .int off, .ref y6, .ref y7, .int wov, .int km, .int ko, .ref y8, .ref y9])), (y1, .inl (E.2.2, 96, .inl f)), (y2, .inl (E.2.2, 6, .inl th)), (y3, .inl (E.2.2, 6, .inl pa)), (y4, .inl (E.2.2, 96, .inl so)), (y5, .inl (E.2.2, 96, .inl cl)), (y6, .inl (E.2.2, 12, .inl he)), (y7, .inl (E.2.2, 12, .inl be)), (y8, .inl (E.2.2, 6, .inl kp)), (y9, .inl (E.2.2, 96, .inl kk))]) F dX5_advise_2 0 rfl rfl i5 tyX5 tyX5_ok nmX5 0 (by decide) rfl (rfl) (rfl) (Nat.le_of_ble_eq_true rfl) (List.mem_of_getElem? (i := 1) rfl) rfl ?_
  refine g_iload_n F dX5_advise_5 rfl 1 rfl ?_
  refine g_iconst (v := 0) F dX5_advise_6 (by decide) ?_
  refine g_bipush (v := 96) F dX5_advise_7 (by decide) ?_
  refine g_callS (ws' := [(y, .inr (5, [.int 0, .ref y1, .int col, .int car, .int tur, .int pre, .ref y2, .int mb, .ref y3, .ref y4, .ref y5, .int off, .ref y6, .ref y7, .int wov, .int km, .int ko, .ref y8, .ref y9])), (y1, .inl (E.2.2, 96, .inl f)), (y2, .inl (E.2.2, 6, .inl th)), (y3, .inl (E.2.2, 6, .inl pa)), (y4, .inl (E.2.2, 96, .inl so)), (y5, .inl (E.2.2, 96, .inl cl)), (y6, .inl (E.2.2, 12, .inl he)), (y7, .inl (E.2.2, 12, .inl be)), (y8, .inl (E.2.2, 6, .inl kp)), (y9, .inl (E.2.2, 96, .inl kk))]) F dX5_advise_9 (c_X5_isIn E kn 0 96 ) rfl gX5_advise_X5_isIn kS_X5_isIn ⟨by decide, by decide⟩ [] rfl (by decide +kernel) rfl rfl (Nat.le_of_ble_eq_true rfl) ⟨by decide, by decide⟩ ?_
  refine g_if_ne_t (tgt := 21) F dX5_advise_12 (by decide) (h0) ?_
  refine g_iconst (v := (-1)) F dX5_advise_21 (by decide) ?_
  refine g_istore_n (L' := [(0, .ref y), (1, .int kn), (2, .int (-1))]) F dX5_advise_22 rfl (by decide) [1, 2, 0] rfl ?_
  refine g_iconst (v := 0) F dX5_advise_23 (by decide) ?_
  refine g_istore_n (L' := [(0, .ref y), (1, .int kn), (2, .int (-1)), (3, .int 0)]) F dX5_advise_24 rfl (by decide) [1, 2, 3, 0] rfl ?_
  refine g_iconst (v := 2) F dX5_advise_25 (by decide) ?_
  refine g_istore (L' := [(0, .ref y), (1, .int kn), (2, .int (-1)), (3, .int 0), (4, .int 2)]) F dX5_advise_26 (by decide) [1, 2, 3, 4, 0] rfl ?_
  have lp28 : ∀ (n28 i28 : Nat), i28 + n28 = 5 → G E X i28 (7 * i28) 28 [(0, .ref y), (1, .int kn), (2, .int ((mAdv f car tur pre kn (so, mb, pa, cl, off, he, be) i28).1)), (3, .int ((mAdv f car tur pre kn (so, mb, pa, cl, off, he, be) i28).2.1)), (4, .int (nI (i28 + 2)))] [] [(y, .inr (5, [.int 0, .ref y1, .int col, .int car, .int tur, .int pre, .ref y2, .int (((mAdv f car tur pre kn (so, mb, pa, cl, off, he, be) i28).2.2).2.1), .ref y3, .ref y4, .ref y5, .int (((mAdv f car tur pre kn (so, mb, pa, cl, off, he, be) i28).2.2).2.2.2.2.1), .ref y6, .ref y7, .int wov, .int km, .int ko, .ref y8, .ref y9])), (y1, .inl (E.2.2, 96, .inl f)), (y2, .inl (E.2.2, 6, .inl th)), (y3, .inl (E.2.2, 6, .inl (((mAdv f car tur pre kn (so, mb, pa, cl, off, he, be) i28).2.2).2.2.1))), (y4, .inl (E.2.2, 96, .inl (((mAdv f car tur pre kn (so, mb, pa, cl, off, he, be) i28).2.2).1))), (y5, .inl (E.2.2, 96, .inl (((mAdv f car tur pre kn (so, mb, pa, cl, off, he, be) i28).2.2).2.2.2.1))), (y6, .inl (E.2.2, 12, .inl (((mAdv f car tur pre kn (so, mb, pa, cl, off, he, be) i28).2.2).2.2.2.2.2.1))), (y7, .inl (E.2.2, 12, .inl (((mAdv f car tur pre kn (so, mb, pa, cl, off, he, be) i28).2.2).2.2.2.2.2.2))), (y8, .inl (E.2.2, 6, .inl kp)), (y9, .inl (E.2.2, 96, .inl kk))] := by
    intro n28
    induction n28 with
    | zero =>
      intro i28 hi28
      have he28 : i28 = 5 := by omega
      rw [he28]
      refine g_iload F dX5_advise_28 4 rfl ?_
      refine g_bipush (v := 6) F dX5_advise_30 (by decide) ?_
      refine g_icmp_gt_t (tgt := 83) F dX5_advise_32 (by decide) (by decide) ?_
      refine g_iload_n F dX5_advise_83 rfl 2 rfl ?_
      refine g_cs (cells' := 5) (slots' := 35) (by show 5 ≤ 5; omega) (by show 7 * 5 ≤ 35; omega) ?_
      exact g_iret F hQ dX5_advise_84 (rfl) (rfl)
    | succ n28 ih28 =>
      intro i28 hi28
      have hl28 : i28 < 5 := by omega
      refine g_iload F dX5_advise_28 4 rfl ?_
      refine g_bipush (v := 6) F dX5_advise_30 (by decide) ?_
      refine g_icmp_gt_f (tgt := 83) F dX5_advise_32 (by decide) (nI_nlt (a := 6) (by omega) (by omega)) ?_
      refine g_aload_n F dX5_advise_35 rfl 0 rfl ?_
      refine g_iload F dX5_advise_36 4 rfl ?_
      refine g_callV (ws' := [(y, .inr (5, [.int 0, .ref y1, .int col, .int car, .int tur, .int pre, .ref y2, .int (nI (mFit f (((mAdv f car tur pre kn (so, mb, pa, cl, off, he, be) i28).2.2).1) (i28 + 2)).2), .ref y3, .ref y4, .ref y5, .int ((mWeave f (i28 + 2) car tur (((mAdv f car tur pre kn (so, mb, pa, cl, off, he, be) i28).2.2).1) (((mAdv f car tur pre kn (so, mb, pa, cl, off, he, be) i28).2.2).2.2.1) (((mAdv f car tur pre kn (so, mb, pa, cl, off, he, be) i28).2.2).2.2.2.1) (((mAdv f car tur pre kn (so, mb, pa, cl, off, he, be) i28).2.2).2.2.2.2.2.1) (((mAdv f car tur pre kn (so, mb, pa, cl, off, he, be) i28).2.2).2.2.2.2.2.2)).2.1), .ref y6, .ref y7, .int wov, .int km, .int ko, .ref y8, .ref y9])), (y1, .inl (E.2.2, 96, .inl f)), (y2, .inl (E.2.2, 6, .inl th)), (y3, .inl (E.2.2, 6, .inl (mPal f (((mAdv f car tur pre kn (so, mb, pa, cl, off, he, be) i28).2.2).1) (((mAdv f car tur pre kn (so, mb, pa, cl, off, he, be) i28).2.2).2.2.1) (i28 + 2)))), (y4, .inl (E.2.2, 96, .inl (mSrt f (((mAdv f car tur pre kn (so, mb, pa, cl, off, he, be) i28).2.2).1)))), (y5, .inl (E.2.2, 96, .inl ((mWeave f (i28 + 2) car tur (((mAdv f car tur pre kn (so, mb, pa, cl, off, he, be) i28).2.2).1) (((mAdv f car tur pre kn (so, mb, pa, cl, off, he, be) i28).2.2).2.2.1) (((mAdv f car tur pre kn (so, mb, pa, cl, off, he, be) i28).2.2).2.2.2.1) (((mAdv f car tur pre kn (so, mb, pa, cl, off, he, be) i28).2.2).2.2.2.2.2.1) (((mAdv f car tur pre kn (so, mb, pa, cl, off, he, be) i28).2.2).2.2.2.2.2.2)).1))), (y6, .inl (E.2.2, 12, .inl ((mWeave f (i28 + 2) car tur (((mAdv f car tur pre kn (so, mb, pa, cl, off, he, be) i28).2.2).1) (((mAdv f car tur pre kn (so, mb, pa, cl, off, he, be) i28).2.2).2.2.1) (((mAdv f car tur pre kn (so, mb, pa, cl, off, he, be) i28).2.2).2.2.2.1) (((mAdv f car tur pre kn (so, mb, pa, cl, off, he, be) i28).2.2).2.2.2.2.2.1) (((mAdv f car tur pre kn (so, mb, pa, cl, off, he, be) i28).2.2).2.2.2.2.2.2)).2.2.1))), (y7, .inl (E.2.2, 12, .inl ((mWeave f (i28 + 2) car tur (((mAdv f car tur pre kn (so, mb, pa, cl, off, he, be) i28).2.2).1) (((mAdv f car tur pre kn (so, mb, pa, cl, off, he, be) i28).2.2).2.2.1) (((mAdv f car tur pre kn (so, mb, pa, cl, off, he, be) i28).2.2).2.2.2.1) (((mAdv f car tur pre kn (so, mb, pa, cl, off, he, be) i28).2.2).2.2.2.2.2.1) (((mAdv f car tur pre kn (so, mb, pa, cl, off, he, be) i28).2.2).2.2.2.2.2.2)).2.2.2))), (y8, .inl (E.2.2, 6, .inl kp)), (y9, .inl (E.2.2, 96, .inl kk))]) F dX5_advise_38 (c_X5_weaveOn E y y1 y2 y3 y4 y5 y6 y7 y8 y9 f th (((mAdv f car tur pre kn (so, mb, pa, cl, off, he, be) i28).2.2).2.2.1) (((mAdv f car tur pre kn (so, mb, pa, cl, off, he, be) i28).2.2).1) (((mAdv f car tur pre kn (so, mb, pa, cl, off, he, be) i28).2.2).2.2.2.1) (((mAdv f car tur pre kn (so, mb, pa, cl, off, he, be) i28).2.2).2.2.2.2.2.1) (((mAdv f car tur pre kn (so, mb, pa, cl, off, he, be) i28).2.2).2.2.2.2.2.2) kp kk 0 col car tur pre (((mAdv f car tur pre kn (so, mb, pa, cl, off, he, be) i28).2.2).2.1) (((mAdv f car tur pre kn (so, mb, pa, cl, off, he, be) i28).2.2).2.2.2.2.1) wov km ko (i28 + 2) (by first | assumption | decide | omega) (by first | assumption | decide | omega)) rfl gX5_advise_X5_weaveOn 0 rfl rfl kV_X5_weaveOn ⟨by decide, by decide⟩ [0, 1, 2, 3, 4, 5, 6, 7, 8, 9] rfl (by decide +kernel) rfl rfl (Nat.le_of_ble_eq_true rfl) ⟨by show i28 + 1 ≤ 5; omega, by show 7 * i28 + 7 ≤ 35; omega⟩ ?_
      refine g_ws (ws' := [(y, .inr (5, [.int 0, .ref y1, .int col, .int car, .int tur, .int pre, .ref y2, .int ((mOn f (i28 + 2) car tur (mAdv f car tur pre kn (so, mb, pa, cl, off, he, be) i28).2.2).2.1), .ref y3, .ref y4, .ref y5, .int ((mOn f (i28 + 2) car tur (mAdv f car tur pre kn (so, mb, pa, cl, off, he, be) i28).2.2).2.2.2.2.1), .ref y6, .ref y7, .int wov, .int km, .int ko, .ref y8, .ref y9])), (y1, .inl (E.2.2, 96, .inl f)), (y2, .inl (E.2.2, 6, .inl th)), (y3, .inl (E.2.2, 6, .inl ((mOn f (i28 + 2) car tur (mAdv f car tur pre kn (so, mb, pa, cl, off, he, be) i28).2.2).2.2.1))), (y4, .inl (E.2.2, 96, .inl ((mOn f (i28 + 2) car tur (mAdv f car tur pre kn (so, mb, pa, cl, off, he, be) i28).2.2).1))), (y5, .inl (E.2.2, 96, .inl ((mOn f (i28 + 2) car tur (mAdv f car tur pre kn (so, mb, pa, cl, off, he, be) i28).2.2).2.2.2.1))), (y6, .inl (E.2.2, 12, .inl ((mOn f (i28 + 2) car tur (mAdv f car tur pre kn (so, mb, pa, cl, off, he, be) i28).2.2).2.2.2.2.2.1))), (y7, .inl (E.2.2, 12, .inl ((mOn f (i28 + 2) car tur (mAdv f car tur pre kn (so, mb, pa, cl, off, he, be) i28).2.2).2.2.2.2.2.2))), (y8, .inl (E.2.2, 6, .inl kp)), (y9, .inl (E.2.2, 96, .inl kk))]) (by simp only [mOn]) ?_
      refine g_aload_n F dX5_advise_41 rfl 0 rfl ?_
      refine g_aload_n F dX5_advise_42 rfl 0 rfl ?_
      refine g_get F dX5_advise_43 0 rfl rfl i5 10 (by decide) rfl (List.mem_of_getElem? (i := 2) rfl) ?_
      refine g_callV (ws' := [(y, .inr (5, [.int 0, .ref y1, .int col, .int car, .int tur, .int pre, .ref y2, .int ((mOn f (i28 + 2) car tur (mAdv f car tur pre kn (so, mb, pa, cl, off, he, be) i28).2.2).2.1), .ref y3, .ref y4, .ref y5, .int ((mOn f (i28 + 2) car tur (mAdv f car tur pre kn (so, mb, pa, cl, off, he, be) i28).2.2).2.2.2.2.1), .ref y6, .ref y7, .int wov, .int km, .int ko, .ref y8, .ref y9])), (y1, .inl (E.2.2, 96, .inl f)), (y2, .inl (E.2.2, 6, .inl th)), (y3, .inl (E.2.2, 6, .inl ((mOn f (i28 + 2) car tur (mAdv f car tur pre kn (so, mb, pa, cl, off, he, be) i28).2.2).2.2.1))), (y4, .inl (E.2.2, 96, .inl ((mOn f (i28 + 2) car tur (mAdv f car tur pre kn (so, mb, pa, cl, off, he, be) i28).2.2).1))), (y5, .inl (E.2.2, 96, .inl ((mOn f (i28 + 2) car tur (mAdv f car tur pre kn (so, mb, pa, cl, off, he, be) i28).2.2).2.2.2.1))), (y6, .inl (E.2.2, 12, .inl ((mOn f (i28 + 2) car tur (mAdv f car tur pre kn (so, mb, pa, cl, off, he, be) i28).2.2).2.2.2.2.2.1))), (y7, .inl (E.2.2, 12, .inl ((mOn f (i28 + 2) car tur (mAdv f car tur pre kn (so, mb, pa, cl, off, he, be) i28).2.2).2.2.2.2.2.2))), (y8, .inl (E.2.2, 6, .inl kp)), (y9, .inl (E.2.2, 96, .inl kk))]) F dX5_advise_46 (c_X5_allKnots E y y1 y2 y3 y4 y5 y6 y7 y8 y9 y5 ((mOn f (i28 + 2) car tur (mAdv f car tur pre kn (so, mb, pa, cl, off, he, be) i28).2.2).2.2.2.1) 0 col car tur pre ((mOn f (i28 + 2) car tur (mAdv f car tur pre kn (so, mb, pa, cl, off, he, be) i28).2.2).2.1) ((mOn f (i28 + 2) car tur (mAdv f car tur pre kn (so, mb, pa, cl, off, he, be) i28).2.2).2.2.2.2.1) wov km ko ) rfl gX5_advise_X5_allKnots 0 rfl rfl kV_X5_allKnots ⟨by decide, by decide⟩ [0, 5] rfl (by decide +kernel) rfl rfl (Nat.le_of_ble_eq_true rfl) ⟨by show i28 + 1 + 0 ≤ 5; omega, by show 7 * i28 + 7 + 0 ≤ 35; omega⟩ ?_
      refine g_topr (y := mAK (wsCl (mOn f (i28 + 2) car tur (mAdv f car tur pre kn (so, mb, pa, cl, off, he, be) i28).2.2)) pre 8) (rfl) ?_
      refine g_iload_n F dX5_advise_49 rfl 1 rfl ?_
      refine g_icmp_gt (tgt := 77) F dX5_advise_50 (by decide) (fun k50 => ?_) (fun k50 => ?_)
      · skip
        refine g_iinc (L' := [(0, .ref y), (1, .int kn), (2, .int ((mAdv f car tur pre kn (so, mb, pa, cl, off, he, be) i28).1)), (3, .int ((mAdv f car tur pre kn (so, mb, pa, cl, off, he, be) i28).2.1)), (4, .int (nI (i28 + 2 + 1)))]) (v := nI (i28 + 2 + 1)) F dX5_advise_77 4 rfl (nI_1 _) (by decide) [1, 2, 3, 4, 0] rfl ?_
        refine g_goto (tgt := 28) F dX5_advise_80 (by decide) ?_
        refine g_cs (cells' := (i28 + 1)) (slots' := (7 * (i28 + 1))) (by show i28 + 1 ≤ (i28 + 1); omega) (by show 7 * i28 + 7 ≤ 7 * (i28 + 1); omega) ?_
        have q := ih28 (i28 + 1) (by omega)
        first | rw [mAdv_s4 k50 k55 k63] at q | rw [mAdv_s3 k50 k55 k63] at q | rw [mAdv_s2 k50 k55] at q | rw [mAdv_s1 k50] at q
        exact q
      · skip
        refine g_iload_n F dX5_advise_53 rfl 2 rfl ?_
        refine g_iconst (v := (-1)) F dX5_advise_54 (by decide) ?_
        refine g_icmp_eq (tgt := 69) F dX5_advise_55 (by decide) (fun k55 => ?_) (fun k55 => ?_)
        · skip
          refine g_iload F dX5_advise_69 4 rfl ?_
          refine g_istore_n (L' := [(0, .ref y), (1, .int kn), (2, .int (nI (i28 + 2))), (3, .int ((mAdv f car tur pre kn (so, mb, pa, cl, off, he, be) i28).2.1)), (4, .int (nI (i28 + 2)))]) F dX5_advise_71 rfl (by decide) [1, 2, 0, 3, 4] rfl ?_
          refine g_aload_n F dX5_advise_72 rfl 0 rfl ?_
          refine g_get F dX5_advise_73 0 rfl rfl i5 11 (by decide) rfl (List.mem_of_getElem? (i := 3) rfl) ?_
          refine g_topr (y := wsOff (mOn f (i28 + 2) car tur (mAdv f car tur pre kn (so, mb, pa, cl, off, he, be) i28).2.2)) (rfl) ?_
          refine g_istore_n (L' := [(0, .ref y), (1, .int kn), (2, .int (nI (i28 + 2))), (3, .int (wsOff (mOn f (i28 + 2) car tur (mAdv f car tur pre kn (so, mb, pa, cl, off, he, be) i28).2.2))), (4, .int (nI (i28 + 2)))]) F dX5_advise_76 rfl (by decide) [1, 2, 3, 0, 4] rfl ?_
          refine g_iinc (L' := [(0, .ref y), (1, .int kn), (2, .int (nI (i28 + 2))), (3, .int (wsOff (mOn f (i28 + 2) car tur (mAdv f car tur pre kn (so, mb, pa, cl, off, he, be) i28).2.2))), (4, .int (nI (i28 + 2 + 1)))]) (v := nI (i28 + 2 + 1)) F dX5_advise_77 4 rfl (nI_1 _) (by decide) [1, 2, 3, 4, 0] rfl ?_
          refine g_goto (tgt := 28) F dX5_advise_80 (by decide) ?_
          refine g_cs (cells' := (i28 + 1)) (slots' := (7 * (i28 + 1))) (by show i28 + 1 ≤ (i28 + 1); omega) (by show 7 * i28 + 7 ≤ 7 * (i28 + 1); omega) ?_
          have q := ih28 (i28 + 1) (by omega)
          first | rw [mAdv_s4 k50 k55 k63] at q | rw [mAdv_s3 k50 k55 k63] at q | rw [mAdv_s2 k50 k55] at q | rw [mAdv_s1 k50] at q
          exact q
        · skip
          refine g_aload_n F dX5_advise_58 rfl 0 rfl ?_
          refine g_get F dX5_advise_59 0 rfl rfl i5 11 (by decide) rfl (List.mem_of_getElem? (i := 3) rfl) ?_
          refine g_topr (y := wsOff (mOn f (i28 + 2) car tur (mAdv f car tur pre kn (so, mb, pa, cl, off, he, be) i28).2.2)) (rfl) ?_
          refine g_iload_n F dX5_advise_62 rfl 3 rfl ?_
          refine g_icmp_lt (tgt := 69) F dX5_advise_63 (by decide) (fun k63 => ?_) (fun k63 => ?_)
          · skip
            refine g_iload F dX5_advise_69 4 rfl ?_
            refine g_istore_n (L' := [(0, .ref y), (1, .int kn), (2, .int (nI (i28 + 2))), (3, .int ((mAdv f car tur pre kn (so, mb, pa, cl, off, he, be) i28).2.1)), (4, .int (nI (i28 + 2)))]) F dX5_advise_71 rfl (by decide) [1, 2, 0, 3, 4] rfl ?_
            refine g_aload_n F dX5_advise_72 rfl 0 rfl ?_
            refine g_get F dX5_advise_73 0 rfl rfl i5 11 (by decide) rfl (List.mem_of_getElem? (i := 3) rfl) ?_
            refine g_topr (y := wsOff (mOn f (i28 + 2) car tur (mAdv f car tur pre kn (so, mb, pa, cl, off, he, be) i28).2.2)) (rfl) ?_
            refine g_istore_n (L' := [(0, .ref y), (1, .int kn), (2, .int (nI (i28 + 2))), (3, .int (wsOff (mOn f (i28 + 2) car tur (mAdv f car tur pre kn (so, mb, pa, cl, off, he, be) i28).2.2))), (4, .int (nI (i28 + 2)))]) F dX5_advise_76 rfl (by decide) [1, 2, 3, 0, 4] rfl ?_
            refine g_iinc (L' := [(0, .ref y), (1, .int kn), (2, .int (nI (i28 + 2))), (3, .int (wsOff (mOn f (i28 + 2) car tur (mAdv f car tur pre kn (so, mb, pa, cl, off, he, be) i28).2.2))), (4, .int (nI (i28 + 2 + 1)))]) (v := nI (i28 + 2 + 1)) F dX5_advise_77 4 rfl (nI_1 _) (by decide) [1, 2, 3, 4, 0] rfl ?_
            refine g_goto (tgt := 28) F dX5_advise_80 (by decide) ?_
            refine g_cs (cells' := (i28 + 1)) (slots' := (7 * (i28 + 1))) (by show i28 + 1 ≤ (i28 + 1); omega) (by show 7 * i28 + 7 ≤ 7 * (i28 + 1); omega) ?_
            have q := ih28 (i28 + 1) (by omega)
            first | rw [mAdv_s4 k50 k55 k63] at q | rw [mAdv_s3 k50 k55 k63] at q | rw [mAdv_s2 k50 k55] at q | rw [mAdv_s1 k50] at q
            exact q
          · skip
            refine g_goto (tgt := 77) F dX5_advise_66 (by decide) ?_
            refine g_iinc (L' := [(0, .ref y), (1, .int kn), (2, .int ((mAdv f car tur pre kn (so, mb, pa, cl, off, he, be) i28).1)), (3, .int ((mAdv f car tur pre kn (so, mb, pa, cl, off, he, be) i28).2.1)), (4, .int (nI (i28 + 2 + 1)))]) (v := nI (i28 + 2 + 1)) F dX5_advise_77 4 rfl (nI_1 _) (by decide) [1, 2, 3, 4, 0] rfl ?_
            refine g_goto (tgt := 28) F dX5_advise_80 (by decide) ?_
            refine g_cs (cells' := (i28 + 1)) (slots' := (7 * (i28 + 1))) (by show i28 + 1 ≤ (i28 + 1); omega) (by show 7 * i28 + 7 ≤ 7 * (i28 + 1); omega) ?_
            have q := ih28 (i28 + 1) (by omega)
            first | rw [mAdv_s4 k50 k55 k63] at q | rw [mAdv_s3 k50 k55 k63] at q | rw [mAdv_s2 k50 k55] at q | rw [mAdv_s1 k50] at q
            exact q
  refine g_cs (cells' := 0) (slots' := (7 * 0)) (by show 0 ≤ 0; omega) (by show 0 ≤ 7 * 0; omega) ?_
  exact lp28 5 0 (by omega)

set_option maxHeartbeats 4000000 in
set_option maxRecDepth 100000 in
theorem c_X5_digest (E : gE) (y : Nat) (y1 : Nat) (y2 : Nat) (y3 : Nat) (y4 : Nat) (y5 : Nat) (y6 : Nat) (y7 : Nat) (y8 : Nat) (y9 : Nat) (f : AF) (th : AF) (kp : AF) (kk : AF) (thr : Int32) (col : Int32) (car : Int32) (tur : Int32) (pre : Int32) (mb : Int32) (off : Int32) (wov : Int32) (ko : Int32) (kq : Nat) (hq : kq ≤ 6) : Ct E yX5_digest wsX5_digest ({ frames := 6, cells := 0, slots := 0, locals := 138 }) [.ref y] [(y, .inr (5, [.int thr, .ref y1, .int col, .int car, .int tur, .int pre, .ref y2, .int mb, .ref y3, .ref y4, .ref y5, .int off, .ref y6, .ref y7, .int wov, .int (nI kq), .int ko, .ref y8, .ref y9])), (y1, .inl (E.2.2, 96, .inl f)), (y2, .inl (E.2.2, 6, .inl th)), (y8, .inl (E.2.2, 6, .inl kp)), (y9, .inl (E.2.2, 96, .inl kk))] (some (.long (mDgT (mCnt col car tur pre wov ko th kk) f th kp kk kq wov))) [(y, .inr (5, [.int 0, .ref y1, .int col, .int car, .int tur, .int pre, .ref y2, .int mb, .ref y3, .ref y4, .ref y5, .int off, .ref y6, .ref y7, .int wov, .int (nI kq), .int ko, .ref y8, .ref y9])), (y1, .inl (E.2.2, 96, .inl f)), (y2, .inl (E.2.2, 6, .inl th)), (y8, .inl (E.2.2, 6, .inl kp)), (y9, .inl (E.2.2, 96, .inl kk))] := by
  refine Ct.of (cc := cX5_digest) (maxL := 7) (ret := (some .long)) (own := RX5) (L := [(0, .ref y)]) (by decide) rfl rfl rfl (Nat.le_of_ble_eq_true rfl) rfl ?_
  intro X F hQ
  have i5 : ∀ w ∈ u_ws RX5 TX5 19, w ∈ wsX5_digest := gsub [40, 41, 42, 43, 44, 45, 46, 47, 48, 49, 50, 51, 52, 53, 54, 55, 56, 57, 58] rfl
  refine g_aload_n F dX5_digest_0 rfl 0 rfl ?_
  refine g_iconst (v := 0) F dX5_digest_1 (by decide) ?_
  refine g_put (ws' := [(y, .inr (5, [.int 0, .ref y1, .int col, .int car, .int tur, .int pre, .ref y2, .int mb, .ref y3, .ref y4, .ref y5, .int off, .ref y6, .ref y7, .int wov, .int (nI kq), .int ko, .ref y8, .ref y9])), (y1, .inl (E.2.2, 96, .inl f)), (y2, .inl (E.2.2, 6, .inl th)), (y8, .inl (E.2.2, 6, .inl kp)), (y9, .inl (E.2.2, 96, .inl kk))]) F dX5_digest_2 0 rfl rfl i5 tyX5 tyX5_ok nmX5 0 (by decide) rfl (rfl) (rfl) (Nat.le_of_ble_eq_true rfl) (List.mem_of_getElem? (i := 1) rfl) rfl ?_
  refine g_ldc2l (v := 1549) F dX5_digest_5 (List.mem_of_getElem? (i := 2) rfl) ?_
  refine g_lstore_n (L' := [(0, .ref y), (1, .long 1549)]) F dX5_digest_8 rfl (by decide) [1, 0] rfl ?_
  refine g_iconst (v := 0) F dX5_digest_9 (by decide) ?_
  refine g_istore_n (L' := [(0, .ref y), (1, .long 1549), (3, .int 0)]) F dX5_digest_10 rfl (by decide) [1, 2, 0] rfl ?_
  have lp11 : ∀ (n11 i11 : Nat), i11 + n11 = 8 → G E X 0 0 11 [(0, .ref y), (1, .long (mDg8 (mCnt col car tur pre wov ko th kk) i11)), (3, .int (nI i11))] [] [(y, .inr (5, [.int 0, .ref y1, .int col, .int car, .int tur, .int pre, .ref y2, .int mb, .ref y3, .ref y4, .ref y5, .int off, .ref y6, .ref y7, .int wov, .int (nI kq), .int ko, .ref y8, .ref y9])), (y1, .inl (E.2.2, 96, .inl f)), (y2, .inl (E.2.2, 6, .inl th)), (y8, .inl (E.2.2, 6, .inl kp)), (y9, .inl (E.2.2, 96, .inl kk))] := by
    intro n11
    induction n11 with
    | zero =>
      intro i11 hi11
      have he11 : i11 = 8 := by omega
      rw [he11]
      refine g_iload_n F dX5_digest_11 rfl 2 rfl ?_
      refine g_bipush (v := 7) F dX5_digest_12 (by decide) ?_
      refine g_icmp_gt_t (tgt := 36) F dX5_digest_14 (by decide) (by decide) ?_
      refine g_aload_n F dX5_digest_36 rfl 0 rfl ?_
      refine g_get F dX5_digest_37 0 rfl rfl i5 1 (by decide) rfl (List.mem_of_getElem? (i := 4) rfl) ?_
      refine g_astore_n (L' := [(0, .ref y), (1, .long (mDg8 (mCnt col car tur pre wov ko th kk) 8)), (3, .ref y1)]) F dX5_digest_40 rfl (by decide) [1, 2, 0] rfl ?_
      refine g_aload_n F dX5_digest_41 rfl 2 rfl ?_
      refine g_alen (v := 96) F dX5_digest_42 1 rfl rfl ?_
      refine g_istore (L' := [(0, .ref y), (1, .long (mDg8 (mCnt col car tur pre wov ko th kk) 8)), (3, .ref y1), (4, .int 96)]) F dX5_digest_43 (by decide) [1, 2, 3, 0] rfl ?_
      refine g_iconst (v := 0) F dX5_digest_45 (by decide) ?_
      refine g_istore (L' := [(0, .ref y), (1, .long (mDg8 (mCnt col car tur pre wov ko th kk) 8)), (3, .ref y1), (4, .int 96), (5, .int 0)]) F dX5_digest_46 (by decide) [1, 2, 3, 4, 0] rfl ?_
      have lp48 : ∀ (n48 i48 : Nat), i48 + n48 = 96 → G E X 0 0 48 [(0, .ref y), (1, .long (mDgF f (mDg8 (mCnt col car tur pre wov ko th kk) 8) i48)), (3, .ref y1), (4, .int 96), (5, .int (nI i48))] [] [(y, .inr (5, [.int 0, .ref y1, .int col, .int car, .int tur, .int pre, .ref y2, .int mb, .ref y3, .ref y4, .ref y5, .int off, .ref y6, .ref y7, .int wov, .int (nI kq), .int ko, .ref y8, .ref y9])), (y1, .inl (E.2.2, 96, .inl f)), (y2, .inl (E.2.2, 6, .inl th)), (y8, .inl (E.2.2, 6, .inl kp)), (y9, .inl (E.2.2, 96, .inl kk))] := by
        intro n48
        induction n48 with
        | zero =>
          intro i48 hi48
          have he48 : i48 = 96 := by omega
          rw [he48]
          refine g_iload F dX5_digest_48 4 rfl ?_
          refine g_iload F dX5_digest_50 3 rfl ?_
          refine g_icmp_ge_t (tgt := 77) F dX5_digest_52 (by decide) (by decide) ?_
          refine g_aload_n F dX5_digest_77 rfl 0 rfl ?_
          refine g_get F dX5_digest_78 0 rfl rfl i5 6 (by decide) rfl (List.mem_of_getElem? (i := 5) rfl) ?_
          refine g_astore_n (L' := [(0, .ref y), (1, .long (mDgF f (mDg8 (mCnt col car tur pre wov ko th kk) 8) 96)), (3, .ref y2), (4, .int 96), (5, .int (nI 96))]) F dX5_digest_81 rfl (by decide) [1, 2, 0, 3, 4] rfl ?_
          refine g_aload_n F dX5_digest_82 rfl 2 rfl ?_
          refine g_alen (v := 6) F dX5_digest_83 2 rfl rfl ?_
          refine g_istore (L' := [(0, .ref y), (1, .long (mDgF f (mDg8 (mCnt col car tur pre wov ko th kk) 8) 96)), (3, .ref y2), (4, .int 6), (5, .int (nI 96))]) F dX5_digest_84 (by decide) [1, 2, 3, 0, 4] rfl ?_
          refine g_iconst (v := 0) F dX5_digest_86 (by decide) ?_
          refine g_istore (L' := [(0, .ref y), (1, .long (mDgF f (mDg8 (mCnt col car tur pre wov ko th kk) 8) 96)), (3, .ref y2), (4, .int 6), (5, .int 0)]) F dX5_digest_87 (by decide) [1, 2, 3, 4, 0] rfl ?_
          have lp89 : ∀ (n89 i89 : Nat), i89 + n89 = 6 → G E X 0 0 89 [(0, .ref y), (1, .long (mDgF th (mDgF f (mDg8 (mCnt col car tur pre wov ko th kk) 8) 96) i89)), (3, .ref y2), (4, .int 6), (5, .int (nI i89))] [] [(y, .inr (5, [.int 0, .ref y1, .int col, .int car, .int tur, .int pre, .ref y2, .int mb, .ref y3, .ref y4, .ref y5, .int off, .ref y6, .ref y7, .int wov, .int (nI kq), .int ko, .ref y8, .ref y9])), (y1, .inl (E.2.2, 96, .inl f)), (y2, .inl (E.2.2, 6, .inl th)), (y8, .inl (E.2.2, 6, .inl kp)), (y9, .inl (E.2.2, 96, .inl kk))] := by
            intro n89
            induction n89 with
            | zero =>
              intro i89 hi89
              have he89 : i89 = 6 := by omega
              rw [he89]
              refine g_iload F dX5_digest_89 4 rfl ?_
              refine g_iload F dX5_digest_91 3 rfl ?_
              refine g_icmp_ge_t (tgt := 118) F dX5_digest_93 (by decide) (by decide) ?_
              refine g_iconst (v := 0) F dX5_digest_118 (by decide) ?_
              refine g_istore_n (L' := [(0, .ref y), (1, .long (mDgF th (mDgF f (mDg8 (mCnt col car tur pre wov ko th kk) 8) 96) 6)), (3, .int 0), (4, .int 6), (5, .int (nI 6))]) F dX5_digest_119 rfl (by decide) [1, 2, 0, 3, 4] rfl ?_
              have lp120 : ∀ (n120 i120 : Nat), i120 + n120 = kq → G E X 0 0 120 [(0, .ref y), (1, .long (mDgF kp (mDgF th (mDgF f (mDg8 (mCnt col car tur pre wov ko th kk) 8) 96) 6) i120)), (3, .int (nI i120))] [] [(y, .inr (5, [.int 0, .ref y1, .int col, .int car, .int tur, .int pre, .ref y2, .int mb, .ref y3, .ref y4, .ref y5, .int off, .ref y6, .ref y7, .int wov, .int (nI kq), .int ko, .ref y8, .ref y9])), (y1, .inl (E.2.2, 96, .inl f)), (y2, .inl (E.2.2, 6, .inl th)), (y8, .inl (E.2.2, 6, .inl kp)), (y9, .inl (E.2.2, 96, .inl kk))] := by
                intro n120
                induction n120 with
                | zero =>
                  intro i120 hi120
                  have he120 : i120 = kq := by omega
                  rw [he120]
                  refine g_iload_n F dX5_digest_120 rfl 2 rfl ?_
                  refine g_aload_n F dX5_digest_121 rfl 0 rfl ?_
                  refine g_get F dX5_digest_122 0 rfl rfl i5 15 (by decide) rfl (List.mem_of_getElem? (i := 6) rfl) ?_
                  refine g_icmp_ge_t (tgt := 148) F dX5_digest_125 (by decide) (le_nI (Nat.le_refl _) (by omega)) ?_
                  refine g_iconst (v := 0) F dX5_digest_148 (by decide) ?_
                  refine g_istore_n (L' := [(0, .ref y), (1, .long (mDgF kp (mDgF th (mDgF f (mDg8 (mCnt col car tur pre wov ko th kk) 8) 96) 6) kq)), (3, .int 0)]) F dX5_digest_149 rfl (by decide) [1, 2, 0] rfl ?_
                  have lp150 : ∀ (n150 i150 : Nat), i150 + n150 = 96 → (i150 = 0 ∨ ¬ wov ≤ 0) → G E X 0 0 150 [(0, .ref y), (1, .long (mDgF kk (mDgF kp (mDgF th (mDgF f (mDg8 (mCnt col car tur pre wov ko th kk) 8) 96) 6) kq) i150)), (3, .int (nI i150))] [] [(y, .inr (5, [.int 0, .ref y1, .int col, .int car, .int tur, .int pre, .ref y2, .int mb, .ref y3, .ref y4, .ref y5, .int off, .ref y6, .ref y7, .int wov, .int (nI kq), .int ko, .ref y8, .ref y9])), (y1, .inl (E.2.2, 96, .inl f)), (y2, .inl (E.2.2, 6, .inl th)), (y8, .inl (E.2.2, 6, .inl kp)), (y9, .inl (E.2.2, 96, .inl kk))] := by
                    intro n150
                    induction n150 with
                    | zero =>
                      intro i150 hi150  hw
                      have he150 : i150 = 96 := by omega
                      rw [he150]
                      refine g_iload_n F dX5_digest_150 rfl 2 rfl ?_
                      refine g_bipush (v := 96) F dX5_digest_151 (by decide) ?_
                      refine g_icmp_ge_t (tgt := 183) F dX5_digest_153 (by decide) (by decide) ?_
                      refine g_lload_n F dX5_digest_183 rfl 1 rfl ?_
                      exact g_lret F hQ dX5_digest_184 (by rw [mDgT, if_neg (hw.resolve_left (by omega))]) (rfl)
                    | succ n150 ih150 =>
                      intro i150 hi150  hw
                      have hl150 : i150 < 96 := by omega
                      refine g_iload_n F dX5_digest_150 rfl 2 rfl ?_
                      refine g_bipush (v := 96) F dX5_digest_151 (by decide) ?_
                      refine g_icmp_ge_f (tgt := 183) F dX5_digest_153 (by decide) (nle_nI (n := 96) hl150 (by omega)) ?_
                      refine g_aload_n F dX5_digest_156 rfl 0 rfl ?_
                      refine g_get F dX5_digest_157 0 rfl rfl i5 14 (by decide) rfl (List.mem_of_getElem? (i := 8) rfl) ?_
                      refine g_if_le (tgt := 183) F dX5_digest_160 (by decide) (fun k160 => ?_) (fun k160 => ?_)
                      · skip
                        refine g_lload_n F dX5_digest_183 rfl 1 rfl ?_
                        exact g_lret F hQ dX5_digest_184 (by have hz : i150 = 0 := hw.resolve_right (fun q => q k160); subst hz; rw [mDgT, if_pos k160]; rfl) (rfl)
                      · skip
                        refine g_lload_n F dX5_digest_163 rfl 1 rfl ?_
                        refine g_ldc2l (v := 31) F dX5_digest_164 (List.mem_of_getElem? (i := 3) rfl) ?_
                        refine g_lmul F dX5_digest_167 ?_
                        refine g_aload_n F dX5_digest_168 rfl 0 rfl ?_
                        refine g_get F dX5_digest_169 0 rfl rfl i5 18 (by decide) rfl (List.mem_of_getElem? (i := 9) rfl) ?_
                        refine g_iload_n F dX5_digest_172 rfl 2 rfl ?_
                        refine g_ialdN (k := i150) F dX5_digest_173 4 rfl (by omega) (by first | decide | omega) ?_
                        refine g_i2l (v := (kk i150).toInt64) F dX5_digest_174 rfl ?_
                        refine g_ladd F dX5_digest_175 ?_
                        refine g_lstore_n (L' := [(0, .ref y), (1, .long (((mDgF kk (mDgF kp (mDgF th (mDgF f (mDg8 (mCnt col car tur pre wov ko th kk) 8) 96) 6) kq) i150) * 31) + ((kk i150).toInt64))), (3, .int (nI i150))]) F dX5_digest_176 rfl (by decide) [1, 0, 2] rfl ?_
                        refine g_iinc (L' := [(0, .ref y), (1, .long (((mDgF kk (mDgF kp (mDgF th (mDgF f (mDg8 (mCnt col car tur pre wov ko th kk) 8) 96) 6) kq) i150) * 31) + ((kk i150).toInt64))), (3, .int (nI (i150 + 1)))]) (v := nI (i150 + 1)) F dX5_digest_177 2 rfl (nI_1 _) (by decide) [1, 2, 0] rfl ?_
                        refine g_goto (tgt := 150) F dX5_digest_180 (by decide) ?_
                        exact ih150 (i150 + 1) (by omega) (Or.inr k160)
                  exact lp150 96 0 (by omega) (Or.inl rfl)
                | succ n120 ih120 =>
                  intro i120 hi120
                  have hl120 : i120 < kq := by omega
                  refine g_iload_n F dX5_digest_120 rfl 2 rfl ?_
                  refine g_aload_n F dX5_digest_121 rfl 0 rfl ?_
                  refine g_get F dX5_digest_122 0 rfl rfl i5 15 (by decide) rfl (List.mem_of_getElem? (i := 6) rfl) ?_
                  refine g_icmp_ge_f (tgt := 148) F dX5_digest_125 (by decide) (nle_nI hl120 (by omega)) ?_
                  refine g_lload_n F dX5_digest_128 rfl 1 rfl ?_
                  refine g_ldc2l (v := 31) F dX5_digest_129 (List.mem_of_getElem? (i := 3) rfl) ?_
                  refine g_lmul F dX5_digest_132 ?_
                  refine g_aload_n F dX5_digest_133 rfl 0 rfl ?_
                  refine g_get F dX5_digest_134 0 rfl rfl i5 17 (by decide) rfl (List.mem_of_getElem? (i := 7) rfl) ?_
                  refine g_iload_n F dX5_digest_137 rfl 2 rfl ?_
                  refine g_ialdN (k := i120) F dX5_digest_138 3 rfl (by omega) (by first | decide | omega) ?_
                  refine g_i2l (v := (kp i120).toInt64) F dX5_digest_139 rfl ?_
                  refine g_ladd F dX5_digest_140 ?_
                  refine g_lstore_n (L' := [(0, .ref y), (1, .long (((mDgF kp (mDgF th (mDgF f (mDg8 (mCnt col car tur pre wov ko th kk) 8) 96) 6) i120) * 31) + ((kp i120).toInt64))), (3, .int (nI i120))]) F dX5_digest_141 rfl (by decide) [1, 0, 2] rfl ?_
                  refine g_iinc (L' := [(0, .ref y), (1, .long (((mDgF kp (mDgF th (mDgF f (mDg8 (mCnt col car tur pre wov ko th kk) 8) 96) 6) i120) * 31) + ((kp i120).toInt64))), (3, .int (nI (i120 + 1)))]) (v := nI (i120 + 1)) F dX5_digest_142 2 rfl (nI_1 _) (by decide) [1, 2, 0] rfl ?_
                  refine g_goto (tgt := 120) F dX5_digest_145 (by decide) ?_
                  exact ih120 (i120 + 1) (by omega)
              refine g_lv (L' := [(0, .ref y), (1, .long (mDgF th (mDgF f (mDg8 (mCnt col car tur pre wov ko th kk) 8) 96) 6)), (3, .int 0)]) [0, 1, 2] rfl ?_
              exact lp120 kq 0 (by omega)
            | succ n89 ih89 =>
              intro i89 hi89
              have hl89 : i89 < 6 := by omega
              refine g_iload F dX5_digest_89 4 rfl ?_
              refine g_iload F dX5_digest_91 3 rfl ?_
              refine g_icmp_ge_f (tgt := 118) F dX5_digest_93 (by decide) (nle_nI (n := 6) hl89 (by omega)) ?_
              refine g_aload_n F dX5_digest_96 rfl 2 rfl ?_
              refine g_iload F dX5_digest_97 4 rfl ?_
              refine g_ialdN (k := i89) F dX5_digest_99 2 rfl (by omega) (by first | decide | omega) ?_
              refine g_istore (L' := [(0, .ref y), (1, .long (mDgF th (mDgF f (mDg8 (mCnt col car tur pre wov ko th kk) 8) 96) i89)), (3, .ref y2), (4, .int 6), (5, .int (nI i89)), (6, .int (th i89))]) F dX5_digest_100 (by decide) [1, 2, 3, 4, 5, 0] rfl ?_
              refine g_lload_n F dX5_digest_102 rfl 1 rfl ?_
              refine g_ldc2l (v := 31) F dX5_digest_103 (List.mem_of_getElem? (i := 3) rfl) ?_
              refine g_lmul F dX5_digest_106 ?_
              refine g_iload F dX5_digest_107 5 rfl ?_
              refine g_i2l (v := (th i89).toInt64) F dX5_digest_109 rfl ?_
              refine g_ladd F dX5_digest_110 ?_
              refine g_lstore_n (L' := [(0, .ref y), (1, .long (((mDgF th (mDgF f (mDg8 (mCnt col car tur pre wov ko th kk) 8) 96) i89) * 31) + ((th i89).toInt64))), (3, .ref y2), (4, .int 6), (5, .int (nI i89)), (6, .int (th i89))]) F dX5_digest_111 rfl (by decide) [1, 0, 2, 3, 4, 5] rfl ?_
              refine g_iinc (L' := [(0, .ref y), (1, .long (((mDgF th (mDgF f (mDg8 (mCnt col car tur pre wov ko th kk) 8) 96) i89) * 31) + ((th i89).toInt64))), (3, .ref y2), (4, .int 6), (5, .int (nI (i89 + 1))), (6, .int (th i89))]) (v := nI (i89 + 1)) F dX5_digest_112 4 rfl (nI_1 _) (by decide) [1, 2, 3, 4, 0, 5] rfl ?_
              refine g_goto (tgt := 89) F dX5_digest_115 (by decide) ?_
              refine g_lv (L' := [(0, .ref y), (1, .long (((mDgF th (mDgF f (mDg8 (mCnt col car tur pre wov ko th kk) 8) 96) i89) * 31) + ((th i89).toInt64))), (3, .ref y2), (4, .int 6), (5, .int (nI (i89 + 1)))]) [0, 1, 2, 3, 4] rfl ?_
              exact ih89 (i89 + 1) (by omega)
          exact lp89 6 0 (by omega)
        | succ n48 ih48 =>
          intro i48 hi48
          have hl48 : i48 < 96 := by omega
          refine g_iload F dX5_digest_48 4 rfl ?_
          refine g_iload F dX5_digest_50 3 rfl ?_
          refine g_icmp_ge_f (tgt := 77) F dX5_digest_52 (by decide) (nle_nI (n := 96) hl48 (by omega)) ?_
          refine g_aload_n F dX5_digest_55 rfl 2 rfl ?_
          refine g_iload F dX5_digest_56 4 rfl ?_
          refine g_ialdN (k := i48) F dX5_digest_58 1 rfl (by omega) (by first | decide | omega) ?_
          refine g_istore (L' := [(0, .ref y), (1, .long (mDgF f (mDg8 (mCnt col car tur pre wov ko th kk) 8) i48)), (3, .ref y1), (4, .int 96), (5, .int (nI i48)), (6, .int (f i48))]) F dX5_digest_59 (by decide) [1, 2, 3, 4, 5, 0] rfl ?_
          refine g_lload_n F dX5_digest_61 rfl 1 rfl ?_
          refine g_ldc2l (v := 31) F dX5_digest_62 (List.mem_of_getElem? (i := 3) rfl) ?_
          refine g_lmul F dX5_digest_65 ?_
          refine g_iload F dX5_digest_66 5 rfl ?_
          refine g_i2l (v := (f i48).toInt64) F dX5_digest_68 rfl ?_
          refine g_ladd F dX5_digest_69 ?_
          refine g_lstore_n (L' := [(0, .ref y), (1, .long (((mDgF f (mDg8 (mCnt col car tur pre wov ko th kk) 8) i48) * 31) + ((f i48).toInt64))), (3, .ref y1), (4, .int 96), (5, .int (nI i48)), (6, .int (f i48))]) F dX5_digest_70 rfl (by decide) [1, 0, 2, 3, 4, 5] rfl ?_
          refine g_iinc (L' := [(0, .ref y), (1, .long (((mDgF f (mDg8 (mCnt col car tur pre wov ko th kk) 8) i48) * 31) + ((f i48).toInt64))), (3, .ref y1), (4, .int 96), (5, .int (nI (i48 + 1))), (6, .int (f i48))]) (v := nI (i48 + 1)) F dX5_digest_71 4 rfl (nI_1 _) (by decide) [1, 2, 3, 4, 0, 5] rfl ?_
          refine g_goto (tgt := 48) F dX5_digest_74 (by decide) ?_
          refine g_lv (L' := [(0, .ref y), (1, .long (((mDgF f (mDg8 (mCnt col car tur pre wov ko th kk) 8) i48) * 31) + ((f i48).toInt64))), (3, .ref y1), (4, .int 96), (5, .int (nI (i48 + 1)))]) [0, 1, 2, 3, 4] rfl ?_
          exact ih48 (i48 + 1) (by omega)
      exact lp48 96 0 (by omega)
    | succ n11 ih11 =>
      intro i11 hi11
      have hl11 : i11 < 8 := by omega
      refine g_iload_n F dX5_digest_11 rfl 2 rfl ?_
      refine g_bipush (v := 7) F dX5_digest_12 (by decide) ?_
      refine g_icmp_gt_f (tgt := 36) F dX5_digest_14 (by decide) (nI_nlt (a := 7) (by omega) (by omega)) ?_
      refine g_lload_n F dX5_digest_17 rfl 1 rfl ?_
      refine g_ldc2l (v := 31) F dX5_digest_18 (List.mem_of_getElem? (i := 3) rfl) ?_
      refine g_lmul F dX5_digest_21 ?_
      refine g_aload_n F dX5_digest_22 rfl 0 rfl ?_
      refine g_iload_n F dX5_digest_23 rfl 2 rfl ?_
      refine g_callV (ws' := [(y, .inr (5, [.int 0, .ref y1, .int col, .int car, .int tur, .int pre, .ref y2, .int mb, .ref y3, .ref y4, .ref y5, .int off, .ref y6, .ref y7, .int wov, .int (nI kq), .int ko, .ref y8, .ref y9])), (y1, .inl (E.2.2, 96, .inl f)), (y2, .inl (E.2.2, 6, .inl th)), (y8, .inl (E.2.2, 6, .inl kp)), (y9, .inl (E.2.2, 96, .inl kk))]) F dX5_digest_24 (c_X5_counted E y y1 y2 y3 y4 y5 y6 y7 y8 y9 th kk 0 col car tur pre mb off wov (nI kq) ko i11 (by first | assumption | decide | omega)) rfl gX5_digest_X5_counted 0 rfl rfl kV_X5_counted ⟨by decide, by decide⟩ [0, 2, 4] rfl (by decide +kernel) rfl rfl (Nat.le_of_ble_eq_true rfl) ⟨by decide, by decide⟩ ?_
      refine g_i2l (v := (mCnt col car tur pre wov ko th kk i11).toInt64) F dX5_digest_27 rfl ?_
      refine g_ladd F dX5_digest_28 ?_
      refine g_lstore_n (L' := [(0, .ref y), (1, .long (((mDg8 (mCnt col car tur pre wov ko th kk) i11) * 31) + ((mCnt col car tur pre wov ko th kk i11).toInt64))), (3, .int (nI i11))]) F dX5_digest_29 rfl (by decide) [1, 0, 2] rfl ?_
      refine g_iinc (L' := [(0, .ref y), (1, .long (((mDg8 (mCnt col car tur pre wov ko th kk) i11) * 31) + ((mCnt col car tur pre wov ko th kk i11).toInt64))), (3, .int (nI (i11 + 1)))]) (v := nI (i11 + 1)) F dX5_digest_30 2 rfl (nI_1 _) (by decide) [1, 2, 0] rfl ?_
      refine g_goto (tgt := 11) F dX5_digest_33 (by decide) ?_
      exact ih11 (i11 + 1) (by omega)
  exact lp11 8 0 (by omega)
end PMODD
