/-! the reference: look -/
section PLOOK
set_option maxHeartbeats 4000000 in
set_option maxRecDepth 100000 in
theorem c_X5_look (E : gE) (y : Nat) (y1 : Nat) (y2 : Nat) (y3 : Nat) (y4 : Nat) (y5 : Nat) (y6 : Nat) (y7 : Nat) (y8 : Nat) (y9 : Nat) (f : AF) (th : AF) (pa : AF) (so : AF) (cl : AF) (he : AF) (be : AF) (kp : AF) (kk : AF) (thr : Int32) (col : Int32) (car : Int32) (tur : Int32) (pre : Int32) (mb : Int32) (off : Int32) (wov : Int32) (km : Int32) (ko : Int32) (m : Nat) (h2 : 2 ≤ m) (h6 : m ≤ 6) : Ct E yX5_look wsX5_look ({ frames := 1, cells := 1, slots := 7, locals := 26 }) [.ref y, .int (nI m)] [(y, .inr (5, [.int thr, .ref y1, .int col, .int car, .int tur, .int pre, .ref y2, .int mb, .ref y3, .ref y4, .ref y5, .int off, .ref y6, .ref y7, .int wov, .int km, .int ko, .ref y8, .ref y9])), (y1, .inl (E.2.2, 96, .inl f)), (y2, .inl (E.2.2, 6, .inl th)), (y3, .inl (E.2.2, 6, .inl pa)), (y4, .inl (E.2.2, 96, .inl so)), (y5, .inl (E.2.2, 96, .inl cl)), (y6, .inl (E.2.2, 12, .inl he)), (y7, .inl (E.2.2, 12, .inl be)), (y8, .inl (E.2.2, 6, .inl kp)), (y9, .inl (E.2.2, 96, .inl kk))] none [(y, .inr (5, [.int thr, .ref y1, .int col, .int car, .int tur, .int pre, .ref y2, .int (nI (mFit f so m).2), .ref y3, .ref y4, .ref y5, .int off, .ref y6, .ref y7, .int wov, .int km, .int ko, .ref y8, .ref y9])), (y1, .inl (E.2.2, 96, .inl f)), (y2, .inl (E.2.2, 6, .inl th)), (y3, .inl (E.2.2, 6, .inl (mPal f so pa m))), (y4, .inl (E.2.2, 96, .inl (mSrt f so))), (y5, .inl (E.2.2, 96, .inl cl)), (y6, .inl (E.2.2, 12, .inl he)), (y7, .inl (E.2.2, 12, .inl be)), (y8, .inl (E.2.2, 6, .inl kp)), (y9, .inl (E.2.2, 96, .inl kk))] := by
  refine Ct.of (cc := cX5_look) (maxL := 6) (ret := none) (own := RX5) (L := [(0, .ref y), (1, .int (nI m))]) (by decide) rfl rfl rfl (Nat.le_of_ble_eq_true rfl) rfl ?_
  intro X F hQ
  have i5 : ∀ w ∈ u_ws RX5 TX5 19, w ∈ wsX5_look := gsub [15, 16, 17, 18, 19, 20, 21, 22, 23, 24, 25, 26, 27, 28, 29, 30, 31, 32, 33] rfl
  refine g_aload_n F dX5_look_0 rfl 0 rfl ?_
  refine g_callV (ws' := [(y, .inr (5, [.int thr, .ref y1, .int col, .int car, .int tur, .int pre, .ref y2, .int mb, .ref y3, .ref y4, .ref y5, .int off, .ref y6, .ref y7, .int wov, .int km, .int ko, .ref y8, .ref y9])), (y1, .inl (E.2.2, 96, .inl f)), (y2, .inl (E.2.2, 6, .inl th)), (y3, .inl (E.2.2, 6, .inl pa)), (y4, .inl (E.2.2, 96, .inl (mSrt f so))), (y5, .inl (E.2.2, 96, .inl cl)), (y6, .inl (E.2.2, 12, .inl he)), (y7, .inl (E.2.2, 12, .inl be)), (y8, .inl (E.2.2, 6, .inl kp)), (y9, .inl (E.2.2, 96, .inl kk))]) F dX5_look_1 (c_X5_sort E y y1 y2 y3 y4 y5 y6 y7 y8 y9 f th pa so cl he be kp kk thr col car tur pre mb off wov km ko ) rfl gX5_look_X5_sort 0 rfl rfl kV_X5_sort ⟨by decide, by decide⟩ [0, 1, 2, 3, 4, 5, 6, 7, 8, 9] rfl (by decide +kernel) rfl rfl (Nat.le_of_ble_eq_true rfl) ⟨by decide, by decide⟩ ?_
  refine g_iload_n F dX5_look_4 rfl 1 rfl ?_
  refine g_iconst (v := 1) F dX5_look_5 (by decide) ?_
  refine g_iadd F dX5_look_6 ?_
  refine g_topr (y := nI (m + 1)) (nI_1 m) ?_
  refine g_newa (N' := m + 1) F dX5_look_7 (List.mem_of_getElem? (i := 1) rfl) (nI_pos (by omega)) (nI_clamp (by omega)) (by omega) (by show 0 + 1 ≤ 1; omega) (by show 0 + (m + 1) ≤ 7; omega) (fun za => ?_)
  refine g_ws (ws' := [(y, .inr (5, [.int thr, .ref y1, .int col, .int car, .int tur, .int pre, .ref y2, .int mb, .ref y3, .ref y4, .ref y5, .int off, .ref y6, .ref y7, .int wov, .int km, .int ko, .ref y8, .ref y9])), (y1, .inl (E.2.2, 96, .inl f)), (y2, .inl (E.2.2, 6, .inl th)), (y3, .inl (E.2.2, 6, .inl pa)), (y4, .inl (E.2.2, 96, .inl (mSrt f so))), (y5, .inl (E.2.2, 96, .inl cl)), (y6, .inl (E.2.2, 12, .inl he)), (y7, .inl (E.2.2, 12, .inl be)), (y8, .inl (E.2.2, 6, .inl kp)), (y9, .inl (E.2.2, 96, .inl kk)), (za, .inl (E.2.2, m + 1, .inl (fun _ => 0)))]) rfl ?_
  refine g_astore_n (L' := [(0, .ref y), (1, .int (nI m)), (2, .ref za)]) F dX5_look_9 rfl (by decide) [1, 2, 0] rfl ?_
  refine g_aload_n F dX5_look_10 rfl 2 rfl ?_
  refine g_iconst (v := 1) F dX5_look_11 (by decide) ?_
  refine g_bipush (v := 96) F dX5_look_12 (by decide) ?_
  refine g_iastN (k := 1) (ws' := [(y, .inr (5, [.int thr, .ref y1, .int col, .int car, .int tur, .int pre, .ref y2, .int mb, .ref y3, .ref y4, .ref y5, .int off, .ref y6, .ref y7, .int wov, .int km, .int ko, .ref y8, .ref y9])), (y1, .inl (E.2.2, 96, .inl f)), (y2, .inl (E.2.2, 6, .inl th)), (y3, .inl (E.2.2, 6, .inl pa)), (y4, .inl (E.2.2, 96, .inl (mSrt f so))), (y5, .inl (E.2.2, 96, .inl cl)), (y6, .inl (E.2.2, 12, .inl he)), (y7, .inl (E.2.2, 12, .inl be)), (y8, .inl (E.2.2, 6, .inl kp)), (y9, .inl (E.2.2, 96, .inl kk)), (za, .inl (E.2.2, m + 1, .inl (upd (fun _ => 0) 1 96)))]) F dX5_look_14 10 rfl (by omega) (by first | decide | omega) rfl ?_
  refine g_aload_n F dX5_look_15 rfl 0 rfl ?_
  refine g_iconst (v := 1) F dX5_look_16 (by decide) ?_
  refine g_put (ws' := [(y, .inr (5, [.int thr, .ref y1, .int col, .int car, .int tur, .int pre, .ref y2, .int 1, .ref y3, .ref y4, .ref y5, .int off, .ref y6, .ref y7, .int wov, .int km, .int ko, .ref y8, .ref y9])), (y1, .inl (E.2.2, 96, .inl f)), (y2, .inl (E.2.2, 6, .inl th)), (y3, .inl (E.2.2, 6, .inl pa)), (y4, .inl (E.2.2, 96, .inl (mSrt f so))), (y5, .inl (E.2.2, 96, .inl cl)), (y6, .inl (E.2.2, 12, .inl he)), (y7, .inl (E.2.2, 12, .inl be)), (y8, .inl (E.2.2, 6, .inl kp)), (y9, .inl (E.2.2, 96, .inl kk)), (za, .inl (E.2.2, m + 1, .inl (upd (fun _ => 0) 1 96)))]) F dX5_look_17 0 rfl rfl i5 tyX5 tyX5_ok nmX5 7 (by decide) rfl (rfl) (rfl) (Nat.le_of_ble_eq_true rfl) (List.mem_of_getElem? (i := 2) rfl) rfl ?_
  have lp20 : ∀ (n20 i20 : Nat), i20 + n20 = m → ∀ (en : AF) (e : Nat → Nat), (1 ≤ i20) → (aFit (mSrt f so) (m - i20) i20 e = mFit f so m) → (PA e i20) → (∀ j, j ≤ i20 → en j = nI (e j)) → G E X (0 + 1) (0 + (m + 1)) 20 [(0, .ref y), (1, .int (nI m)), (2, .ref za)] [] [(y, .inr (5, [.int thr, .ref y1, .int col, .int car, .int tur, .int pre, .ref y2, .int (nI i20), .ref y3, .ref y4, .ref y5, .int off, .ref y6, .ref y7, .int wov, .int km, .int ko, .ref y8, .ref y9])), (y1, .inl (E.2.2, 96, .inl f)), (y2, .inl (E.2.2, 6, .inl th)), (y3, .inl (E.2.2, 6, .inl pa)), (y4, .inl (E.2.2, 96, .inl (mSrt f so))), (y5, .inl (E.2.2, 96, .inl cl)), (y6, .inl (E.2.2, 12, .inl he)), (y7, .inl (E.2.2, 12, .inl be)), (y8, .inl (E.2.2, 6, .inl kp)), (y9, .inl (E.2.2, 96, .inl kk)), (za, .inl (E.2.2, m + 1, .inl en))] := by
    intro n20
    induction n20 with
    | zero =>
      intro i20 hi20 en  e  h1q hq hp hen
      have he20 : i20 = m := by omega
      rw [he20] at hp hq hen
      rw [Nat.sub_self] at hq
      have hR : mFit f so m = (e, m) := hq.symm
      rw [he20]
      refine g_aload_n F dX5_look_20 rfl 0 rfl ?_
      refine g_get F dX5_look_21 0 rfl rfl i5 7 (by decide) rfl (List.mem_of_getElem? (i := 2) rfl) ?_
      refine g_iload_n F dX5_look_24 rfl 1 rfl ?_
      refine g_icmp_ge_t (tgt := 140) F dX5_look_25 (by decide) (le_nI (Nat.le_refl m) (by omega)) ?_
      refine g_iconst (v := 0) F dX5_look_140 (by decide) ?_
      refine g_istore_n (L' := [(0, .ref y), (1, .int (nI m)), (2, .ref za), (3, .int 0)]) F dX5_look_141 rfl (by decide) [1, 2, 3, 0] rfl ?_
      have lp142 : ∀ (n142 i142 : Nat), i142 + n142 = m → G E X (0 + 1) (0 + (m + 1)) 142 [(0, .ref y), (1, .int (nI m)), (2, .ref za), (3, .int (nI i142))] [] [(y, .inr (5, [.int thr, .ref y1, .int col, .int car, .int tur, .int pre, .ref y2, .int (nI m), .ref y3, .ref y4, .ref y5, .int off, .ref y6, .ref y7, .int wov, .int km, .int ko, .ref y8, .ref y9])), (y1, .inl (E.2.2, 96, .inl f)), (y2, .inl (E.2.2, 6, .inl th)), (y3, .inl (E.2.2, 6, .inl (aPal (mSrt f so) e pa i142))), (y4, .inl (E.2.2, 96, .inl (mSrt f so))), (y5, .inl (E.2.2, 96, .inl cl)), (y6, .inl (E.2.2, 12, .inl he)), (y7, .inl (E.2.2, 12, .inl be)), (y8, .inl (E.2.2, 6, .inl kp)), (y9, .inl (E.2.2, 96, .inl kk)), (za, .inl (E.2.2, m + 1, .inl en))] := by
        intro n142
        induction n142 with
        | zero =>
          intro i142 hi142
          have he142 : i142 = m := by omega
          rw [he142]
          refine g_iload_n F dX5_look_142 rfl 3 rfl ?_
          refine g_aload_n F dX5_look_143 rfl 0 rfl ?_
          refine g_get F dX5_look_144 0 rfl rfl i5 7 (by decide) rfl (List.mem_of_getElem? (i := 2) rfl) ?_
          refine g_icmp_ge_t (tgt := 210) F dX5_look_147 (by decide) (le_nI (Nat.le_refl _) (by omega)) ?_
          refine g_cs (cells' := 1) (slots' := 7) (by show 0 + 1 ≤ 1; omega) (by show 0 + (m + 1) ≤ 7; omega) ?_
          refine g_sub (ws' := [(y, .inr (5, [.int thr, .ref y1, .int col, .int car, .int tur, .int pre, .ref y2, .int (nI m), .ref y3, .ref y4, .ref y5, .int off, .ref y6, .ref y7, .int wov, .int km, .int ko, .ref y8, .ref y9])), (y1, .inl (E.2.2, 96, .inl f)), (y2, .inl (E.2.2, 6, .inl th)), (y3, .inl (E.2.2, 6, .inl (aPal (mSrt f so) e pa m))), (y4, .inl (E.2.2, 96, .inl (mSrt f so))), (y5, .inl (E.2.2, 96, .inl cl)), (y6, .inl (E.2.2, 12, .inl he)), (y7, .inl (E.2.2, 12, .inl be)), (y8, .inl (E.2.2, 6, .inl kp)), (y9, .inl (E.2.2, 96, .inl kk))]) [0, 1, 2, 3, 4, 5, 6, 7, 8, 9] (by decide +kernel) rfl ?_
          exact g_vret F hQ dX5_look_210 (by simp only [mPal, hR])
        | succ n142 ih142 =>
          intro i142 hi142
          have hl142 : i142 < m := by omega
          refine g_iload_n F dX5_look_142 rfl 3 rfl ?_
          refine g_aload_n F dX5_look_143 rfl 0 rfl ?_
          refine g_get F dX5_look_144 0 rfl rfl i5 7 (by decide) rfl (List.mem_of_getElem? (i := 2) rfl) ?_
          refine g_icmp_ge_f (tgt := 210) F dX5_look_147 (by decide) (nle_nI hl142 (by omega)) ?_
          refine g_iconst (v := 0) F dX5_look_150 (by decide) ?_
          refine g_istore (L' := [(0, .ref y), (1, .int (nI m)), (2, .ref za), (3, .int (nI i142)), (4, .int 0)]) F dX5_look_151 (by decide) [1, 2, 3, 4, 0] rfl ?_
          have hlt := hp.2.2.2 i142 (by omega)
          have hle := hp.le (a := i142 + 1) (by omega)
          refine g_aload_n F dX5_look_153 rfl 2 rfl ?_
          refine g_iload_n F dX5_look_154 rfl 3 rfl ?_
          refine g_ialdN (k := i142) F dX5_look_155 10 rfl (by omega) (by first | decide | omega) ?_
          refine g_topr (y := nI (e i142)) (hen i142 (by omega)) ?_
          refine g_istore (L' := [(0, .ref y), (1, .int (nI m)), (2, .ref za), (3, .int (nI i142)), (4, .int 0), (5, .int (nI (e i142)))]) F dX5_look_156 (by decide) [1, 2, 3, 4, 5, 0] rfl ?_
          have lp158 : ∀ (n158 i158 : Nat), i158 + n158 = (e (i142 + 1) - e i142) → G E X (0 + 1) (0 + (m + 1)) 158 [(0, .ref y), (1, .int (nI m)), (2, .ref za), (3, .int (nI i142)), (4, .int (aSum (mSrt f so) (e i142) i158)), (5, .int (nI (e i142 + i158)))] [] [(y, .inr (5, [.int thr, .ref y1, .int col, .int car, .int tur, .int pre, .ref y2, .int (nI m), .ref y3, .ref y4, .ref y5, .int off, .ref y6, .ref y7, .int wov, .int km, .int ko, .ref y8, .ref y9])), (y1, .inl (E.2.2, 96, .inl f)), (y2, .inl (E.2.2, 6, .inl th)), (y3, .inl (E.2.2, 6, .inl (aPal (mSrt f so) e pa i142))), (y4, .inl (E.2.2, 96, .inl (mSrt f so))), (y5, .inl (E.2.2, 96, .inl cl)), (y6, .inl (E.2.2, 12, .inl he)), (y7, .inl (E.2.2, 12, .inl be)), (y8, .inl (E.2.2, 6, .inl kp)), (y9, .inl (E.2.2, 96, .inl kk)), (za, .inl (E.2.2, m + 1, .inl en))] := by
            intro n158
            induction n158 with
            | zero =>
              intro i158 hi158
              have he158 : i158 = (e (i142 + 1) - e i142) := by omega
              rw [he158]
              refine g_iload F dX5_look_158 5 rfl ?_
              refine g_aload_n F dX5_look_160 rfl 2 rfl ?_
              refine g_iload_n F dX5_look_161 rfl 3 rfl ?_
              refine g_iconst (v := 1) F dX5_look_162 (by decide) ?_
              refine g_iadd F dX5_look_163 ?_
              refine g_topr (y := nI (i142 + 1)) (nI_1 i142) ?_
              refine g_ialdN (k := i142 + 1) F dX5_look_164 10 rfl (by omega) (by first | decide | omega) ?_
              refine g_topr (y := nI (e (i142 + 1))) (hen (i142 + 1) (by omega)) ?_
              refine g_icmp_ge_t (tgt := 186) F dX5_look_165 (by decide) (le_nI (by omega) (by omega)) ?_
              refine g_aload_n F dX5_look_186 rfl 0 rfl ?_
              refine g_get F dX5_look_187 0 rfl rfl i5 8 (by decide) rfl (List.mem_of_getElem? (i := 4) rfl) ?_
              refine g_iload_n F dX5_look_190 rfl 3 rfl ?_
              refine g_iload F dX5_look_191 4 rfl ?_
              refine g_aload_n F dX5_look_193 rfl 2 rfl ?_
              refine g_iload_n F dX5_look_194 rfl 3 rfl ?_
              refine g_iconst (v := 1) F dX5_look_195 (by decide) ?_
              refine g_iadd F dX5_look_196 ?_
              refine g_topr (y := nI (i142 + 1)) (nI_1 i142) ?_
              refine g_ialdN (k := i142 + 1) F dX5_look_197 10 rfl (by omega) (by first | decide | omega) ?_
              refine g_topr (y := nI (e (i142 + 1))) (hen (i142 + 1) (by omega)) ?_
              refine g_aload_n F dX5_look_198 rfl 2 rfl ?_
              refine g_iload_n F dX5_look_199 rfl 3 rfl ?_
              refine g_ialdN (k := i142) F dX5_look_200 10 rfl (by omega) (by first | decide | omega) ?_
              refine g_topr (y := nI (e i142)) (hen i142 (by omega)) ?_
              refine g_isub F dX5_look_201 ?_
              refine g_topr (y := nI (e (i142 + 1) - e i142)) (pk_sub (Nat.le_of_lt (hp.2.2.2 _ (by omega)))) ?_
              refine g_idiv F dX5_look_202 (nI_ne0 (by omega) (by omega)) ?_
              refine g_iastN (k := i142) (ws' := [(y, .inr (5, [.int thr, .ref y1, .int col, .int car, .int tur, .int pre, .ref y2, .int (nI m), .ref y3, .ref y4, .ref y5, .int off, .ref y6, .ref y7, .int wov, .int km, .int ko, .ref y8, .ref y9])), (y1, .inl (E.2.2, 96, .inl f)), (y2, .inl (E.2.2, 6, .inl th)), (y3, .inl (E.2.2, 6, .inl (upd (aPal (mSrt f so) e pa i142) i142 ((aSum (mSrt f so) (e i142) (e (i142 + 1) - e i142)) / (nI (e (i142 + 1) - e i142)))))), (y4, .inl (E.2.2, 96, .inl (mSrt f so))), (y5, .inl (E.2.2, 96, .inl cl)), (y6, .inl (E.2.2, 12, .inl he)), (y7, .inl (E.2.2, 12, .inl be)), (y8, .inl (E.2.2, 6, .inl kp)), (y9, .inl (E.2.2, 96, .inl kk)), (za, .inl (E.2.2, m + 1, .inl en))]) F dX5_look_203 3 rfl (by omega) (by first | decide | omega) rfl ?_
              refine g_iinc (L' := [(0, .ref y), (1, .int (nI m)), (2, .ref za), (3, .int (nI (i142 + 1))), (4, .int (aSum (mSrt f so) (e i142) (e (i142 + 1) - e i142))), (5, .int (nI (e i142 + (e (i142 + 1) - e i142))))]) (v := nI (i142 + 1)) F dX5_look_204 3 rfl (nI_1 _) (by decide) [1, 2, 3, 0, 4, 5] rfl ?_
              refine g_goto (tgt := 142) F dX5_look_207 (by decide) ?_
              refine g_lv (L' := [(0, .ref y), (1, .int (nI m)), (2, .ref za), (3, .int (nI (i142 + 1)))]) [0, 1, 2, 3] rfl ?_
              exact ih142 (i142 + 1) (by omega)
            | succ n158 ih158 =>
              intro i158 hi158
              have hl158 : i158 < (e (i142 + 1) - e i142) := by omega
              refine g_iload F dX5_look_158 5 rfl ?_
              refine g_aload_n F dX5_look_160 rfl 2 rfl ?_
              refine g_iload_n F dX5_look_161 rfl 3 rfl ?_
              refine g_iconst (v := 1) F dX5_look_162 (by decide) ?_
              refine g_iadd F dX5_look_163 ?_
              refine g_topr (y := nI (i142 + 1)) (nI_1 i142) ?_
              refine g_ialdN (k := i142 + 1) F dX5_look_164 10 rfl (by omega) (by first | decide | omega) ?_
              refine g_topr (y := nI (e (i142 + 1))) (hen (i142 + 1) (by omega)) ?_
              refine g_icmp_ge_f (tgt := 186) F dX5_look_165 (by decide) (nle_nI (by omega) (by omega)) ?_
              refine g_iload F dX5_look_168 4 rfl ?_
              refine g_aload_n F dX5_look_170 rfl 0 rfl ?_
              refine g_get F dX5_look_171 0 rfl rfl i5 9 (by decide) rfl (List.mem_of_getElem? (i := 3) rfl) ?_
              refine g_iload F dX5_look_174 5 rfl ?_
              refine g_ialdN (k := e i142 + i158) F dX5_look_176 4 rfl (by omega) (by first | decide | omega) ?_
              refine g_iadd F dX5_look_177 ?_
              refine g_istore (L' := [(0, .ref y), (1, .int (nI m)), (2, .ref za), (3, .int (nI i142)), (4, .int ((aSum (mSrt f so) (e i142) i158) + ((mSrt f so) (e i142 + i158)))), (5, .int (nI (e i142 + i158)))]) F dX5_look_178 (by decide) [1, 2, 3, 4, 0, 5] rfl ?_
              refine g_iinc (L' := [(0, .ref y), (1, .int (nI m)), (2, .ref za), (3, .int (nI i142)), (4, .int ((aSum (mSrt f so) (e i142) i158) + ((mSrt f so) (e i142 + i158)))), (5, .int (nI (e i142 + i158 + 1)))]) (v := nI (e i142 + i158 + 1)) F dX5_look_180 5 rfl (nI_1 _) (by decide) [1, 2, 3, 4, 5, 0] rfl ?_
              refine g_goto (tgt := 158) F dX5_look_183 (by decide) ?_
              exact ih158 (i158 + 1) (by omega)
          exact lp158 (e (i142 + 1) - e i142) 0 (by omega)
      exact lp142 m 0 (by omega)
    | succ n20 ih20 =>
      intro i20 hi20 en  e  h1q hq hp hen
      have hl20 : i20 < m := by omega
      refine g_aload_n F dX5_look_20 rfl 0 rfl ?_
      refine g_get F dX5_look_21 0 rfl rfl i5 7 (by decide) rfl (List.mem_of_getElem? (i := 2) rfl) ?_
      refine g_iload_n F dX5_look_24 rfl 1 rfl ?_
      refine g_icmp_ge_f (tgt := 140) F dX5_look_25 (by decide) (nle_nI hl20 (by omega)) ?_
      refine g_iconst (v := 0) F dX5_look_28 (by decide) ?_
      refine g_istore_n (L' := [(0, .ref y), (1, .int (nI m)), (2, .ref za), (3, .int 0)]) F dX5_look_29 rfl (by decide) [1, 2, 3, 0] rfl ?_
      refine g_iconst (v := 1) F dX5_look_30 (by decide) ?_
      refine g_istore (L' := [(0, .ref y), (1, .int (nI m)), (2, .ref za), (3, .int 0), (4, .int 1)]) F dX5_look_31 (by decide) [1, 2, 3, 4, 0] rfl ?_
      have lp33 : ∀ (n33 i33 : Nat), i33 + n33 = (i20 - 1) → G E X (0 + 1) (0 + (m + 1)) 33 [(0, .ref y), (1, .int (nI m)), (2, .ref za), (3, .int (nI (aWid (mSrt f so) e i33))), (4, .int (nI (i33 + 1)))] [] [(y, .inr (5, [.int thr, .ref y1, .int col, .int car, .int tur, .int pre, .ref y2, .int (nI i20), .ref y3, .ref y4, .ref y5, .int off, .ref y6, .ref y7, .int wov, .int km, .int ko, .ref y8, .ref y9])), (y1, .inl (E.2.2, 96, .inl f)), (y2, .inl (E.2.2, 6, .inl th)), (y3, .inl (E.2.2, 6, .inl pa)), (y4, .inl (E.2.2, 96, .inl (mSrt f so))), (y5, .inl (E.2.2, 96, .inl cl)), (y6, .inl (E.2.2, 12, .inl he)), (y7, .inl (E.2.2, 12, .inl be)), (y8, .inl (E.2.2, 6, .inl kp)), (y9, .inl (E.2.2, 96, .inl kk)), (za, .inl (E.2.2, m + 1, .inl en))] := by
        intro n33
        induction n33 with
        | zero =>
          intro i33 hi33
          have he33 : i33 = (i20 - 1) := by omega
          rw [he33]
          refine g_iload F dX5_look_33 4 rfl ?_
          refine g_aload_n F dX5_look_35 rfl 0 rfl ?_
          refine g_get F dX5_look_36 0 rfl rfl i5 7 (by decide) rfl (List.mem_of_getElem? (i := 2) rfl) ?_
          refine g_icmp_ge_t (tgt := 67) F dX5_look_39 (by decide) (le_nI (by omega) (by omega)) ?_
          refine g_aload_n F dX5_look_67 rfl 0 rfl ?_
          refine g_aload_n F dX5_look_68 rfl 2 rfl ?_
          refine g_iload_n F dX5_look_69 rfl 3 rfl ?_
          refine g_callV (ws' := [(y, .inr (5, [.int thr, .ref y1, .int col, .int car, .int tur, .int pre, .ref y2, .int (nI i20), .ref y3, .ref y4, .ref y5, .int off, .ref y6, .ref y7, .int wov, .int km, .int ko, .ref y8, .ref y9])), (y1, .inl (E.2.2, 96, .inl f)), (y2, .inl (E.2.2, 6, .inl th)), (y3, .inl (E.2.2, 6, .inl pa)), (y4, .inl (E.2.2, 96, .inl (mSrt f so))), (y5, .inl (E.2.2, 96, .inl cl)), (y6, .inl (E.2.2, 12, .inl he)), (y7, .inl (E.2.2, 12, .inl be)), (y8, .inl (E.2.2, 6, .inl kp)), (y9, .inl (E.2.2, 96, .inl kk)), (za, .inl (E.2.2, m + 1, .inl en))]) F dX5_look_70 (c_X5_wide E y y1 y2 y3 y4 y5 y6 y7 y8 y9 f th pa (mSrt f so) cl he be kp kk thr col car tur pre (nI i20) off wov km ko za (m + 1) i20 (aWid (mSrt f so) e (i20 - 1)) en e (by first | assumption | decide | omega) (by first | assumption | decide | omega) (by have := aWid_le (mSrt f so) e (i20 - 1); omega) (by omega) (by omega)) rfl gX5_look_X5_wide 0 rfl rfl kV_X5_wide ⟨by decide, by decide⟩ [0, 1, 2, 3, 4, 5, 6, 7, 8, 9, 10] rfl (by decide +kernel) rfl rfl (Nat.le_of_ble_eq_true rfl) ⟨by show 0 + 1 + 0 ≤ 1; omega, by show 0 + (m + 1) + 0 ≤ 7; omega⟩ ?_
          refine g_if_ne (tgt := 79) F dX5_look_73 (by decide) (fun k73 => ?_) (fun k73 => ?_)
          · skip
            have hb := aWid_le (mSrt f so) e (i20 - 1)
            refine g_aload_n F dX5_look_79 rfl 0 rfl ?_
            refine g_get F dX5_look_80 0 rfl rfl i5 7 (by decide) rfl (List.mem_of_getElem? (i := 2) rfl) ?_
            refine g_istore (L' := [(0, .ref y), (1, .int (nI m)), (2, .ref za), (3, .int (nI (aWid (mSrt f so) e (i20 - 1)))), (4, .int (nI i20))]) F dX5_look_83 (by decide) [1, 2, 3, 4, 0] rfl ?_
            have lp85 : ∀ (n85 i85 : Nat), i85 + n85 = (i20 - aWid (mSrt f so) e (i20 - 1)) → ∀ (eo : AF), (∀ j, j + i85 ≤ i20 + 1 → j ≤ i20 → eo j = nI (e j)) → (∀ j, i20 + 2 ≤ j + i85 → j ≤ i20 + 1 → eo j = nI (e (j - 1))) → G E X (0 + 1) (0 + (m + 1)) 85 [(0, .ref y), (1, .int (nI m)), (2, .ref za), (3, .int (nI (aWid (mSrt f so) e (i20 - 1)))), (4, .int (nI (i20 - i85)))] [] [(y, .inr (5, [.int thr, .ref y1, .int col, .int car, .int tur, .int pre, .ref y2, .int (nI i20), .ref y3, .ref y4, .ref y5, .int off, .ref y6, .ref y7, .int wov, .int km, .int ko, .ref y8, .ref y9])), (y1, .inl (E.2.2, 96, .inl f)), (y2, .inl (E.2.2, 6, .inl th)), (y3, .inl (E.2.2, 6, .inl pa)), (y4, .inl (E.2.2, 96, .inl (mSrt f so))), (y5, .inl (E.2.2, 96, .inl cl)), (y6, .inl (E.2.2, 12, .inl he)), (y7, .inl (E.2.2, 12, .inl be)), (y8, .inl (E.2.2, 6, .inl kp)), (y9, .inl (E.2.2, 96, .inl kk)), (za, .inl (E.2.2, m + 1, .inl eo))] := by
              intro n85
              induction n85 with
              | zero =>
                intro i85 hi85 eo  hA hB
                have he85 : i85 = (i20 - aWid (mSrt f so) e (i20 - 1)) := by omega
                rw [he85] at hA hB
                rw [he85]
                refine g_iload F dX5_look_85 4 rfl ?_
                refine g_iload_n F dX5_look_87 rfl 3 rfl ?_
                refine g_icmp_le_t (tgt := 107) F dX5_look_88 (by decide) (le_nI (by omega) (by omega)) ?_
                refine g_aload_n F dX5_look_107 rfl 2 rfl ?_
                refine g_iload_n F dX5_look_108 rfl 3 rfl ?_
                refine g_iconst (v := 1) F dX5_look_109 (by decide) ?_
                refine g_iadd F dX5_look_110 ?_
                refine g_topr (y := nI (aWid (mSrt f so) e (i20 - 1) + 1)) (nI_1 _) ?_
                refine g_aload_n F dX5_look_111 rfl 2 rfl ?_
                refine g_iload_n F dX5_look_112 rfl 3 rfl ?_
                refine g_ialdN (k := aWid (mSrt f so) e (i20 - 1)) F dX5_look_113 10 rfl (by omega) (by first | decide | omega) ?_
                refine g_topr (y := nI (e (aWid (mSrt f so) e (i20 - 1)))) (hA _ (by omega) (by omega)) ?_
                refine g_aload_n F dX5_look_114 rfl 2 rfl ?_
                refine g_iload_n F dX5_look_115 rfl 3 rfl ?_
                refine g_iconst (v := 2) F dX5_look_116 (by decide) ?_
                refine g_iadd F dX5_look_117 ?_
                refine g_topr (y := nI (aWid (mSrt f so) e (i20 - 1) + 2)) (nI_add _ 2) ?_
                refine g_ialdN (k := aWid (mSrt f so) e (i20 - 1) + 2) F dX5_look_118 10 rfl (by omega) (by first | decide | omega) ?_
                refine g_topr (y := nI (e (aWid (mSrt f so) e (i20 - 1) + 1))) (hB _ (by omega) (by omega)) ?_
                refine g_aload_n F dX5_look_119 rfl 2 rfl ?_
                refine g_iload_n F dX5_look_120 rfl 3 rfl ?_
                refine g_ialdN (k := aWid (mSrt f so) e (i20 - 1)) F dX5_look_121 10 rfl (by omega) (by first | decide | omega) ?_
                refine g_topr (y := nI (e (aWid (mSrt f so) e (i20 - 1)))) (hA _ (by omega) (by omega)) ?_
                refine g_isub F dX5_look_122 ?_
                refine g_topr (y := nI (e (aWid (mSrt f so) e (i20 - 1) + 1) - e (aWid (mSrt f so) e (i20 - 1)))) (pk_sub (Nat.le_of_lt (hp.2.2.2 _ (by omega)))) ?_
                refine g_iconst (v := 2) F dX5_look_123 (by decide) ?_
                refine g_idiv F dX5_look_124 (by decide) ?_
                refine g_topr (y := nI ((e (aWid (mSrt f so) e (i20 - 1) + 1) - e (aWid (mSrt f so) e (i20 - 1))) / 2)) (by have h9 := hp.le (a := aWid (mSrt f so) e (i20 - 1) + 1) (by omega); exact pk_div (d := 2) (by omega) (by omega) (by omega)) ?_
                refine g_iadd F dX5_look_125 ?_
                refine g_topr (y := nI (e (aWid (mSrt f so) e (i20 - 1)) + (e (aWid (mSrt f so) e (i20 - 1) + 1) - e (aWid (mSrt f so) e (i20 - 1))) / 2)) (nI_add _ _) ?_
                refine g_iastN (k := aWid (mSrt f so) e (i20 - 1) + 1) (ws' := [(y, .inr (5, [.int thr, .ref y1, .int col, .int car, .int tur, .int pre, .ref y2, .int (nI i20), .ref y3, .ref y4, .ref y5, .int off, .ref y6, .ref y7, .int wov, .int km, .int ko, .ref y8, .ref y9])), (y1, .inl (E.2.2, 96, .inl f)), (y2, .inl (E.2.2, 6, .inl th)), (y3, .inl (E.2.2, 6, .inl pa)), (y4, .inl (E.2.2, 96, .inl (mSrt f so))), (y5, .inl (E.2.2, 96, .inl cl)), (y6, .inl (E.2.2, 12, .inl he)), (y7, .inl (E.2.2, 12, .inl be)), (y8, .inl (E.2.2, 6, .inl kp)), (y9, .inl (E.2.2, 96, .inl kk)), (za, .inl (E.2.2, m + 1, .inl (upd eo (aWid (mSrt f so) e (i20 - 1) + 1) (nI (e (aWid (mSrt f so) e (i20 - 1)) + (e (aWid (mSrt f so) e (i20 - 1) + 1) - e (aWid (mSrt f so) e (i20 - 1))) / 2)))))]) F dX5_look_126 10 rfl (by omega) (by first | decide | omega) rfl ?_
                refine g_aload_n F dX5_look_127 rfl 0 rfl ?_
                refine g_dup F dX5_look_128 rfl ?_
                refine g_get F dX5_look_129 0 rfl rfl i5 7 (by decide) rfl (List.mem_of_getElem? (i := 2) rfl) ?_
                refine g_iconst (v := 1) F dX5_look_132 (by decide) ?_
                refine g_iadd F dX5_look_133 ?_
                refine g_topr (y := nI (i20 + 1)) (nI_1 i20) ?_
                refine g_put (ws' := [(y, .inr (5, [.int thr, .ref y1, .int col, .int car, .int tur, .int pre, .ref y2, .int (nI (i20 + 1)), .ref y3, .ref y4, .ref y5, .int off, .ref y6, .ref y7, .int wov, .int km, .int ko, .ref y8, .ref y9])), (y1, .inl (E.2.2, 96, .inl f)), (y2, .inl (E.2.2, 6, .inl th)), (y3, .inl (E.2.2, 6, .inl pa)), (y4, .inl (E.2.2, 96, .inl (mSrt f so))), (y5, .inl (E.2.2, 96, .inl cl)), (y6, .inl (E.2.2, 12, .inl he)), (y7, .inl (E.2.2, 12, .inl be)), (y8, .inl (E.2.2, 6, .inl kp)), (y9, .inl (E.2.2, 96, .inl kk)), (za, .inl (E.2.2, m + 1, .inl (upd eo (aWid (mSrt f so) e (i20 - 1) + 1) (nI (e (aWid (mSrt f so) e (i20 - 1)) + (e (aWid (mSrt f so) e (i20 - 1) + 1) - e (aWid (mSrt f so) e (i20 - 1))) / 2)))))]) F dX5_look_134 0 rfl rfl i5 tyX5 tyX5_ok nmX5 7 (by decide) rfl (rfl) (rfl) (Nat.le_of_ble_eq_true rfl) (List.mem_of_getElem? (i := 2) rfl) rfl ?_
                refine g_goto (tgt := 20) F dX5_look_137 (by decide) ?_
                refine g_lv (L' := [(0, .ref y), (1, .int (nI m)), (2, .ref za)]) [0, 1, 2] rfl ?_
                exact ih20 (i20 + 1) (by omega) _ (aSpl e (aWid (mSrt f so) e (i20 - 1))) (by omega) (by rw [show m - i20 = (m - (i20 + 1)) + 1 by omega, aFit, if_pos k73] at hq; exact hq) (PA_spl hp (by omega) (PA_two hp (by omega) k73)) (fun j hj => by
          unfold aSpl
          by_cases e1 : j = aWid (mSrt f so) e (i20 - 1) + 1
          · subst e1; rw [pk_us, if_neg (by omega), if_pos rfl]
          · rw [pk_un e1]
            by_cases e2 : j ≤ aWid (mSrt f so) e (i20 - 1)
            · rw [if_pos e2]; exact hA j (by omega) (by omega)
            · rw [if_neg e2, if_neg e1]; exact hB j (by omega) (by omega))
              | succ n85 ih85 =>
                intro i85 hi85 eo  hA hB
                have hl85 : i85 < (i20 - aWid (mSrt f so) e (i20 - 1)) := by omega
                refine g_iload F dX5_look_85 4 rfl ?_
                refine g_iload_n F dX5_look_87 rfl 3 rfl ?_
                refine g_icmp_le_f (tgt := 107) F dX5_look_88 (by decide) (nle_nI (by omega) (by omega)) ?_
                refine g_aload_n F dX5_look_91 rfl 2 rfl ?_
                refine g_iload F dX5_look_92 4 rfl ?_
                refine g_iconst (v := 1) F dX5_look_94 (by decide) ?_
                refine g_iadd F dX5_look_95 ?_
                refine g_topr (y := nI (i20 - i85 + 1)) (nI_1 _) ?_
                refine g_aload_n F dX5_look_96 rfl 2 rfl ?_
                refine g_iload F dX5_look_97 4 rfl ?_
                refine g_ialdN (k := i20 - i85) F dX5_look_99 10 rfl (by omega) (by first | decide | omega) ?_
                refine g_topr (y := nI (e (i20 - i85))) (hA _ (by omega) (by omega)) ?_
                refine g_iastN (k := i20 - i85 + 1) (ws' := [(y, .inr (5, [.int thr, .ref y1, .int col, .int car, .int tur, .int pre, .ref y2, .int (nI i20), .ref y3, .ref y4, .ref y5, .int off, .ref y6, .ref y7, .int wov, .int km, .int ko, .ref y8, .ref y9])), (y1, .inl (E.2.2, 96, .inl f)), (y2, .inl (E.2.2, 6, .inl th)), (y3, .inl (E.2.2, 6, .inl pa)), (y4, .inl (E.2.2, 96, .inl (mSrt f so))), (y5, .inl (E.2.2, 96, .inl cl)), (y6, .inl (E.2.2, 12, .inl he)), (y7, .inl (E.2.2, 12, .inl be)), (y8, .inl (E.2.2, 6, .inl kp)), (y9, .inl (E.2.2, 96, .inl kk)), (za, .inl (E.2.2, m + 1, .inl (upd eo (i20 - i85 + 1) (nI (e (i20 - i85))))))]) F dX5_look_100 10 rfl (by omega) (by first | decide | omega) rfl ?_
                refine g_iinc (L' := [(0, .ref y), (1, .int (nI m)), (2, .ref za), (3, .int (nI (aWid (mSrt f so) e (i20 - 1)))), (4, .int (nI (i20 - (i85 + 1))))]) (v := nI (i20 - (i85 + 1))) F dX5_look_101 4 rfl (by have := pk_m1 (i20 - (i85 + 1)); rw [show i20 - (i85 + 1) + 1 = i20 - i85 by omega] at this; exact this) (by decide) [1, 2, 3, 4, 0] rfl ?_
                refine g_goto (tgt := 85) F dX5_look_104 (by decide) ?_
                exact ih85 (i85 + 1) (by omega) _ (fun j h1 h2 => by rw [pk_un (by omega)]; exact hA j (by omega) h2) (fun j h1 h2 => by
            by_cases e1 : j = i20 - i85 + 1
            · subst e1; rw [pk_us]; rfl
            · rw [pk_un e1]; exact hB j (by omega) h2)
            exact lp85 (i20 - aWid (mSrt f so) e (i20 - 1)) 0 (by omega) _ (fun j _ h => hen j h) (fun j h1 h2 => by omega)
          · skip
            have hR : mFit f so m = (e, i20) := by
              rw [show m - i20 = (m - (i20 + 1)) + 1 by omega, aFit, if_neg k73] at hq
              exact hq.symm
            refine g_goto (tgt := 140) F dX5_look_76 (by decide) ?_
            refine g_iconst (v := 0) F dX5_look_140 (by decide) ?_
            refine g_istore_n (L' := [(0, .ref y), (1, .int (nI m)), (2, .ref za), (3, .int 0), (4, .int (nI ((i20 - 1) + 1)))]) F dX5_look_141 rfl (by decide) [1, 2, 3, 0, 4] rfl ?_
            have lp142 : ∀ (n142 i142 : Nat), i142 + n142 = i20 → G E X (0 + 1) (0 + (m + 1)) 142 [(0, .ref y), (1, .int (nI m)), (2, .ref za), (3, .int (nI i142))] [] [(y, .inr (5, [.int thr, .ref y1, .int col, .int car, .int tur, .int pre, .ref y2, .int (nI i20), .ref y3, .ref y4, .ref y5, .int off, .ref y6, .ref y7, .int wov, .int km, .int ko, .ref y8, .ref y9])), (y1, .inl (E.2.2, 96, .inl f)), (y2, .inl (E.2.2, 6, .inl th)), (y3, .inl (E.2.2, 6, .inl (aPal (mSrt f so) e pa i142))), (y4, .inl (E.2.2, 96, .inl (mSrt f so))), (y5, .inl (E.2.2, 96, .inl cl)), (y6, .inl (E.2.2, 12, .inl he)), (y7, .inl (E.2.2, 12, .inl be)), (y8, .inl (E.2.2, 6, .inl kp)), (y9, .inl (E.2.2, 96, .inl kk)), (za, .inl (E.2.2, m + 1, .inl en))] := by
              intro n142
              induction n142 with
              | zero =>
                intro i142 hi142
                have he142 : i142 = i20 := by omega
                rw [he142]
                refine g_iload_n F dX5_look_142 rfl 3 rfl ?_
                refine g_aload_n F dX5_look_143 rfl 0 rfl ?_
                refine g_get F dX5_look_144 0 rfl rfl i5 7 (by decide) rfl (List.mem_of_getElem? (i := 2) rfl) ?_
                refine g_icmp_ge_t (tgt := 210) F dX5_look_147 (by decide) (le_nI (Nat.le_refl _) (by omega)) ?_
                refine g_cs (cells' := 1) (slots' := 7) (by show 0 + 1 ≤ 1; omega) (by show 0 + (m + 1) ≤ 7; omega) ?_
                refine g_sub (ws' := [(y, .inr (5, [.int thr, .ref y1, .int col, .int car, .int tur, .int pre, .ref y2, .int (nI i20), .ref y3, .ref y4, .ref y5, .int off, .ref y6, .ref y7, .int wov, .int km, .int ko, .ref y8, .ref y9])), (y1, .inl (E.2.2, 96, .inl f)), (y2, .inl (E.2.2, 6, .inl th)), (y3, .inl (E.2.2, 6, .inl (aPal (mSrt f so) e pa i20))), (y4, .inl (E.2.2, 96, .inl (mSrt f so))), (y5, .inl (E.2.2, 96, .inl cl)), (y6, .inl (E.2.2, 12, .inl he)), (y7, .inl (E.2.2, 12, .inl be)), (y8, .inl (E.2.2, 6, .inl kp)), (y9, .inl (E.2.2, 96, .inl kk))]) [0, 1, 2, 3, 4, 5, 6, 7, 8, 9] (by decide +kernel) rfl ?_
                exact g_vret F hQ dX5_look_210 (by simp only [mPal, hR])
              | succ n142 ih142 =>
                intro i142 hi142
                have hl142 : i142 < i20 := by omega
                refine g_iload_n F dX5_look_142 rfl 3 rfl ?_
                refine g_aload_n F dX5_look_143 rfl 0 rfl ?_
                refine g_get F dX5_look_144 0 rfl rfl i5 7 (by decide) rfl (List.mem_of_getElem? (i := 2) rfl) ?_
                refine g_icmp_ge_f (tgt := 210) F dX5_look_147 (by decide) (nle_nI hl142 (by omega)) ?_
                refine g_iconst (v := 0) F dX5_look_150 (by decide) ?_
                refine g_istore (L' := [(0, .ref y), (1, .int (nI m)), (2, .ref za), (3, .int (nI i142)), (4, .int 0)]) F dX5_look_151 (by decide) [1, 2, 3, 4, 0] rfl ?_
                have hlt := hp.2.2.2 i142 (by omega)
                have hle := hp.le (a := i142 + 1) (by omega)
                refine g_aload_n F dX5_look_153 rfl 2 rfl ?_
                refine g_iload_n F dX5_look_154 rfl 3 rfl ?_
                refine g_ialdN (k := i142) F dX5_look_155 10 rfl (by omega) (by first | decide | omega) ?_
                refine g_topr (y := nI (e i142)) (hen i142 (by omega)) ?_
                refine g_istore (L' := [(0, .ref y), (1, .int (nI m)), (2, .ref za), (3, .int (nI i142)), (4, .int 0), (5, .int (nI (e i142)))]) F dX5_look_156 (by decide) [1, 2, 3, 4, 5, 0] rfl ?_
                have lp158 : ∀ (n158 i158 : Nat), i158 + n158 = (e (i142 + 1) - e i142) → G E X (0 + 1) (0 + (m + 1)) 158 [(0, .ref y), (1, .int (nI m)), (2, .ref za), (3, .int (nI i142)), (4, .int (aSum (mSrt f so) (e i142) i158)), (5, .int (nI (e i142 + i158)))] [] [(y, .inr (5, [.int thr, .ref y1, .int col, .int car, .int tur, .int pre, .ref y2, .int (nI i20), .ref y3, .ref y4, .ref y5, .int off, .ref y6, .ref y7, .int wov, .int km, .int ko, .ref y8, .ref y9])), (y1, .inl (E.2.2, 96, .inl f)), (y2, .inl (E.2.2, 6, .inl th)), (y3, .inl (E.2.2, 6, .inl (aPal (mSrt f so) e pa i142))), (y4, .inl (E.2.2, 96, .inl (mSrt f so))), (y5, .inl (E.2.2, 96, .inl cl)), (y6, .inl (E.2.2, 12, .inl he)), (y7, .inl (E.2.2, 12, .inl be)), (y8, .inl (E.2.2, 6, .inl kp)), (y9, .inl (E.2.2, 96, .inl kk)), (za, .inl (E.2.2, m + 1, .inl en))] := by
                  intro n158
                  induction n158 with
                  | zero =>
                    intro i158 hi158
                    have he158 : i158 = (e (i142 + 1) - e i142) := by omega
                    rw [he158]
                    refine g_iload F dX5_look_158 5 rfl ?_
                    refine g_aload_n F dX5_look_160 rfl 2 rfl ?_
                    refine g_iload_n F dX5_look_161 rfl 3 rfl ?_
                    refine g_iconst (v := 1) F dX5_look_162 (by decide) ?_
                    refine g_iadd F dX5_look_163 ?_
                    refine g_topr (y := nI (i142 + 1)) (nI_1 i142) ?_
                    refine g_ialdN (k := i142 + 1) F dX5_look_164 10 rfl (by omega) (by first | decide | omega) ?_
                    refine g_topr (y := nI (e (i142 + 1))) (hen (i142 + 1) (by omega)) ?_
                    refine g_icmp_ge_t (tgt := 186) F dX5_look_165 (by decide) (le_nI (by omega) (by omega)) ?_
                    refine g_aload_n F dX5_look_186 rfl 0 rfl ?_
                    refine g_get F dX5_look_187 0 rfl rfl i5 8 (by decide) rfl (List.mem_of_getElem? (i := 4) rfl) ?_
                    refine g_iload_n F dX5_look_190 rfl 3 rfl ?_
                    refine g_iload F dX5_look_191 4 rfl ?_
                    refine g_aload_n F dX5_look_193 rfl 2 rfl ?_
                    refine g_iload_n F dX5_look_194 rfl 3 rfl ?_
                    refine g_iconst (v := 1) F dX5_look_195 (by decide) ?_
                    refine g_iadd F dX5_look_196 ?_
                    refine g_topr (y := nI (i142 + 1)) (nI_1 i142) ?_
                    refine g_ialdN (k := i142 + 1) F dX5_look_197 10 rfl (by omega) (by first | decide | omega) ?_
                    refine g_topr (y := nI (e (i142 + 1))) (hen (i142 + 1) (by omega)) ?_
                    refine g_aload_n F dX5_look_198 rfl 2 rfl ?_
                    refine g_iload_n F dX5_look_199 rfl 3 rfl ?_
                    refine g_ialdN (k := i142) F dX5_look_200 10 rfl (by omega) (by first | decide | omega) ?_
                    refine g_topr (y := nI (e i142)) (hen i142 (by omega)) ?_
                    refine g_isub F dX5_look_201 ?_
                    refine g_topr (y := nI (e (i142 + 1) - e i142)) (pk_sub (Nat.le_of_lt (hp.2.2.2 _ (by omega)))) ?_
                    refine g_idiv F dX5_look_202 (nI_ne0 (by omega) (by omega)) ?_
                    refine g_iastN (k := i142) (ws' := [(y, .inr (5, [.int thr, .ref y1, .int col, .int car, .int tur, .int pre, .ref y2, .int (nI i20), .ref y3, .ref y4, .ref y5, .int off, .ref y6, .ref y7, .int wov, .int km, .int ko, .ref y8, .ref y9])), (y1, .inl (E.2.2, 96, .inl f)), (y2, .inl (E.2.2, 6, .inl th)), (y3, .inl (E.2.2, 6, .inl (upd (aPal (mSrt f so) e pa i142) i142 ((aSum (mSrt f so) (e i142) (e (i142 + 1) - e i142)) / (nI (e (i142 + 1) - e i142)))))), (y4, .inl (E.2.2, 96, .inl (mSrt f so))), (y5, .inl (E.2.2, 96, .inl cl)), (y6, .inl (E.2.2, 12, .inl he)), (y7, .inl (E.2.2, 12, .inl be)), (y8, .inl (E.2.2, 6, .inl kp)), (y9, .inl (E.2.2, 96, .inl kk)), (za, .inl (E.2.2, m + 1, .inl en))]) F dX5_look_203 3 rfl (by omega) (by first | decide | omega) rfl ?_
                    refine g_iinc (L' := [(0, .ref y), (1, .int (nI m)), (2, .ref za), (3, .int (nI (i142 + 1))), (4, .int (aSum (mSrt f so) (e i142) (e (i142 + 1) - e i142))), (5, .int (nI (e i142 + (e (i142 + 1) - e i142))))]) (v := nI (i142 + 1)) F dX5_look_204 3 rfl (nI_1 _) (by decide) [1, 2, 3, 0, 4, 5] rfl ?_
                    refine g_goto (tgt := 142) F dX5_look_207 (by decide) ?_
                    refine g_lv (L' := [(0, .ref y), (1, .int (nI m)), (2, .ref za), (3, .int (nI (i142 + 1)))]) [0, 1, 2, 3] rfl ?_
                    exact ih142 (i142 + 1) (by omega)
                  | succ n158 ih158 =>
                    intro i158 hi158
                    have hl158 : i158 < (e (i142 + 1) - e i142) := by omega
                    refine g_iload F dX5_look_158 5 rfl ?_
                    refine g_aload_n F dX5_look_160 rfl 2 rfl ?_
                    refine g_iload_n F dX5_look_161 rfl 3 rfl ?_
                    refine g_iconst (v := 1) F dX5_look_162 (by decide) ?_
                    refine g_iadd F dX5_look_163 ?_
                    refine g_topr (y := nI (i142 + 1)) (nI_1 i142) ?_
                    refine g_ialdN (k := i142 + 1) F dX5_look_164 10 rfl (by omega) (by first | decide | omega) ?_
                    refine g_topr (y := nI (e (i142 + 1))) (hen (i142 + 1) (by omega)) ?_
                    refine g_icmp_ge_f (tgt := 186) F dX5_look_165 (by decide) (nle_nI (by omega) (by omega)) ?_
                    refine g_iload F dX5_look_168 4 rfl ?_
                    refine g_aload_n F dX5_look_170 rfl 0 rfl ?_
                    refine g_get F dX5_look_171 0 rfl rfl i5 9 (by decide) rfl (List.mem_of_getElem? (i := 3) rfl) ?_
                    refine g_iload F dX5_look_174 5 rfl ?_
                    refine g_ialdN (k := e i142 + i158) F dX5_look_176 4 rfl (by omega) (by first | decide | omega) ?_
                    refine g_iadd F dX5_look_177 ?_
                    refine g_istore (L' := [(0, .ref y), (1, .int (nI m)), (2, .ref za), (3, .int (nI i142)), (4, .int ((aSum (mSrt f so) (e i142) i158) + ((mSrt f so) (e i142 + i158)))), (5, .int (nI (e i142 + i158)))]) F dX5_look_178 (by decide) [1, 2, 3, 4, 0, 5] rfl ?_
                    refine g_iinc (L' := [(0, .ref y), (1, .int (nI m)), (2, .ref za), (3, .int (nI i142)), (4, .int ((aSum (mSrt f so) (e i142) i158) + ((mSrt f so) (e i142 + i158)))), (5, .int (nI (e i142 + i158 + 1)))]) (v := nI (e i142 + i158 + 1)) F dX5_look_180 5 rfl (nI_1 _) (by decide) [1, 2, 3, 4, 5, 0] rfl ?_
                    refine g_goto (tgt := 158) F dX5_look_183 (by decide) ?_
                    exact ih158 (i158 + 1) (by omega)
                exact lp158 (e (i142 + 1) - e i142) 0 (by omega)
            refine g_lv (L' := [(0, .ref y), (1, .int (nI m)), (2, .ref za), (3, .int 0)]) [0, 1, 2, 3] rfl ?_
            exact lp142 i20 0 (by omega)
        | succ n33 ih33 =>
          intro i33 hi33
          have hl33 : i33 < (i20 - 1) := by omega
          refine g_iload F dX5_look_33 4 rfl ?_
          refine g_aload_n F dX5_look_35 rfl 0 rfl ?_
          refine g_get F dX5_look_36 0 rfl rfl i5 7 (by decide) rfl (List.mem_of_getElem? (i := 2) rfl) ?_
          refine g_icmp_ge_f (tgt := 67) F dX5_look_39 (by decide) (nle_nI (by omega) (by omega)) ?_
          refine g_aload_n F dX5_look_42 rfl 0 rfl ?_
          refine g_aload_n F dX5_look_43 rfl 2 rfl ?_
          refine g_iload F dX5_look_44 4 rfl ?_
          refine g_callV (ws' := [(y, .inr (5, [.int thr, .ref y1, .int col, .int car, .int tur, .int pre, .ref y2, .int (nI i20), .ref y3, .ref y4, .ref y5, .int off, .ref y6, .ref y7, .int wov, .int km, .int ko, .ref y8, .ref y9])), (y1, .inl (E.2.2, 96, .inl f)), (y2, .inl (E.2.2, 6, .inl th)), (y3, .inl (E.2.2, 6, .inl pa)), (y4, .inl (E.2.2, 96, .inl (mSrt f so))), (y5, .inl (E.2.2, 96, .inl cl)), (y6, .inl (E.2.2, 12, .inl he)), (y7, .inl (E.2.2, 12, .inl be)), (y8, .inl (E.2.2, 6, .inl kp)), (y9, .inl (E.2.2, 96, .inl kk)), (za, .inl (E.2.2, m + 1, .inl en))]) F dX5_look_46 (c_X5_wide E y y1 y2 y3 y4 y5 y6 y7 y8 y9 f th pa (mSrt f so) cl he be kp kk thr col car tur pre (nI i20) off wov km ko za (m + 1) i20 (i33 + 1) en e (by first | assumption | decide | omega) (by first | assumption | decide | omega) (by omega) (by omega) (by omega)) rfl gX5_look_X5_wide 0 rfl rfl kV_X5_wide ⟨by decide, by decide⟩ [0, 1, 2, 3, 4, 5, 6, 7, 8, 9, 10] rfl (by decide +kernel) rfl rfl (Nat.le_of_ble_eq_true rfl) ⟨by show 0 + 1 + 0 ≤ 1; omega, by show 0 + (m + 1) + 0 ≤ 7; omega⟩ ?_
          refine g_aload_n F dX5_look_49 rfl 0 rfl ?_
          refine g_aload_n F dX5_look_50 rfl 2 rfl ?_
          refine g_iload_n F dX5_look_51 rfl 3 rfl ?_
          refine g_callV (ws' := [(y, .inr (5, [.int thr, .ref y1, .int col, .int car, .int tur, .int pre, .ref y2, .int (nI i20), .ref y3, .ref y4, .ref y5, .int off, .ref y6, .ref y7, .int wov, .int km, .int ko, .ref y8, .ref y9])), (y1, .inl (E.2.2, 96, .inl f)), (y2, .inl (E.2.2, 6, .inl th)), (y3, .inl (E.2.2, 6, .inl pa)), (y4, .inl (E.2.2, 96, .inl (mSrt f so))), (y5, .inl (E.2.2, 96, .inl cl)), (y6, .inl (E.2.2, 12, .inl he)), (y7, .inl (E.2.2, 12, .inl be)), (y8, .inl (E.2.2, 6, .inl kp)), (y9, .inl (E.2.2, 96, .inl kk)), (za, .inl (E.2.2, m + 1, .inl en))]) F dX5_look_52 (c_X5_wide E y y1 y2 y3 y4 y5 y6 y7 y8 y9 f th pa (mSrt f so) cl he be kp kk thr col car tur pre (nI i20) off wov km ko za (m + 1) i20 (aWid (mSrt f so) e i33) en e (by first | assumption | decide | omega) (by first | assumption | decide | omega) (by have := aWid_le (mSrt f so) e i33; omega) (by omega) (by omega)) rfl gX5_look_X5_wide 0 rfl rfl kV_X5_wide ⟨by decide, by decide⟩ [0, 1, 2, 3, 4, 5, 6, 7, 8, 9, 10] rfl (by decide +kernel) rfl rfl (Nat.le_of_ble_eq_true rfl) ⟨by show 0 + 1 + 0 ≤ 1; omega, by show 0 + (m + 1) + 0 ≤ 7; omega⟩ ?_
          refine g_icmp_le (tgt := 61) F dX5_look_55 (by decide) (fun k55 => ?_) (fun k55 => ?_)
          · skip
            refine g_iinc (L' := [(0, .ref y), (1, .int (nI m)), (2, .ref za), (3, .int (nI (aWid (mSrt f so) e i33))), (4, .int (nI (i33 + 1 + 1)))]) (v := nI (i33 + 1 + 1)) F dX5_look_61 4 rfl (nI_1 _) (by decide) [1, 2, 3, 4, 0] rfl ?_
            refine g_goto (tgt := 33) F dX5_look_64 (by decide) ?_
            have q := ih33 (i33 + 1) (by omega)
            simp only [aWid, k55, if_true, if_false, not_true_eq_false, not_false_eq_true] at q
            exact q
          · skip
            refine g_iload F dX5_look_58 4 rfl ?_
            refine g_istore_n (L' := [(0, .ref y), (1, .int (nI m)), (2, .ref za), (3, .int (nI (i33 + 1))), (4, .int (nI (i33 + 1)))]) F dX5_look_60 rfl (by decide) [1, 2, 3, 0, 4] rfl ?_
            refine g_iinc (L' := [(0, .ref y), (1, .int (nI m)), (2, .ref za), (3, .int (nI (i33 + 1))), (4, .int (nI (i33 + 1 + 1)))]) (v := nI (i33 + 1 + 1)) F dX5_look_61 4 rfl (nI_1 _) (by decide) [1, 2, 3, 4, 0] rfl ?_
            refine g_goto (tgt := 33) F dX5_look_64 (by decide) ?_
            have q := ih33 (i33 + 1) (by omega)
            simp only [aWid, k55, if_true, if_false, not_true_eq_false, not_false_eq_true] at q
            exact q
      exact lp33 (i20 - 1) 0 (by omega)
  exact lp20 (m - 1) 1 (by omega) _ aE0 (by omega) rfl PA_0 (fun j hj => by match j, hj with | 0, _ => rfl | 1, _ => rfl)
end PLOOK
