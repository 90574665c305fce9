/-! the class: Palette.fit -/
section PFIT
def sSorted (f so : AF) : AF := (sSoS (sCn f) so 256).1
def sFitF (f so st : AF) (m : Nat) : AF × Nat := sFit (sSorted f so) (m - 1) 1 (sPut 6 st 0 0)
def sMnsF (f so st sh : AF) (m : Nat) : AF := sMns (sSorted f so) (sFitF f so st m).1 (sFitF f so st m).2 sh (sFitF f so st m).2
set_option maxHeartbeats 4000000 in
set_option maxRecDepth 100000 in
theorem c_X2_fit (E : gE) (p : Nat) (p1 : Nat) (p2 : Nat) (p3 : Nat) (p4 : Nat) (t : AF) (so : AF) (st : AF) (sh : AF) (bx : Int32) (g : Nat) (ga : Nat) (f : AF) (m : Nat) (h2 : 2 ≤ m) (h6 : m ≤ 6) : Ct E yX2_fit wsX2_fit ({ frames := 4, cells := 0, slots := 0, locals := 85 }) [.ref p, .ref g, .int (nI m)] [(p, .inr (2, [.ref p1, .ref p2, .ref p3, .ref p4, .int bx])), (p1, .inl (E.2.2, 256, .inl t)), (p2, .inl (E.2.2, 96, .inl so)), (p3, .inl (E.2.2, 6, .inl st)), (p4, .inl (E.2.2, 6, .inl sh)), (g, .inr (1, [.ref ga])), (ga, .inl (E.2.2, 96, .inl f))] none [(p, .inr (2, [.ref p1, .ref p2, .ref p3, .ref p4, .int (nI (sFitF f so st m).2)])), (p1, .inl (E.2.2, 256, .inl (sTally f t))), (p2, .inl (E.2.2, 96, .inl (sSorted f so))), (p3, .inl (E.2.2, 6, .inl ((sFitF f so st m).1))), (p4, .inl (E.2.2, 6, .inl (sMnsF f so st sh m))), (g, .inr (1, [.ref ga])), (ga, .inl (E.2.2, 96, .inl f))] := by
  refine Ct.of (cc := cX2_fit) (maxL := 5) (ret := none) (own := RX2) (L := [(0, .ref p), (1, .ref g), (2, .int (nI m))]) (by decide) rfl rfl rfl (Nat.le_of_ble_eq_true rfl) rfl ?_
  intro X F hQ
  have i1 : ∀ w ∈ u_ws RX1 TX1 1, w ∈ wsX2_fit := gsub [59] rfl
  have i2 : ∀ w ∈ u_ws RX2 TX2 5, w ∈ wsX2_fit := gsub [54, 55, 56, 57, 58] rfl
  refine g_aload_n F dX2_fit_0 rfl 0 rfl ?_
  refine g_aload_n F dX2_fit_1 rfl 1 rfl ?_
  refine g_callV (ws' := [(p, .inr (2, [.ref p1, .ref p2, .ref p3, .ref p4, .int bx])), (p1, .inl (E.2.2, 256, .inl (sTally f t))), (p2, .inl (E.2.2, 96, .inl so)), (p3, .inl (E.2.2, 6, .inl st)), (p4, .inl (E.2.2, 6, .inl sh)), (g, .inr (1, [.ref ga])), (ga, .inl (E.2.2, 96, .inl f))]) F dX2_fit_2 (c_X2_tallyShades E p p1 p2 p3 p4 t so st sh bx g ga f ) rfl gX2_fit_X2_tallyShades 0 rfl rfl kV_X2_tallyShades ⟨by decide, by decide⟩ [0, 1, 2, 3, 4, 5, 6] rfl (by decide +kernel) rfl rfl (Nat.le_of_ble_eq_true rfl) ⟨by decide, by decide⟩ ?_
  refine g_aload_n F dX2_fit_5 rfl 0 rfl ?_
  refine g_callV (ws' := [(p, .inr (2, [.ref p1, .ref p2, .ref p3, .ref p4, .int bx])), (p1, .inl (E.2.2, 256, .inl (sTally f t))), (p2, .inl (E.2.2, 96, .inl ((sSoS (sCn f) so 256).1))), (p3, .inl (E.2.2, 6, .inl st)), (p4, .inl (E.2.2, 6, .inl sh)), (g, .inr (1, [.ref ga])), (ga, .inl (E.2.2, 96, .inl f))]) F dX2_fit_6 (c_X2_sortShades E p p1 p2 p3 p4 (sTally f t) so st sh bx (sCn f) (fun s hs => sTally_cn f t hs) (sCn_le f)) rfl gX2_fit_X2_sortShades 0 rfl rfl kV_X2_sortShades ⟨by decide, by decide⟩ [0, 1, 2, 3, 4] rfl (by decide +kernel) rfl rfl (Nat.le_of_ble_eq_true rfl) ⟨by decide, by decide⟩ ?_
  refine g_aload_n F dX2_fit_9 rfl 0 rfl ?_
  refine g_iconst (v := 1) F dX2_fit_10 (by decide) ?_
  refine g_put (ws' := [(p, .inr (2, [.ref p1, .ref p2, .ref p3, .ref p4, .int 1])), (p1, .inl (E.2.2, 256, .inl (sTally f t))), (p2, .inl (E.2.2, 96, .inl ((sSoS (sCn f) so 256).1))), (p3, .inl (E.2.2, 6, .inl st)), (p4, .inl (E.2.2, 6, .inl sh)), (g, .inr (1, [.ref ga])), (ga, .inl (E.2.2, 96, .inl f))]) F dX2_fit_11 0 rfl rfl i2 tyX2 tyX2_ok nmX2 4 (by decide) rfl (rfl) (rfl) (Nat.le_of_ble_eq_true rfl) (List.mem_of_getElem? (i := 1) rfl) rfl ?_
  refine g_aload_n F dX2_fit_14 rfl 0 rfl ?_
  refine g_get F dX2_fit_15 0 rfl rfl i2 2 (by decide) rfl (List.mem_of_getElem? (i := 2) rfl) ?_
  refine g_iconst (v := 0) F dX2_fit_18 (by decide) ?_
  refine g_iconst (v := 0) F dX2_fit_19 (by decide) ?_
  refine g_callSN (ws' := [(p, .inr (2, [.ref p1, .ref p2, .ref p3, .ref p4, .int 1])), (p1, .inl (E.2.2, 256, .inl (sTally f t))), (p2, .inl (E.2.2, 96, .inl ((sSoS (sCn f) so 256).1))), (p3, .inl (E.2.2, 6, .inl (sPut 6 st 0 0))), (p4, .inl (E.2.2, 6, .inl sh)), (g, .inr (1, [.ref ga])), (ga, .inl (E.2.2, 96, .inl f))]) F dX2_fit_20 (c_X4_putNumber E p3 6 st 0 0 (by first | assumption | decide | omega)) rfl gX2_fit_X4_putNumber_n35 (List.mem_of_getElem? (i := 23) rfl) (List.mem_of_getElem? (i := 11) rfl) (List.mem_of_getElem? (i := 11) rfl) kS_X4_putNumber ⟨by decide, by decide⟩ [3] rfl (by decide +kernel) rfl rfl (Nat.le_of_ble_eq_true rfl) ⟨by decide, by decide⟩ ?_
  refine g_iconst (v := 1) F dX2_fit_23 (by decide) ?_
  refine g_istore_n (L' := [(0, .ref p), (1, .ref g), (2, .int (nI m)), (3, .int 1)]) F dX2_fit_24 rfl (by decide) [1, 2, 3, 0] rfl ?_
  have lp25 : ∀ (n25 i25 : Nat), i25 + n25 = m → ∀ (stt : AF), (1 ≤ i25) → (sFit (sSorted f so) (m - i25) i25 stt = sFitF f so st m) → (PT stt i25) → G E X 0 0 25 [(0, .ref p), (1, .ref g), (2, .int (nI m)), (3, .int (nI i25))] [] [(p, .inr (2, [.ref p1, .ref p2, .ref p3, .ref p4, .int (nI i25)])), (p1, .inl (E.2.2, 256, .inl (sTally f t))), (p2, .inl (E.2.2, 96, .inl (sSorted f so))), (p3, .inl (E.2.2, 6, .inl stt)), (p4, .inl (E.2.2, 6, .inl sh)), (g, .inr (1, [.ref ga])), (ga, .inl (E.2.2, 96, .inl f))] := by
    intro n25
    induction n25 with
    | zero =>
      intro i25 hi25 stt  h1q hq hp
      have he25 : i25 = m := by omega
      rw [he25] at hp hq
      rw [Nat.sub_self] at hq
      have hR : sFitF f so st m = (stt, m) := hq.symm
      rw [he25]
      refine g_iload_n F dX2_fit_25 rfl 3 rfl ?_
      refine g_iload_n F dX2_fit_26 rfl 2 rfl ?_
      refine g_icmp_ge_t (tgt := 66) F dX2_fit_27 (by decide) (le_nI (Nat.le_refl m) (by omega)) ?_
      refine g_iconst (v := 0) F dX2_fit_66 (by decide) ?_
      refine g_istore_n (L' := [(0, .ref p), (1, .ref g), (2, .int (nI m)), (3, .int 0)]) F dX2_fit_67 rfl (by decide) [1, 2, 3, 0] rfl ?_
      have lp68 : ∀ (n68 i68 : Nat), i68 + n68 = m → G E X 0 0 68 [(0, .ref p), (1, .ref g), (2, .int (nI m)), (3, .int (nI i68))] [] [(p, .inr (2, [.ref p1, .ref p2, .ref p3, .ref p4, .int (nI m)])), (p1, .inl (E.2.2, 256, .inl (sTally f t))), (p2, .inl (E.2.2, 96, .inl (sSorted f so))), (p3, .inl (E.2.2, 6, .inl stt)), (p4, .inl (E.2.2, 6, .inl (sMns (sSorted f so) stt m sh i68))), (g, .inr (1, [.ref ga])), (ga, .inl (E.2.2, 96, .inl f))] := by
        intro n68
        induction n68 with
        | zero =>
          intro i68 hi68
          have he68 : i68 = m := by omega
          rw [he68]
          refine g_iload_n F dX2_fit_68 rfl 3 rfl ?_
          refine g_aload_n F dX2_fit_69 rfl 0 rfl ?_
          refine g_get F dX2_fit_70 0 rfl rfl i2 4 (by decide) rfl (List.mem_of_getElem? (i := 1) rfl) ?_
          refine g_icmp_ge_t (tgt := 95) F dX2_fit_73 (by decide) (le_nI (Nat.le_refl _) (by omega)) ?_
          exact g_vret F hQ dX2_fit_95 (by simp only [sMnsF, hR])
        | succ n68 ih68 =>
          intro i68 hi68
          have hl68 : i68 < m := by omega
          refine g_iload_n F dX2_fit_68 rfl 3 rfl ?_
          refine g_aload_n F dX2_fit_69 rfl 0 rfl ?_
          refine g_get F dX2_fit_70 0 rfl rfl i2 4 (by decide) rfl (List.mem_of_getElem? (i := 1) rfl) ?_
          refine g_icmp_ge_f (tgt := 95) F dX2_fit_73 (by decide) (nle_nI hl68 (by omega)) ?_
          refine g_aload_n F dX2_fit_76 rfl 0 rfl ?_
          refine g_get F dX2_fit_77 0 rfl rfl i2 3 (by decide) rfl (List.mem_of_getElem? (i := 3) rfl) ?_
          refine g_iload_n F dX2_fit_80 rfl 3 rfl ?_
          refine g_aload_n F dX2_fit_81 rfl 0 rfl ?_
          refine g_iload_n F dX2_fit_82 rfl 3 rfl ?_
          refine g_callV (ws' := [(p, .inr (2, [.ref p1, .ref p2, .ref p3, .ref p4, .int (nI m)])), (p1, .inl (E.2.2, 256, .inl (sTally f t))), (p2, .inl (E.2.2, 96, .inl (sSorted f so))), (p3, .inl (E.2.2, 6, .inl stt)), (p4, .inl (E.2.2, 6, .inl (sMns (sSorted f so) stt m sh i68))), (g, .inr (1, [.ref ga])), (ga, .inl (E.2.2, 96, .inl f))]) F dX2_fit_83 (c_X2_meanOf E p p1 p2 p3 p4 (sTally f t) (sSorted f so) stt (sMns (sSorted f so) stt m sh i68) (nI m) (nI i68) (sE stt m i68) (sE stt m (i68 + 1)) (hp.st hl68) (hp.en hl68) (hp.mono (Nat.lt_succ_self _) hl68) (hp.le hl68)) rfl gX2_fit_X2_meanOf 0 rfl rfl kV_X2_meanOf ⟨by decide, by decide⟩ [0, 1, 2, 3, 4] rfl (by decide +kernel) rfl rfl (Nat.le_of_ble_eq_true rfl) ⟨by decide, by decide⟩ ?_
          refine g_callSN (ws' := [(p, .inr (2, [.ref p1, .ref p2, .ref p3, .ref p4, .int (nI m)])), (p1, .inl (E.2.2, 256, .inl (sTally f t))), (p2, .inl (E.2.2, 96, .inl (sSorted f so))), (p3, .inl (E.2.2, 6, .inl stt)), (p4, .inl (E.2.2, 6, .inl (sPut 6 (sMns (sSorted f so) stt m sh i68) (nI i68) (sSum (sSorted f so) (sE stt m i68) ((sE stt m (i68 + 1)) - (sE stt m i68)) / nI ((sE stt m (i68 + 1)) - (sE stt m i68)))))), (g, .inr (1, [.ref ga])), (ga, .inl (E.2.2, 96, .inl f))]) F dX2_fit_86 (c_X4_putNumber E p4 6 (sMns (sSorted f so) stt m sh i68) (nI i68) (sSum (sSorted f so) (sE stt m i68) ((sE stt m (i68 + 1)) - (sE stt m i68)) / nI ((sE stt m (i68 + 1)) - (sE stt m i68))) (by first | assumption | decide | omega)) rfl gX2_fit_X4_putNumber_n35 (List.mem_of_getElem? (i := 23) rfl) (List.mem_of_getElem? (i := 11) rfl) (List.mem_of_getElem? (i := 11) rfl) kS_X4_putNumber ⟨by decide, by decide⟩ [4] rfl (by decide +kernel) rfl rfl (Nat.le_of_ble_eq_true rfl) ⟨by decide, by decide⟩ ?_
          refine g_iinc (L' := [(0, .ref p), (1, .ref g), (2, .int (nI m)), (3, .int (nI (i68 + 1)))]) (v := nI (i68 + 1)) F dX2_fit_89 3 rfl (nI_1 _) (by decide) [1, 2, 3, 0] rfl ?_
          refine g_goto (tgt := 68) F dX2_fit_92 (by decide) ?_
          exact ih68 (i68 + 1) (by omega)
      exact lp68 m 0 (by omega)
    | succ n25 ih25 =>
      intro i25 hi25 stt  h1q hq hp
      have hl25 : i25 < m := by omega
      refine g_iload_n F dX2_fit_25 rfl 3 rfl ?_
      refine g_iload_n F dX2_fit_26 rfl 2 rfl ?_
      refine g_icmp_ge_f (tgt := 66) F dX2_fit_27 (by decide) (nle_nI hl25 (by omega)) ?_
      refine g_iload_n F dX2_fit_30 rfl 3 rfl ?_
      refine g_bipush (v := 6) F dX2_fit_31 (by decide) ?_
      refine g_icmp_ge_f (tgt := 66) F dX2_fit_33 (by decide) (nle_nI (n := 6) (by omega) (by omega)) ?_
      refine g_aload_n F dX2_fit_36 rfl 0 rfl ?_
      refine g_callV (ws' := [(p, .inr (2, [.ref p1, .ref p2, .ref p3, .ref p4, .int (nI i25)])), (p1, .inl (E.2.2, 256, .inl (sTally f t))), (p2, .inl (E.2.2, 96, .inl (sSorted f so))), (p3, .inl (E.2.2, 6, .inl stt)), (p4, .inl (E.2.2, 6, .inl sh)), (g, .inr (1, [.ref ga])), (ga, .inl (E.2.2, 96, .inl f))]) F dX2_fit_37 (c_X2_widestBox E p p1 p2 p3 p4 (sTally f t) (sSorted f so) stt sh i25 (by first | assumption | decide | omega) (by first | assumption | decide | omega)) rfl gX2_fit_X2_widestBox 0 rfl rfl kV_X2_widestBox ⟨by decide, by decide⟩ [0, 1, 2, 3, 4] rfl (by decide +kernel) rfl rfl (Nat.le_of_ble_eq_true rfl) ⟨by decide, by decide⟩ ?_
      refine g_istore (L' := [(0, .ref p), (1, .ref g), (2, .int (nI m)), (3, .int (nI i25)), (4, .int (nI (sWid (sSorted f so) stt (nI i25) (i25 - 1))))]) F dX2_fit_40 (by decide) [1, 2, 3, 4, 0] rfl ?_
      refine g_aload_n F dX2_fit_42 rfl 0 rfl ?_
      refine g_iload F dX2_fit_43 4 rfl ?_
      refine g_callV (ws' := [(p, .inr (2, [.ref p1, .ref p2, .ref p3, .ref p4, .int (nI i25)])), (p1, .inl (E.2.2, 256, .inl (sTally f t))), (p2, .inl (E.2.2, 96, .inl (sSorted f so))), (p3, .inl (E.2.2, 6, .inl stt)), (p4, .inl (E.2.2, 6, .inl sh)), (g, .inr (1, [.ref ga])), (ga, .inl (E.2.2, 96, .inl f))]) F dX2_fit_45 (c_X2_spreadOf E p p1 p2 p3 p4 (sTally f t) (sSorted f so) stt sh (nI i25) (nI (sWid (sSorted f so) stt (nI i25) (i25 - 1))) ) rfl gX2_fit_X2_spreadOf 0 rfl rfl kV_X2_spreadOf ⟨by decide, by decide⟩ [0, 1, 2, 3, 4] rfl (by decide +kernel) rfl rfl (Nat.le_of_ble_eq_true rfl) ⟨by decide, by decide⟩ ?_
      refine g_if_ne (tgt := 54) F dX2_fit_48 (by decide) (fun k48 => ?_) (fun k48 => ?_)
      · skip
        refine g_aload_n F dX2_fit_54 rfl 0 rfl ?_
        refine g_iload F dX2_fit_55 4 rfl ?_
        refine g_callV (ws' := [(p, .inr (2, [.ref p1, .ref p2, .ref p3, .ref p4, .int (nI (i25 + 1))])), (p1, .inl (E.2.2, 256, .inl (sTally f t))), (p2, .inl (E.2.2, 96, .inl (sSorted f so))), (p3, .inl (E.2.2, 6, .inl (sSplit stt i25 (sWid (sSorted f so) stt (nI i25) (i25 - 1))))), (p4, .inl (E.2.2, 6, .inl sh)), (g, .inr (1, [.ref ga])), (ga, .inl (E.2.2, 96, .inl f))]) F dX2_fit_57 (c_X2_split E p p1 p2 p3 p4 (sTally f t) (sSorted f so) stt sh i25 (sWid (sSorted f so) stt (nI i25) (i25 - 1)) (by have := sWid_le (sSorted f so) stt (nI i25) (i25 - 1); omega) (by omega)) rfl gX2_fit_X2_split 0 rfl rfl kV_X2_split ⟨by decide, by decide⟩ [0, 1, 2, 3, 4] rfl (by decide +kernel) rfl rfl (Nat.le_of_ble_eq_true rfl) ⟨by decide, by decide⟩ ?_
        refine g_iinc (L' := [(0, .ref p), (1, .ref g), (2, .int (nI m)), (3, .int (nI (i25 + 1))), (4, .int (nI (sWid (sSorted f so) stt (nI i25) (i25 - 1))))]) (v := nI (i25 + 1)) F dX2_fit_60 3 rfl (nI_1 _) (by decide) [1, 2, 3, 0, 4] rfl ?_
        refine g_goto (tgt := 25) F dX2_fit_63 (by decide) ?_
        refine g_lv (L' := [(0, .ref p), (1, .ref g), (2, .int (nI m)), (3, .int (nI (i25 + 1)))]) [0, 1, 2, 3] rfl ?_
        exact ih25 (i25 + 1) (by omega) _ (by omega) (by rw [show m - i25 = (m - (i25 + 1)) + 1 by omega, sFit, if_pos k48] at hq; exact hq) (PT_split hp (by omega) (by have := sWid_le (sSorted f so) stt (nI i25) (i25 - 1); omega) (PT_two hp (by have := sWid_le (sSorted f so) stt (nI i25) (i25 - 1); omega) k48))
      · skip
        have hR : sFitF f so st m = (stt, i25) := by
          rw [show m - i25 = (m - (i25 + 1)) + 1 by omega, sFit, if_neg k48] at hq
          exact hq.symm
        refine g_goto (tgt := 66) F dX2_fit_51 (by decide) ?_
        refine g_iconst (v := 0) F dX2_fit_66 (by decide) ?_
        refine g_istore_n (L' := [(0, .ref p), (1, .ref g), (2, .int (nI m)), (3, .int 0), (4, .int (nI (sWid (sSorted f so) stt (nI i25) (i25 - 1))))]) F dX2_fit_67 rfl (by decide) [1, 2, 3, 0, 4] rfl ?_
        have lp68 : ∀ (n68 i68 : Nat), i68 + n68 = i25 → G E X 0 0 68 [(0, .ref p), (1, .ref g), (2, .int (nI m)), (3, .int (nI i68))] [] [(p, .inr (2, [.ref p1, .ref p2, .ref p3, .ref p4, .int (nI i25)])), (p1, .inl (E.2.2, 256, .inl (sTally f t))), (p2, .inl (E.2.2, 96, .inl (sSorted f so))), (p3, .inl (E.2.2, 6, .inl stt)), (p4, .inl (E.2.2, 6, .inl (sMns (sSorted f so) stt i25 sh i68))), (g, .inr (1, [.ref ga])), (ga, .inl (E.2.2, 96, .inl f))] := by
          intro n68
          induction n68 with
          | zero =>
            intro i68 hi68
            have he68 : i68 = i25 := by omega
            rw [he68]
            refine g_iload_n F dX2_fit_68 rfl 3 rfl ?_
            refine g_aload_n F dX2_fit_69 rfl 0 rfl ?_
            refine g_get F dX2_fit_70 0 rfl rfl i2 4 (by decide) rfl (List.mem_of_getElem? (i := 1) rfl) ?_
            refine g_icmp_ge_t (tgt := 95) F dX2_fit_73 (by decide) (le_nI (Nat.le_refl _) (by omega)) ?_
            exact g_vret F hQ dX2_fit_95 (by simp only [sMnsF, hR])
          | succ n68 ih68 =>
            intro i68 hi68
            have hl68 : i68 < i25 := by omega
            refine g_iload_n F dX2_fit_68 rfl 3 rfl ?_
            refine g_aload_n F dX2_fit_69 rfl 0 rfl ?_
            refine g_get F dX2_fit_70 0 rfl rfl i2 4 (by decide) rfl (List.mem_of_getElem? (i := 1) rfl) ?_
            refine g_icmp_ge_f (tgt := 95) F dX2_fit_73 (by decide) (nle_nI hl68 (by omega)) ?_
            refine g_aload_n F dX2_fit_76 rfl 0 rfl ?_
            refine g_get F dX2_fit_77 0 rfl rfl i2 3 (by decide) rfl (List.mem_of_getElem? (i := 3) rfl) ?_
            refine g_iload_n F dX2_fit_80 rfl 3 rfl ?_
            refine g_aload_n F dX2_fit_81 rfl 0 rfl ?_
            refine g_iload_n F dX2_fit_82 rfl 3 rfl ?_
            refine g_callV (ws' := [(p, .inr (2, [.ref p1, .ref p2, .ref p3, .ref p4, .int (nI i25)])), (p1, .inl (E.2.2, 256, .inl (sTally f t))), (p2, .inl (E.2.2, 96, .inl (sSorted f so))), (p3, .inl (E.2.2, 6, .inl stt)), (p4, .inl (E.2.2, 6, .inl (sMns (sSorted f so) stt i25 sh i68))), (g, .inr (1, [.ref ga])), (ga, .inl (E.2.2, 96, .inl f))]) F dX2_fit_83 (c_X2_meanOf E p p1 p2 p3 p4 (sTally f t) (sSorted f so) stt (sMns (sSorted f so) stt i25 sh i68) (nI i25) (nI i68) (sE stt i25 i68) (sE stt i25 (i68 + 1)) (hp.st hl68) (hp.en hl68) (hp.mono (Nat.lt_succ_self _) hl68) (hp.le hl68)) rfl gX2_fit_X2_meanOf 0 rfl rfl kV_X2_meanOf ⟨by decide, by decide⟩ [0, 1, 2, 3, 4] rfl (by decide +kernel) rfl rfl (Nat.le_of_ble_eq_true rfl) ⟨by decide, by decide⟩ ?_
            refine g_callSN (ws' := [(p, .inr (2, [.ref p1, .ref p2, .ref p3, .ref p4, .int (nI i25)])), (p1, .inl (E.2.2, 256, .inl (sTally f t))), (p2, .inl (E.2.2, 96, .inl (sSorted f so))), (p3, .inl (E.2.2, 6, .inl stt)), (p4, .inl (E.2.2, 6, .inl (sPut 6 (sMns (sSorted f so) stt i25 sh i68) (nI i68) (sSum (sSorted f so) (sE stt i25 i68) ((sE stt i25 (i68 + 1)) - (sE stt i25 i68)) / nI ((sE stt i25 (i68 + 1)) - (sE stt i25 i68)))))), (g, .inr (1, [.ref ga])), (ga, .inl (E.2.2, 96, .inl f))]) F dX2_fit_86 (c_X4_putNumber E p4 6 (sMns (sSorted f so) stt i25 sh i68) (nI i68) (sSum (sSorted f so) (sE stt i25 i68) ((sE stt i25 (i68 + 1)) - (sE stt i25 i68)) / nI ((sE stt i25 (i68 + 1)) - (sE stt i25 i68))) (by first | assumption | decide | omega)) rfl gX2_fit_X4_putNumber_n35 (List.mem_of_getElem? (i := 23) rfl) (List.mem_of_getElem? (i := 11) rfl) (List.mem_of_getElem? (i := 11) rfl) kS_X4_putNumber ⟨by decide, by decide⟩ [4] rfl (by decide +kernel) rfl rfl (Nat.le_of_ble_eq_true rfl) ⟨by decide, by decide⟩ ?_
            refine g_iinc (L' := [(0, .ref p), (1, .ref g), (2, .int (nI m)), (3, .int (nI (i68 + 1)))]) (v := nI (i68 + 1)) F dX2_fit_89 3 rfl (nI_1 _) (by decide) [1, 2, 3, 0] rfl ?_
            refine g_goto (tgt := 68) F dX2_fit_92 (by decide) ?_
            exact ih68 (i68 + 1) (by omega)
        refine g_lv (L' := [(0, .ref p), (1, .ref g), (2, .int (nI m)), (3, .int 0)]) [0, 1, 2, 3] rfl ?_
        exact lp68 i25 0 (by omega)
  exact lp25 (m - 1) 1 (by omega) _ (by omega) rfl (PT_one st)
end PFIT
