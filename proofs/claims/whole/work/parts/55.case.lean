/-! cases over the whole world -/
section PCASE
set_option maxHeartbeats 4000000 in
set_option maxRecDepth 100000 in
theorem case_setColours_x {E : gE} {cL : ClassId} {X : gX} {hh : List (Nat × Nat × Nat × Nat)} {cells slots b nn i oa : Nat} {a ka qa ra : Nat → Nat} {xs : Nat → Int32} {t : TS} {f th : AF} {p : PS} {K Q : CS} {n : NS} {r : RW} {ol : Nat → Int64} (F : gW E X cL_law RL wsL_law (some .boolean) room_1 9 hh) (Z : gTW E cL X) (S : gS X b nn xs) (hi : i + 3 < nn) (hn : nn ≤ 2048) (hv : ¬ (¬ xs (i + 1) < 2 ∧ xs (i + 1) ≤ 6)) (hc : cells + 1 + 0 ≤ 601024) (hs : slots + 6 + 0 ≤ 7293033)
    (kk : G E X (cells + 1 + 0 + 0) (slots + 6 + 0 + 0) 1297 [(0, .ref b), (1, .ref (a 0)), (2, .ref (ra 0)), (3, .ref oa), (4, .int (nI i))] [] (wAll E cL a ka qa ra oa t f p th K Q (1, n.2) r ol)) : G E X cells slots 360 [(0, .ref b), (1, .ref (a 0)), (2, .ref (ra 0)), (3, .ref oa), (4, .int (nI i))] [] (wAll E cL a ka qa ra oa t f p th K Q n r ol) := by
  exact seg_setColours (isW := [0, 46]) (isM := [36]) (isT := [36]) (qy := 36) (qy2 := 36) (qo := 46) (ws1 := wAll E cL a ka qa ra oa t f p th K Q n r ol) F Z S hi hn
    (v_L_setColours E cL (a 0) (a 1) (a 3) (a 8) (ka 0) (qa 0) t.1 t.2.1 t.2.2.1 t.2.2.2.1 t.2.2.2.2 (xs (i + 1)) oa ol hv) rfl (by decide +kernel) rfl
    (c_X5_setColours_1 E (ra 0) (ra 1) (ra 2) (ra 3) (ra 4) (ra 5) (ra 6) (ra 7) (ra 8) (ra 9) n.1 t.1 t.2.1 t.2.2.1 t.2.2.2.1 n.2.1 n.2.2.1 t.2.2.2.2 n.2.2.2.1 n.2.2.2.2 (xs (i + 1)) (mIn_iff.mpr hv)) rfl (by decide +kernel) rfl rfl
    (c_X5_thrown E (ra 0) (ra 1) (ra 2) (ra 3) (ra 4) (ra 5) (ra 6) (ra 7) (ra 8) (ra 9) 1 t.1 t.2.1 t.2.2.1 t.2.2.2.1 n.2.1 n.2.2.1 t.2.2.2.2 n.2.2.2.1 n.2.2.2.2) rfl (by decide +kernel) rfl rfl rfl (fun h => absurd h (by decide)) hc hs kk
end PCASE
