/-! the law's body, a case at a time, over any worlds -/
section PSEGS
theorem rm_c : 600000 ≤ room_1.cells := Nat.le_of_ble_eq_true rfl
theorem rm_s : 7000000 ≤ room_1.slots := Nat.le_of_ble_eq_true rfl
theorem lg_cmp_self (x : Int64) : lg_cmp x x = 0 := by simp [lg_cmp]
set_option maxHeartbeats 4000000 in
set_option maxRecDepth 100000 in
theorem seg_set {E : gE} {cL : ClassId} {X : gX} {hh : List (Nat × Nat × Nat × Nat)} {cells slots b n i x y oa mcW msW mcM msM qy qy2 qo : Nat} {xs : Nat → Int32} {kr br : Int32} {ol : Nat → Int64} {fy fy2 : List Value} {isW isM isT : List Nat} {ws ws1 ws2 W1 W1' W2 W2' W3 : va_W} (F : gW E X cL_law RL wsL_law (some .boolean) room_1 9 hh) (Z : gTW E cL X) (S : gS X b n xs) (hi : i + 3 < n) (hn : n ≤ 2048)
    (hW : CtW E cL yL_set wsL_set ({ frames := 9, cells := mcW, slots := msW, locals := 156 }) [.ref x, .int (xs (i + 1)), .int (xs (i + 2)), .int (xs (i + 3)), .ref oa] W1 (some (.int kr)) W1') (hcW : isW.map (fun i => ws[i]?) = W1.map some) (hnW : va_nd isW = true) (hsW : wput ws isW W1' = ws1)
    (hM : Ct E yX5_set wsX5_set ({ frames := 2, cells := mcM, slots := msM, locals := 42 }) [.ref y, .int (xs (i + 1)), .int (xs (i + 2)), .int (xs (i + 3))] W2 (some (.int br)) W2') (hcM : isM.map (fun i => ws1[i]?) = W2.map some) (hnM : va_nd isM = true) (hsM : wput ws1 isM W2' = ws2) (hy : ws1[qy]? = some (y, .inr (5, fy)))
    (hT : Ct E yX5_thrown wsX5_thrown ({ frames := 0, cells := 0, slots := 0, locals := 0 }) [.ref y] W3 (some (.int kr)) W3) (hcT : isT.map (fun i => ws2[i]?) = W3.map some) (hnT : va_nd isT = true) (hsT : wput ws2 isT W3 = ws2) (hy2 : ws2[qy2]? = some (y, .inr (5, fy2))) (hO : ws2[qo]? = some (oa, .inl (cL, 1, .inr (.inl ol)))) (ho : kr = 0 → ol 0 = br.toInt64)
    (hc : cells + mcW + mcM ≤ 600000) (hs : slots + msW + msM ≤ 7000000) (kk : G E X (cells + mcW + mcM + 0) (slots + msW + msM + 0) 1297 [(0, .ref b), (1, .ref x), (2, .ref y), (3, .ref oa), (4, .int (nI i))] [] ws2) : G E X cells slots 132 [(0, .ref b), (1, .ref x), (2, .ref y), (3, .ref oa), (4, .int (nI i))] [] ws := by
  refine h_aload_n F dL_law_132 rfl 1 rfl ?_
  refine h_aload_n F dL_law_133 rfl 0 rfl ?_
  refine h_iload F dL_law_134 4 rfl ?_
  refine h_iconst (v := 1) F dL_law_136 (by decide) ?_
  refine h_iadd F dL_law_137 ?_
  refine g_topr (y := nI (i + 1)) (nI_add i 1) ?_
  refine h_sld F S dL_law_138 (vp_in_nI (by omega) (by omega)) ?_
  refine g_topr (y := xs (i + 1)) (by rw [cl_nI (by omega)]) ?_
  refine h_aload_n F dL_law_139 rfl 0 rfl ?_
  refine h_iload F dL_law_140 4 rfl ?_
  refine h_iconst (v := 2) F dL_law_142 (by decide) ?_
  refine h_iadd F dL_law_143 ?_
  refine g_topr (y := nI (i + 2)) (nI_add i 2) ?_
  refine h_sld F S dL_law_144 (vp_in_nI (by omega) (by omega)) ?_
  refine g_topr (y := xs (i + 2)) (by rw [cl_nI (by omega)]) ?_
  refine h_aload_n F dL_law_145 rfl 0 rfl ?_
  refine h_iload F dL_law_146 4 rfl ?_
  refine h_iconst (v := 3) F dL_law_148 (by decide) ?_
  refine h_iadd F dL_law_149 ?_
  refine g_topr (y := nI (i + 3)) (nI_add i 3) ?_
  refine h_sld F S dL_law_150 (vp_in_nI (by omega) (by omega)) ?_
  refine g_topr (y := xs (i + 3)) (by rw [cl_nI (by omega)]) ?_
  refine h_aload_n F dL_law_151 rfl 3 rfl ?_
  refine h_callW (ws' := ws1) F Z dL_law_152 hW rfl gL_law_L_set kS_L_set ⟨Nat.le_of_ble_eq_true rfl, Nat.le_of_ble_eq_true rfl⟩ isW hcW hnW hsW rfl (Nat.le_of_ble_eq_true rfl) ⟨by have h9 := rm_c; show cells + mcW ≤ room_1.cells; omega, by have h9 := rm_s; show slots + msW ≤ room_1.slots; omega⟩ ?_
  refine h_istore (L' := [(0, .ref b), (1, .ref x), (2, .ref y), (3, .ref oa), (4, .int (nI i)), (5, .int kr)]) F dL_law_155 (by decide) [1, 2, 3, 4, 5, 0] rfl ?_
  refine h_aload_n F dL_law_157 rfl 2 rfl ?_
  refine h_aload_n F dL_law_158 rfl 0 rfl ?_
  refine h_iload F dL_law_159 4 rfl ?_
  refine h_iconst (v := 1) F dL_law_161 (by decide) ?_
  refine h_iadd F dL_law_162 ?_
  refine g_topr (y := nI (i + 1)) (nI_add i 1) ?_
  refine h_sld F S dL_law_163 (vp_in_nI (by omega) (by omega)) ?_
  refine g_topr (y := xs (i + 1)) (by rw [cl_nI (by omega)]) ?_
  refine h_aload_n F dL_law_164 rfl 0 rfl ?_
  refine h_iload F dL_law_165 4 rfl ?_
  refine h_iconst (v := 2) F dL_law_167 (by decide) ?_
  refine h_iadd F dL_law_168 ?_
  refine g_topr (y := nI (i + 2)) (nI_add i 2) ?_
  refine h_sld F S dL_law_169 (vp_in_nI (by omega) (by omega)) ?_
  refine g_topr (y := xs (i + 2)) (by rw [cl_nI (by omega)]) ?_
  refine h_aload_n F dL_law_170 rfl 0 rfl ?_
  refine h_iload F dL_law_171 4 rfl ?_
  refine h_iconst (v := 3) F dL_law_173 (by decide) ?_
  refine h_iadd F dL_law_174 ?_
  refine g_topr (y := nI (i + 3)) (nI_add i 3) ?_
  refine h_sld F S dL_law_175 (vp_in_nI (by omega) (by omega)) ?_
  refine g_topr (y := xs (i + 3)) (by rw [cl_nI (by omega)]) ?_
  refine h_callV (ws' := ws2) F dL_law_176 hM rfl gL_law_X5_set qy hy rfl kV_X5_set ⟨Nat.le_of_ble_eq_true rfl, Nat.le_of_ble_eq_true rfl⟩ isM hcM hnM hsM rfl (Nat.le_of_ble_eq_true rfl) ⟨by have h9 := rm_c; show cells + mcW + mcM ≤ room_1.cells; omega, by have h9 := rm_s; show slots + msW + msM ≤ room_1.slots; omega⟩ ?_
  refine h_istore (L' := [(0, .ref b), (1, .ref x), (2, .ref y), (3, .ref oa), (4, .int (nI i)), (5, .int kr), (6, .int br)]) F dL_law_179 (by decide) [1, 2, 3, 4, 5, 6, 0] rfl ?_
  refine h_aload_n F dL_law_181 rfl 2 rfl ?_
  refine h_callV (ws' := ws2) F dL_law_182 hT rfl gL_law_X5_thrown qy2 hy2 rfl kV_X5_thrown ⟨Nat.le_of_ble_eq_true rfl, Nat.le_of_ble_eq_true rfl⟩ isT hcT hnT hsT rfl (Nat.le_of_ble_eq_true rfl) ⟨by have h9 := rm_c; show cells + mcW + mcM + 0 ≤ room_1.cells; omega, by have h9 := rm_s; show slots + msW + msM + 0 ≤ room_1.slots; omega⟩ ?_
  refine h_iload F dL_law_185 5 rfl ?_
  refine h_icmp_eq_t (tgt := 192) F dL_law_187 (by decide) rfl ?_
  refine h_iload F dL_law_192 5 rfl ?_
  refine h_if_ne (tgt := 209) F dL_law_194 (by decide) (fun k9 => ?_) (fun k9 => ?_)
  · skip
    refine h_goto (tgt := 1297) F dL_law_209 (by decide) ?_
    refine g_lv (L' := [(0, .ref b), (1, .ref x), (2, .ref y), (3, .ref oa), (4, .int (nI i))]) [0, 1, 2, 3, 4] rfl ?_
    exact kk
  · have hk : kr = 0 := Classical.byContradiction k9
    refine h_aload_n F dL_law_197 rfl 3 rfl ?_
    refine h_iconst (v := 0) F dL_law_198 (by decide) ?_
    refine h_lald F Z dL_law_199 qo hO (by unfold vp_in; decide) ?_
    refine g_topl (y := br.toInt64) (ho hk) ?_
    refine h_iload F dL_law_200 6 rfl ?_
    refine h_i2l (v := br.toInt64) F dL_law_202 rfl ?_
    refine h_lcmp F dL_law_203 ?_
    refine h_if_eq_t (tgt := 209) F dL_law_204 (by decide) (by rw [lg_cmp_self]) ?_
    refine h_goto (tgt := 1297) F dL_law_209 (by decide) ?_
    refine g_lv (L' := [(0, .ref b), (1, .ref x), (2, .ref y), (3, .ref oa), (4, .int (nI i))]) [0, 1, 2, 3, 4] rfl ?_
    exact kk

set_option maxHeartbeats 4000000 in
set_option maxRecDepth 100000 in
theorem seg_row {E : gE} {cL : ClassId} {X : gX} {hh : List (Nat × Nat × Nat × Nat)} {cells slots b n i x y oa mcW msW mcM msM qy qy2 qo : Nat} {xs : Nat → Int32} {kr br : Int32} {ol : Nat → Int64} {fy fy2 : List Value} {isW isM isT : List Nat} {ws ws1 ws2 W1 W1' W2 W2' W3 : va_W} (F : gW E X cL_law RL wsL_law (some .boolean) room_1 9 hh) (Z : gTW E cL X) (S : gS X b n xs) (hi : i + 3 < n) (hn : n ≤ 2048)
    (hW : CtW E cL yL_row wsL_row ({ frames := 9, cells := mcW, slots := msW, locals := 156 }) [.ref x, .int (xs (i + 1)), .int (xs (i + 2)), .int (xs (i + 3)), .ref oa] W1 (some (.int kr)) W1') (hcW : isW.map (fun i => ws[i]?) = W1.map some) (hnW : va_nd isW = true) (hsW : wput ws isW W1' = ws1)
    (hM : Ct E yX5_row wsX5_row ({ frames := 2, cells := mcM, slots := msM, locals := 42 }) [.ref y, .int (xs (i + 1)), .int (xs (i + 2)), .int (xs (i + 3))] W2 (some (.int br)) W2') (hcM : isM.map (fun i => ws1[i]?) = W2.map some) (hnM : va_nd isM = true) (hsM : wput ws1 isM W2' = ws2) (hy : ws1[qy]? = some (y, .inr (5, fy)))
    (hT : Ct E yX5_thrown wsX5_thrown ({ frames := 0, cells := 0, slots := 0, locals := 0 }) [.ref y] W3 (some (.int kr)) W3) (hcT : isT.map (fun i => ws2[i]?) = W3.map some) (hnT : va_nd isT = true) (hsT : wput ws2 isT W3 = ws2) (hy2 : ws2[qy2]? = some (y, .inr (5, fy2))) (hO : ws2[qo]? = some (oa, .inl (cL, 1, .inr (.inl ol)))) (ho : kr = 0 → ol 0 = br.toInt64)
    (hc : cells + mcW + mcM ≤ 600000) (hs : slots + msW + msM ≤ 7000000) (kk : G E X (cells + mcW + mcM + 0) (slots + msW + msM + 0) 1297 [(0, .ref b), (1, .ref x), (2, .ref y), (3, .ref oa), (4, .int (nI i))] [] ws2) : G E X cells slots 212 [(0, .ref b), (1, .ref x), (2, .ref y), (3, .ref oa), (4, .int (nI i))] [] ws := by
  refine h_aload_n F dL_law_212 rfl 1 rfl ?_
  refine h_aload_n F dL_law_213 rfl 0 rfl ?_
  refine h_iload F dL_law_214 4 rfl ?_
  refine h_iconst (v := 1) F dL_law_216 (by decide) ?_
  refine h_iadd F dL_law_217 ?_
  refine g_topr (y := nI (i + 1)) (nI_add i 1) ?_
  refine h_sld F S dL_law_218 (vp_in_nI (by omega) (by omega)) ?_
  refine g_topr (y := xs (i + 1)) (by rw [cl_nI (by omega)]) ?_
  refine h_aload_n F dL_law_219 rfl 0 rfl ?_
  refine h_iload F dL_law_220 4 rfl ?_
  refine h_iconst (v := 2) F dL_law_222 (by decide) ?_
  refine h_iadd F dL_law_223 ?_
  refine g_topr (y := nI (i + 2)) (nI_add i 2) ?_
  refine h_sld F S dL_law_224 (vp_in_nI (by omega) (by omega)) ?_
  refine g_topr (y := xs (i + 2)) (by rw [cl_nI (by omega)]) ?_
  refine h_aload_n F dL_law_225 rfl 0 rfl ?_
  refine h_iload F dL_law_226 4 rfl ?_
  refine h_iconst (v := 3) F dL_law_228 (by decide) ?_
  refine h_iadd F dL_law_229 ?_
  refine g_topr (y := nI (i + 3)) (nI_add i 3) ?_
  refine h_sld F S dL_law_230 (vp_in_nI (by omega) (by omega)) ?_
  refine g_topr (y := xs (i + 3)) (by rw [cl_nI (by omega)]) ?_
  refine h_aload_n F dL_law_231 rfl 3 rfl ?_
  refine h_callW (ws' := ws1) F Z dL_law_232 hW rfl gL_law_L_row kS_L_row ⟨Nat.le_of_ble_eq_true rfl, Nat.le_of_ble_eq_true rfl⟩ isW hcW hnW hsW rfl (Nat.le_of_ble_eq_true rfl) ⟨by have h9 := rm_c; show cells + mcW ≤ room_1.cells; omega, by have h9 := rm_s; show slots + msW ≤ room_1.slots; omega⟩ ?_
  refine h_istore (L' := [(0, .ref b), (1, .ref x), (2, .ref y), (3, .ref oa), (4, .int (nI i)), (5, .int kr)]) F dL_law_235 (by decide) [1, 2, 3, 4, 5, 0] rfl ?_
  refine h_aload_n F dL_law_237 rfl 2 rfl ?_
  refine h_aload_n F dL_law_238 rfl 0 rfl ?_
  refine h_iload F dL_law_239 4 rfl ?_
  refine h_iconst (v := 1) F dL_law_241 (by decide) ?_
  refine h_iadd F dL_law_242 ?_
  refine g_topr (y := nI (i + 1)) (nI_add i 1) ?_
  refine h_sld F S dL_law_243 (vp_in_nI (by omega) (by omega)) ?_
  refine g_topr (y := xs (i + 1)) (by rw [cl_nI (by omega)]) ?_
  refine h_aload_n F dL_law_244 rfl 0 rfl ?_
  refine h_iload F dL_law_245 4 rfl ?_
  refine h_iconst (v := 2) F dL_law_247 (by decide) ?_
  refine h_iadd F dL_law_248 ?_
  refine g_topr (y := nI (i + 2)) (nI_add i 2) ?_
  refine h_sld F S dL_law_249 (vp_in_nI (by omega) (by omega)) ?_
  refine g_topr (y := xs (i + 2)) (by rw [cl_nI (by omega)]) ?_
  refine h_aload_n F dL_law_250 rfl 0 rfl ?_
  refine h_iload F dL_law_251 4 rfl ?_
  refine h_iconst (v := 3) F dL_law_253 (by decide) ?_
  refine h_iadd F dL_law_254 ?_
  refine g_topr (y := nI (i + 3)) (nI_add i 3) ?_
  refine h_sld F S dL_law_255 (vp_in_nI (by omega) (by omega)) ?_
  refine g_topr (y := xs (i + 3)) (by rw [cl_nI (by omega)]) ?_
  refine h_callV (ws' := ws2) F dL_law_256 hM rfl gL_law_X5_row qy hy rfl kV_X5_row ⟨Nat.le_of_ble_eq_true rfl, Nat.le_of_ble_eq_true rfl⟩ isM hcM hnM hsM rfl (Nat.le_of_ble_eq_true rfl) ⟨by have h9 := rm_c; show cells + mcW + mcM ≤ room_1.cells; omega, by have h9 := rm_s; show slots + msW + msM ≤ room_1.slots; omega⟩ ?_
  refine h_istore (L' := [(0, .ref b), (1, .ref x), (2, .ref y), (3, .ref oa), (4, .int (nI i)), (5, .int kr), (6, .int br)]) F dL_law_259 (by decide) [1, 2, 3, 4, 5, 6, 0] rfl ?_
  refine h_aload_n F dL_law_261 rfl 2 rfl ?_
  refine h_callV (ws' := ws2) F dL_law_262 hT rfl gL_law_X5_thrown qy2 hy2 rfl kV_X5_thrown ⟨Nat.le_of_ble_eq_true rfl, Nat.le_of_ble_eq_true rfl⟩ isT hcT hnT hsT rfl (Nat.le_of_ble_eq_true rfl) ⟨by have h9 := rm_c; show cells + mcW + mcM + 0 ≤ room_1.cells; omega, by have h9 := rm_s; show slots + msW + msM + 0 ≤ room_1.slots; omega⟩ ?_
  refine h_iload F dL_law_265 5 rfl ?_
  refine h_icmp_eq_t (tgt := 272) F dL_law_267 (by decide) rfl ?_
  refine h_iload F dL_law_272 5 rfl ?_
  refine h_if_ne (tgt := 289) F dL_law_274 (by decide) (fun k9 => ?_) (fun k9 => ?_)
  · skip
    refine h_goto (tgt := 1297) F dL_law_289 (by decide) ?_
    refine g_lv (L' := [(0, .ref b), (1, .ref x), (2, .ref y), (3, .ref oa), (4, .int (nI i))]) [0, 1, 2, 3, 4] rfl ?_
    exact kk
  · have hk : kr = 0 := Classical.byContradiction k9
    refine h_aload_n F dL_law_277 rfl 3 rfl ?_
    refine h_iconst (v := 0) F dL_law_278 (by decide) ?_
    refine h_lald F Z dL_law_279 qo hO (by unfold vp_in; decide) ?_
    refine g_topl (y := br.toInt64) (ho hk) ?_
    refine h_iload F dL_law_280 6 rfl ?_
    refine h_i2l (v := br.toInt64) F dL_law_282 rfl ?_
    refine h_lcmp F dL_law_283 ?_
    refine h_if_eq_t (tgt := 289) F dL_law_284 (by decide) (by rw [lg_cmp_self]) ?_
    refine h_goto (tgt := 1297) F dL_law_289 (by decide) ?_
    refine g_lv (L' := [(0, .ref b), (1, .ref x), (2, .ref y), (3, .ref oa), (4, .int (nI i))]) [0, 1, 2, 3, 4] rfl ?_
    exact kk

set_option maxHeartbeats 4000000 in
set_option maxRecDepth 100000 in
theorem seg_like {E : gE} {cL : ClassId} {X : gX} {hh : List (Nat × Nat × Nat × Nat)} {cells slots b n i x y oa mcW msW mcM msM qy qy2 qo : Nat} {xs : Nat → Int32} {kr br : Int32} {ol : Nat → Int64} {fy fy2 : List Value} {isW isM isT : List Nat} {ws ws1 ws2 W1 W1' W2 W2' W3 : va_W} (F : gW E X cL_law RL wsL_law (some .boolean) room_1 9 hh) (Z : gTW E cL X) (S : gS X b n xs) (hi : i + 3 < n) (hn : n ≤ 2048)
    (hW : CtW E cL yL_like wsL_like ({ frames := 9, cells := mcW, slots := msW, locals := 156 }) [.ref x, .int (xs (i + 1)), .int (xs (i + 2)), .ref oa] W1 (some (.int kr)) W1') (hcW : isW.map (fun i => ws[i]?) = W1.map some) (hnW : va_nd isW = true) (hsW : wput ws isW W1' = ws1)
    (hM : Ct E yX5_like wsX5_like ({ frames := 2, cells := mcM, slots := msM, locals := 42 }) [.ref y, .int (xs (i + 1)), .int (xs (i + 2))] W2 (some (.int br)) W2') (hcM : isM.map (fun i => ws1[i]?) = W2.map some) (hnM : va_nd isM = true) (hsM : wput ws1 isM W2' = ws2) (hy : ws1[qy]? = some (y, .inr (5, fy)))
    (hT : Ct E yX5_thrown wsX5_thrown ({ frames := 0, cells := 0, slots := 0, locals := 0 }) [.ref y] W3 (some (.int kr)) W3) (hcT : isT.map (fun i => ws2[i]?) = W3.map some) (hnT : va_nd isT = true) (hsT : wput ws2 isT W3 = ws2) (hy2 : ws2[qy2]? = some (y, .inr (5, fy2))) (hO : ws2[qo]? = some (oa, .inl (cL, 1, .inr (.inl ol)))) (ho : kr = 0 → ol 0 = br.toInt64)
    (hc : cells + mcW + mcM ≤ 600000) (hs : slots + msW + msM ≤ 7000000) (kk : G E X (cells + mcW + mcM + 0) (slots + msW + msM + 0) 1297 [(0, .ref b), (1, .ref x), (2, .ref y), (3, .ref oa), (4, .int (nI i))] [] ws2) : G E X cells slots 292 [(0, .ref b), (1, .ref x), (2, .ref y), (3, .ref oa), (4, .int (nI i))] [] ws := by
  refine h_aload_n F dL_law_292 rfl 1 rfl ?_
  refine h_aload_n F dL_law_293 rfl 0 rfl ?_
  refine h_iload F dL_law_294 4 rfl ?_
  refine h_iconst (v := 1) F dL_law_296 (by decide) ?_
  refine h_iadd F dL_law_297 ?_
  refine g_topr (y := nI (i + 1)) (nI_add i 1) ?_
  refine h_sld F S dL_law_298 (vp_in_nI (by omega) (by omega)) ?_
  refine g_topr (y := xs (i + 1)) (by rw [cl_nI (by omega)]) ?_
  refine h_aload_n F dL_law_299 rfl 0 rfl ?_
  refine h_iload F dL_law_300 4 rfl ?_
  refine h_iconst (v := 2) F dL_law_302 (by decide) ?_
  refine h_iadd F dL_law_303 ?_
  refine g_topr (y := nI (i + 2)) (nI_add i 2) ?_
  refine h_sld F S dL_law_304 (vp_in_nI (by omega) (by omega)) ?_
  refine g_topr (y := xs (i + 2)) (by rw [cl_nI (by omega)]) ?_
  refine h_aload_n F dL_law_305 rfl 3 rfl ?_
  refine h_callW (ws' := ws1) F Z dL_law_306 hW rfl gL_law_L_like kS_L_like ⟨Nat.le_of_ble_eq_true rfl, Nat.le_of_ble_eq_true rfl⟩ isW hcW hnW hsW rfl (Nat.le_of_ble_eq_true rfl) ⟨by have h9 := rm_c; show cells + mcW ≤ room_1.cells; omega, by have h9 := rm_s; show slots + msW ≤ room_1.slots; omega⟩ ?_
  refine h_istore (L' := [(0, .ref b), (1, .ref x), (2, .ref y), (3, .ref oa), (4, .int (nI i)), (5, .int kr)]) F dL_law_309 (by decide) [1, 2, 3, 4, 5, 0] rfl ?_
  refine h_aload_n F dL_law_311 rfl 2 rfl ?_
  refine h_aload_n F dL_law_312 rfl 0 rfl ?_
  refine h_iload F dL_law_313 4 rfl ?_
  refine h_iconst (v := 1) F dL_law_315 (by decide) ?_
  refine h_iadd F dL_law_316 ?_
  refine g_topr (y := nI (i + 1)) (nI_add i 1) ?_
  refine h_sld F S dL_law_317 (vp_in_nI (by omega) (by omega)) ?_
  refine g_topr (y := xs (i + 1)) (by rw [cl_nI (by omega)]) ?_
  refine h_aload_n F dL_law_318 rfl 0 rfl ?_
  refine h_iload F dL_law_319 4 rfl ?_
  refine h_iconst (v := 2) F dL_law_321 (by decide) ?_
  refine h_iadd F dL_law_322 ?_
  refine g_topr (y := nI (i + 2)) (nI_add i 2) ?_
  refine h_sld F S dL_law_323 (vp_in_nI (by omega) (by omega)) ?_
  refine g_topr (y := xs (i + 2)) (by rw [cl_nI (by omega)]) ?_
  refine h_callV (ws' := ws2) F dL_law_324 hM rfl gL_law_X5_like qy hy rfl kV_X5_like ⟨Nat.le_of_ble_eq_true rfl, Nat.le_of_ble_eq_true rfl⟩ isM hcM hnM hsM rfl (Nat.le_of_ble_eq_true rfl) ⟨by have h9 := rm_c; show cells + mcW + mcM ≤ room_1.cells; omega, by have h9 := rm_s; show slots + msW + msM ≤ room_1.slots; omega⟩ ?_
  refine h_istore (L' := [(0, .ref b), (1, .ref x), (2, .ref y), (3, .ref oa), (4, .int (nI i)), (5, .int kr), (6, .int br)]) F dL_law_327 (by decide) [1, 2, 3, 4, 5, 6, 0] rfl ?_
  refine h_aload_n F dL_law_329 rfl 2 rfl ?_
  refine h_callV (ws' := ws2) F dL_law_330 hT rfl gL_law_X5_thrown qy2 hy2 rfl kV_X5_thrown ⟨Nat.le_of_ble_eq_true rfl, Nat.le_of_ble_eq_true rfl⟩ isT hcT hnT hsT rfl (Nat.le_of_ble_eq_true rfl) ⟨by have h9 := rm_c; show cells + mcW + mcM + 0 ≤ room_1.cells; omega, by have h9 := rm_s; show slots + msW + msM + 0 ≤ room_1.slots; omega⟩ ?_
  refine h_iload F dL_law_333 5 rfl ?_
  refine h_icmp_eq_t (tgt := 340) F dL_law_335 (by decide) rfl ?_
  refine h_iload F dL_law_340 5 rfl ?_
  refine h_if_ne (tgt := 357) F dL_law_342 (by decide) (fun k9 => ?_) (fun k9 => ?_)
  · skip
    refine h_goto (tgt := 1297) F dL_law_357 (by decide) ?_
    refine g_lv (L' := [(0, .ref b), (1, .ref x), (2, .ref y), (3, .ref oa), (4, .int (nI i))]) [0, 1, 2, 3, 4] rfl ?_
    exact kk
  · have hk : kr = 0 := Classical.byContradiction k9
    refine h_aload_n F dL_law_345 rfl 3 rfl ?_
    refine h_iconst (v := 0) F dL_law_346 (by decide) ?_
    refine h_lald F Z dL_law_347 qo hO (by unfold vp_in; decide) ?_
    refine g_topl (y := br.toInt64) (ho hk) ?_
    refine h_iload F dL_law_348 6 rfl ?_
    refine h_i2l (v := br.toInt64) F dL_law_350 rfl ?_
    refine h_lcmp F dL_law_351 ?_
    refine h_if_eq_t (tgt := 357) F dL_law_352 (by decide) (by rw [lg_cmp_self]) ?_
    refine h_goto (tgt := 1297) F dL_law_357 (by decide) ?_
    refine g_lv (L' := [(0, .ref b), (1, .ref x), (2, .ref y), (3, .ref oa), (4, .int (nI i))]) [0, 1, 2, 3, 4] rfl ?_
    exact kk

set_option maxHeartbeats 4000000 in
set_option maxRecDepth 100000 in
theorem seg_setColours {E : gE} {cL : ClassId} {X : gX} {hh : List (Nat × Nat × Nat × Nat)} {cells slots b n i x y oa mcW msW mcM msM qy qy2 qo : Nat} {xs : Nat → Int32} {kr br : Int32} {ol : Nat → Int64} {fy fy2 : List Value} {isW isM isT : List Nat} {ws ws1 ws2 W1 W1' W2 W2' W3 : va_W} (F : gW E X cL_law RL wsL_law (some .boolean) room_1 9 hh) (Z : gTW E cL X) (S : gS X b n xs) (hi : i + 3 < n) (hn : n ≤ 2048)
    (hW : CtW E cL yL_setColours wsL_setColours ({ frames := 9, cells := mcW, slots := msW, locals := 154 }) [.ref x, .int (xs (i + 1)), .ref oa] W1 (some (.int kr)) W1') (hcW : isW.map (fun i => ws[i]?) = W1.map some) (hnW : va_nd isW = true) (hsW : wput ws isW W1' = ws1)
    (hM : Ct E yX5_setColours wsX5_setColours ({ frames := 1, cells := mcM, slots := msM, locals := 22 }) [.ref y, .int (xs (i + 1))] W2 (some (.int br)) W2') (hcM : isM.map (fun i => ws1[i]?) = W2.map some) (hnM : va_nd isM = true) (hsM : wput ws1 isM W2' = ws2) (hy : ws1[qy]? = some (y, .inr (5, fy)))
    (hT : Ct E yX5_thrown wsX5_thrown ({ frames := 0, cells := 0, slots := 0, locals := 0 }) [.ref y] W3 (some (.int kr)) W3) (hcT : isT.map (fun i => ws2[i]?) = W3.map some) (hnT : va_nd isT = true) (hsT : wput ws2 isT W3 = ws2) (hy2 : ws2[qy2]? = some (y, .inr (5, fy2))) (hO : ws2[qo]? = some (oa, .inl (cL, 1, .inr (.inl ol)))) (ho : kr = 0 → ol 0 = br.toInt64)
    (hc : cells + mcW + mcM ≤ 600000) (hs : slots + msW + msM ≤ 7000000) (kk : G E X (cells + mcW + mcM + 0) (slots + msW + msM + 0) 1297 [(0, .ref b), (1, .ref x), (2, .ref y), (3, .ref oa), (4, .int (nI i))] [] ws2) : G E X cells slots 360 [(0, .ref b), (1, .ref x), (2, .ref y), (3, .ref oa), (4, .int (nI i))] [] ws := by
  refine h_aload_n F dL_law_360 rfl 1 rfl ?_
  refine h_aload_n F dL_law_361 rfl 0 rfl ?_
  refine h_iload F dL_law_362 4 rfl ?_
  refine h_iconst (v := 1) F dL_law_364 (by decide) ?_
  refine h_iadd F dL_law_365 ?_
  refine g_topr (y := nI (i + 1)) (nI_add i 1) ?_
  refine h_sld F S dL_law_366 (vp_in_nI (by omega) (by omega)) ?_
  refine g_topr (y := xs (i + 1)) (by rw [cl_nI (by omega)]) ?_
  refine h_aload_n F dL_law_367 rfl 3 rfl ?_
  refine h_callW (ws' := ws1) F Z dL_law_368 hW rfl gL_law_L_setColours kS_L_setColours ⟨Nat.le_of_ble_eq_true rfl, Nat.le_of_ble_eq_true rfl⟩ isW hcW hnW hsW rfl (Nat.le_of_ble_eq_true rfl) ⟨by have h9 := rm_c; show cells + mcW ≤ room_1.cells; omega, by have h9 := rm_s; show slots + msW ≤ room_1.slots; omega⟩ ?_
  refine h_istore (L' := [(0, .ref b), (1, .ref x), (2, .ref y), (3, .ref oa), (4, .int (nI i)), (5, .int kr)]) F dL_law_371 (by decide) [1, 2, 3, 4, 5, 0] rfl ?_
  refine h_aload_n F dL_law_373 rfl 2 rfl ?_
  refine h_aload_n F dL_law_374 rfl 0 rfl ?_
  refine h_iload F dL_law_375 4 rfl ?_
  refine h_iconst (v := 1) F dL_law_377 (by decide) ?_
  refine h_iadd F dL_law_378 ?_
  refine g_topr (y := nI (i + 1)) (nI_add i 1) ?_
  refine h_sld F S dL_law_379 (vp_in_nI (by omega) (by omega)) ?_
  refine g_topr (y := xs (i + 1)) (by rw [cl_nI (by omega)]) ?_
  refine h_callV (ws' := ws2) F dL_law_380 hM rfl gL_law_X5_setColours qy hy rfl kV_X5_setColours ⟨Nat.le_of_ble_eq_true rfl, Nat.le_of_ble_eq_true rfl⟩ isM hcM hnM hsM rfl (Nat.le_of_ble_eq_true rfl) ⟨by have h9 := rm_c; show cells + mcW + mcM ≤ room_1.cells; omega, by have h9 := rm_s; show slots + msW + msM ≤ room_1.slots; omega⟩ ?_
  refine h_istore (L' := [(0, .ref b), (1, .ref x), (2, .ref y), (3, .ref oa), (4, .int (nI i)), (5, .int kr), (6, .int br)]) F dL_law_383 (by decide) [1, 2, 3, 4, 5, 6, 0] rfl ?_
  refine h_aload_n F dL_law_385 rfl 2 rfl ?_
  refine h_callV (ws' := ws2) F dL_law_386 hT rfl gL_law_X5_thrown qy2 hy2 rfl kV_X5_thrown ⟨Nat.le_of_ble_eq_true rfl, Nat.le_of_ble_eq_true rfl⟩ isT hcT hnT hsT rfl (Nat.le_of_ble_eq_true rfl) ⟨by have h9 := rm_c; show cells + mcW + mcM + 0 ≤ room_1.cells; omega, by have h9 := rm_s; show slots + msW + msM + 0 ≤ room_1.slots; omega⟩ ?_
  refine h_iload F dL_law_389 5 rfl ?_
  refine h_icmp_eq_t (tgt := 396) F dL_law_391 (by decide) rfl ?_
  refine h_iload F dL_law_396 5 rfl ?_
  refine h_if_ne (tgt := 413) F dL_law_398 (by decide) (fun k9 => ?_) (fun k9 => ?_)
  · skip
    refine h_goto (tgt := 1297) F dL_law_413 (by decide) ?_
    refine g_lv (L' := [(0, .ref b), (1, .ref x), (2, .ref y), (3, .ref oa), (4, .int (nI i))]) [0, 1, 2, 3, 4] rfl ?_
    exact kk
  · have hk : kr = 0 := Classical.byContradiction k9
    refine h_aload_n F dL_law_401 rfl 3 rfl ?_
    refine h_iconst (v := 0) F dL_law_402 (by decide) ?_
    refine h_lald F Z dL_law_403 qo hO (by unfold vp_in; decide) ?_
    refine g_topl (y := br.toInt64) (ho hk) ?_
    refine h_iload F dL_law_404 6 rfl ?_
    refine h_i2l (v := br.toInt64) F dL_law_406 rfl ?_
    refine h_lcmp F dL_law_407 ?_
    refine h_if_eq_t (tgt := 413) F dL_law_408 (by decide) (by rw [lg_cmp_self]) ?_
    refine h_goto (tgt := 1297) F dL_law_413 (by decide) ?_
    refine g_lv (L' := [(0, .ref b), (1, .ref x), (2, .ref y), (3, .ref oa), (4, .int (nI i))]) [0, 1, 2, 3, 4] rfl ?_
    exact kk

set_option maxHeartbeats 4000000 in
set_option maxRecDepth 100000 in
theorem seg_setCarry {E : gE} {cL : ClassId} {X : gX} {hh : List (Nat × Nat × Nat × Nat)} {cells slots b n i x y oa mcW msW mcM msM qy qy2 qo : Nat} {xs : Nat → Int32} {kr br : Int32} {ol : Nat → Int64} {fy fy2 : List Value} {isW isM isT : List Nat} {ws ws1 ws2 W1 W1' W2 W2' W3 : va_W} (F : gW E X cL_law RL wsL_law (some .boolean) room_1 9 hh) (Z : gTW E cL X) (S : gS X b n xs) (hi : i + 3 < n) (hn : n ≤ 2048)
    (hW : CtW E cL yL_setCarry wsL_setCarry ({ frames := 8, cells := mcW, slots := msW, locals := 133 }) [.ref x, .int (xs (i + 1)), .ref oa] W1 (some (.int kr)) W1') (hcW : isW.map (fun i => ws[i]?) = W1.map some) (hnW : va_nd isW = true) (hsW : wput ws isW W1' = ws1)
    (hM : Ct E yX5_setCarry wsX5_setCarry ({ frames := 1, cells := mcM, slots := msM, locals := 22 }) [.ref y, .int (xs (i + 1))] W2 (some (.int br)) W2') (hcM : isM.map (fun i => ws1[i]?) = W2.map some) (hnM : va_nd isM = true) (hsM : wput ws1 isM W2' = ws2) (hy : ws1[qy]? = some (y, .inr (5, fy)))
    (hT : Ct E yX5_thrown wsX5_thrown ({ frames := 0, cells := 0, slots := 0, locals := 0 }) [.ref y] W3 (some (.int kr)) W3) (hcT : isT.map (fun i => ws2[i]?) = W3.map some) (hnT : va_nd isT = true) (hsT : wput ws2 isT W3 = ws2) (hy2 : ws2[qy2]? = some (y, .inr (5, fy2))) (hO : ws2[qo]? = some (oa, .inl (cL, 1, .inr (.inl ol)))) (ho : kr = 0 → ol 0 = br.toInt64)
    (hc : cells + mcW + mcM ≤ 600000) (hs : slots + msW + msM ≤ 7000000) (kk : G E X (cells + mcW + mcM + 0) (slots + msW + msM + 0) 1297 [(0, .ref b), (1, .ref x), (2, .ref y), (3, .ref oa), (4, .int (nI i))] [] ws2) : G E X cells slots 416 [(0, .ref b), (1, .ref x), (2, .ref y), (3, .ref oa), (4, .int (nI i))] [] ws := by
  refine h_aload_n F dL_law_416 rfl 1 rfl ?_
  refine h_aload_n F dL_law_417 rfl 0 rfl ?_
  refine h_iload F dL_law_418 4 rfl ?_
  refine h_iconst (v := 1) F dL_law_420 (by decide) ?_
  refine h_iadd F dL_law_421 ?_
  refine g_topr (y := nI (i + 1)) (nI_add i 1) ?_
  refine h_sld F S dL_law_422 (vp_in_nI (by omega) (by omega)) ?_
  refine g_topr (y := xs (i + 1)) (by rw [cl_nI (by omega)]) ?_
  refine h_aload_n F dL_law_423 rfl 3 rfl ?_
  refine h_callW (ws' := ws1) F Z dL_law_424 hW rfl gL_law_L_setCarry kS_L_setCarry ⟨Nat.le_of_ble_eq_true rfl, Nat.le_of_ble_eq_true rfl⟩ isW hcW hnW hsW rfl (Nat.le_of_ble_eq_true rfl) ⟨by have h9 := rm_c; show cells + mcW ≤ room_1.cells; omega, by have h9 := rm_s; show slots + msW ≤ room_1.slots; omega⟩ ?_
  refine h_istore (L' := [(0, .ref b), (1, .ref x), (2, .ref y), (3, .ref oa), (4, .int (nI i)), (5, .int kr)]) F dL_law_427 (by decide) [1, 2, 3, 4, 5, 0] rfl ?_
  refine h_aload_n F dL_law_429 rfl 2 rfl ?_
  refine h_aload_n F dL_law_430 rfl 0 rfl ?_
  refine h_iload F dL_law_431 4 rfl ?_
  refine h_iconst (v := 1) F dL_law_433 (by decide) ?_
  refine h_iadd F dL_law_434 ?_
  refine g_topr (y := nI (i + 1)) (nI_add i 1) ?_
  refine h_sld F S dL_law_435 (vp_in_nI (by omega) (by omega)) ?_
  refine g_topr (y := xs (i + 1)) (by rw [cl_nI (by omega)]) ?_
  refine h_callV (ws' := ws2) F dL_law_436 hM rfl gL_law_X5_setCarry qy hy rfl kV_X5_setCarry ⟨Nat.le_of_ble_eq_true rfl, Nat.le_of_ble_eq_true rfl⟩ isM hcM hnM hsM rfl (Nat.le_of_ble_eq_true rfl) ⟨by have h9 := rm_c; show cells + mcW + mcM ≤ room_1.cells; omega, by have h9 := rm_s; show slots + msW + msM ≤ room_1.slots; omega⟩ ?_
  refine h_istore (L' := [(0, .ref b), (1, .ref x), (2, .ref y), (3, .ref oa), (4, .int (nI i)), (5, .int kr), (6, .int br)]) F dL_law_439 (by decide) [1, 2, 3, 4, 5, 6, 0] rfl ?_
  refine h_aload_n F dL_law_441 rfl 2 rfl ?_
  refine h_callV (ws' := ws2) F dL_law_442 hT rfl gL_law_X5_thrown qy2 hy2 rfl kV_X5_thrown ⟨Nat.le_of_ble_eq_true rfl, Nat.le_of_ble_eq_true rfl⟩ isT hcT hnT hsT rfl (Nat.le_of_ble_eq_true rfl) ⟨by have h9 := rm_c; show cells + mcW + mcM + 0 ≤ room_1.cells; omega, by have h9 := rm_s; show slots + msW + msM + 0 ≤ room_1.slots; omega⟩ ?_
  refine h_iload F dL_law_445 5 rfl ?_
  refine h_icmp_eq_t (tgt := 452) F dL_law_447 (by decide) rfl ?_
  refine h_iload F dL_law_452 5 rfl ?_
  refine h_if_ne (tgt := 469) F dL_law_454 (by decide) (fun k9 => ?_) (fun k9 => ?_)
  · skip
    refine h_goto (tgt := 1297) F dL_law_469 (by decide) ?_
    refine g_lv (L' := [(0, .ref b), (1, .ref x), (2, .ref y), (3, .ref oa), (4, .int (nI i))]) [0, 1, 2, 3, 4] rfl ?_
    exact kk
  · have hk : kr = 0 := Classical.byContradiction k9
    refine h_aload_n F dL_law_457 rfl 3 rfl ?_
    refine h_iconst (v := 0) F dL_law_458 (by decide) ?_
    refine h_lald F Z dL_law_459 qo hO (by unfold vp_in; decide) ?_
    refine g_topl (y := br.toInt64) (ho hk) ?_
    refine h_iload F dL_law_460 6 rfl ?_
    refine h_i2l (v := br.toInt64) F dL_law_462 rfl ?_
    refine h_lcmp F dL_law_463 ?_
    refine h_if_eq_t (tgt := 469) F dL_law_464 (by decide) (by rw [lg_cmp_self]) ?_
    refine h_goto (tgt := 1297) F dL_law_469 (by decide) ?_
    refine g_lv (L' := [(0, .ref b), (1, .ref x), (2, .ref y), (3, .ref oa), (4, .int (nI i))]) [0, 1, 2, 3, 4] rfl ?_
    exact kk

set_option maxHeartbeats 4000000 in
set_option maxRecDepth 100000 in
theorem seg_wind {E : gE} {cL : ClassId} {X : gX} {hh : List (Nat × Nat × Nat × Nat)} {cells slots b n i x y oa mcW msW mcM msM qy qy2 qo : Nat} {xs : Nat → Int32} {kr br : Int32} {ol : Nat → Int64} {fy fy2 : List Value} {isW isM isT : List Nat} {ws ws1 ws2 W1 W1' W2 W2' W3 : va_W} (F : gW E X cL_law RL wsL_law (some .boolean) room_1 9 hh) (Z : gTW E cL X) (S : gS X b n xs) (hi : i + 3 < n) (hn : n ≤ 2048)
    (hW : CtW E cL yL_wind wsL_wind ({ frames := 9, cells := mcW, slots := msW, locals := 154 }) [.ref x, .int (xs (i + 1)), .int (xs (i + 2)), .ref oa] W1 (some (.int kr)) W1') (hcW : isW.map (fun i => ws[i]?) = W1.map some) (hnW : va_nd isW = true) (hsW : wput ws isW W1' = ws1)
    (hM : Ct E yX5_wind wsX5_wind ({ frames := 2, cells := mcM, slots := msM, locals := 42 }) [.ref y, .int (xs (i + 1)), .int (xs (i + 2))] W2 (some (.int br)) W2') (hcM : isM.map (fun i => ws1[i]?) = W2.map some) (hnM : va_nd isM = true) (hsM : wput ws1 isM W2' = ws2) (hy : ws1[qy]? = some (y, .inr (5, fy)))
    (hT : Ct E yX5_thrown wsX5_thrown ({ frames := 0, cells := 0, slots := 0, locals := 0 }) [.ref y] W3 (some (.int kr)) W3) (hcT : isT.map (fun i => ws2[i]?) = W3.map some) (hnT : va_nd isT = true) (hsT : wput ws2 isT W3 = ws2) (hy2 : ws2[qy2]? = some (y, .inr (5, fy2))) (hO : ws2[qo]? = some (oa, .inl (cL, 1, .inr (.inl ol)))) (ho : kr = 0 → ol 0 = br.toInt64)
    (hc : cells + mcW + mcM ≤ 600000) (hs : slots + msW + msM ≤ 7000000) (kk : G E X (cells + mcW + mcM + 0) (slots + msW + msM + 0) 1297 [(0, .ref b), (1, .ref x), (2, .ref y), (3, .ref oa), (4, .int (nI i))] [] ws2) : G E X cells slots 554 [(0, .ref b), (1, .ref x), (2, .ref y), (3, .ref oa), (4, .int (nI i))] [] ws := by
  refine h_aload_n F dL_law_554 rfl 1 rfl ?_
  refine h_aload_n F dL_law_555 rfl 0 rfl ?_
  refine h_iload F dL_law_556 4 rfl ?_
  refine h_iconst (v := 1) F dL_law_558 (by decide) ?_
  refine h_iadd F dL_law_559 ?_
  refine g_topr (y := nI (i + 1)) (nI_add i 1) ?_
  refine h_sld F S dL_law_560 (vp_in_nI (by omega) (by omega)) ?_
  refine g_topr (y := xs (i + 1)) (by rw [cl_nI (by omega)]) ?_
  refine h_aload_n F dL_law_561 rfl 0 rfl ?_
  refine h_iload F dL_law_562 4 rfl ?_
  refine h_iconst (v := 2) F dL_law_564 (by decide) ?_
  refine h_iadd F dL_law_565 ?_
  refine g_topr (y := nI (i + 2)) (nI_add i 2) ?_
  refine h_sld F S dL_law_566 (vp_in_nI (by omega) (by omega)) ?_
  refine g_topr (y := xs (i + 2)) (by rw [cl_nI (by omega)]) ?_
  refine h_aload_n F dL_law_567 rfl 3 rfl ?_
  refine h_callW (ws' := ws1) F Z dL_law_568 hW rfl gL_law_L_wind kS_L_wind ⟨Nat.le_of_ble_eq_true rfl, Nat.le_of_ble_eq_true rfl⟩ isW hcW hnW hsW rfl (Nat.le_of_ble_eq_true rfl) ⟨by have h9 := rm_c; show cells + mcW ≤ room_1.cells; omega, by have h9 := rm_s; show slots + msW ≤ room_1.slots; omega⟩ ?_
  refine h_istore (L' := [(0, .ref b), (1, .ref x), (2, .ref y), (3, .ref oa), (4, .int (nI i)), (5, .int kr)]) F dL_law_571 (by decide) [1, 2, 3, 4, 5, 0] rfl ?_
  refine h_aload_n F dL_law_573 rfl 2 rfl ?_
  refine h_aload_n F dL_law_574 rfl 0 rfl ?_
  refine h_iload F dL_law_575 4 rfl ?_
  refine h_iconst (v := 1) F dL_law_577 (by decide) ?_
  refine h_iadd F dL_law_578 ?_
  refine g_topr (y := nI (i + 1)) (nI_add i 1) ?_
  refine h_sld F S dL_law_579 (vp_in_nI (by omega) (by omega)) ?_
  refine g_topr (y := xs (i + 1)) (by rw [cl_nI (by omega)]) ?_
  refine h_aload_n F dL_law_580 rfl 0 rfl ?_
  refine h_iload F dL_law_581 4 rfl ?_
  refine h_iconst (v := 2) F dL_law_583 (by decide) ?_
  refine h_iadd F dL_law_584 ?_
  refine g_topr (y := nI (i + 2)) (nI_add i 2) ?_
  refine h_sld F S dL_law_585 (vp_in_nI (by omega) (by omega)) ?_
  refine g_topr (y := xs (i + 2)) (by rw [cl_nI (by omega)]) ?_
  refine h_callV (ws' := ws2) F dL_law_586 hM rfl gL_law_X5_wind qy hy rfl kV_X5_wind ⟨Nat.le_of_ble_eq_true rfl, Nat.le_of_ble_eq_true rfl⟩ isM hcM hnM hsM rfl (Nat.le_of_ble_eq_true rfl) ⟨by have h9 := rm_c; show cells + mcW + mcM ≤ room_1.cells; omega, by have h9 := rm_s; show slots + msW + msM ≤ room_1.slots; omega⟩ ?_
  refine h_istore (L' := [(0, .ref b), (1, .ref x), (2, .ref y), (3, .ref oa), (4, .int (nI i)), (5, .int kr), (6, .int br)]) F dL_law_589 (by decide) [1, 2, 3, 4, 5, 6, 0] rfl ?_
  refine h_aload_n F dL_law_591 rfl 2 rfl ?_
  refine h_callV (ws' := ws2) F dL_law_592 hT rfl gL_law_X5_thrown qy2 hy2 rfl kV_X5_thrown ⟨Nat.le_of_ble_eq_true rfl, Nat.le_of_ble_eq_true rfl⟩ isT hcT hnT hsT rfl (Nat.le_of_ble_eq_true rfl) ⟨by have h9 := rm_c; show cells + mcW + mcM + 0 ≤ room_1.cells; omega, by have h9 := rm_s; show slots + msW + msM + 0 ≤ room_1.slots; omega⟩ ?_
  refine h_iload F dL_law_595 5 rfl ?_
  refine h_icmp_eq_t (tgt := 602) F dL_law_597 (by decide) rfl ?_
  refine h_iload F dL_law_602 5 rfl ?_
  refine h_if_ne (tgt := 619) F dL_law_604 (by decide) (fun k9 => ?_) (fun k9 => ?_)
  · skip
    refine h_goto (tgt := 1297) F dL_law_619 (by decide) ?_
    refine g_lv (L' := [(0, .ref b), (1, .ref x), (2, .ref y), (3, .ref oa), (4, .int (nI i))]) [0, 1, 2, 3, 4] rfl ?_
    exact kk
  · have hk : kr = 0 := Classical.byContradiction k9
    refine h_aload_n F dL_law_607 rfl 3 rfl ?_
    refine h_iconst (v := 0) F dL_law_608 (by decide) ?_
    refine h_lald F Z dL_law_609 qo hO (by unfold vp_in; decide) ?_
    refine g_topl (y := br.toInt64) (ho hk) ?_
    refine h_iload F dL_law_610 6 rfl ?_
    refine h_i2l (v := br.toInt64) F dL_law_612 rfl ?_
    refine h_lcmp F dL_law_613 ?_
    refine h_if_eq_t (tgt := 619) F dL_law_614 (by decide) (by rw [lg_cmp_self]) ?_
    refine h_goto (tgt := 1297) F dL_law_619 (by decide) ?_
    refine g_lv (L' := [(0, .ref b), (1, .ref x), (2, .ref y), (3, .ref oa), (4, .int (nI i))]) [0, 1, 2, 3, 4] rfl ?_
    exact kk

set_option maxHeartbeats 4000000 in
set_option maxRecDepth 100000 in
theorem seg_weave {E : gE} {cL : ClassId} {X : gX} {hh : List (Nat × Nat × Nat × Nat)} {cells slots b n i x y oa mcW msW mcM msM qy qy2 qo : Nat} {xs : Nat → Int32} {kr br : Int32} {ol : Nat → Int64} {fy fy2 : List Value} {isW isM isT : List Nat} {ws ws1 ws2 W1 W1' W2 W2' W3 : va_W} (F : gW E X cL_law RL wsL_law (some .boolean) room_1 9 hh) (Z : gTW E cL X) (S : gS X b n xs) (hi : i + 3 < n) (hn : n ≤ 2048)
    (hW : CtW E cL yL_weave wsL_weave ({ frames := 8, cells := mcW, slots := msW, locals := 172 }) [.ref x, .ref oa] W1 (some (.int kr)) W1') (hcW : isW.map (fun i => ws[i]?) = W1.map some) (hnW : va_nd isW = true) (hsW : wput ws isW W1' = ws1)
    (hM : Ct E yX5_weave wsX5_weave ({ frames := 5, cells := mcM, slots := msM, locals := 117 }) [.ref y] W2 (some (.int br)) W2') (hcM : isM.map (fun i => ws1[i]?) = W2.map some) (hnM : va_nd isM = true) (hsM : wput ws1 isM W2' = ws2) (hy : ws1[qy]? = some (y, .inr (5, fy)))
    (hT : Ct E yX5_thrown wsX5_thrown ({ frames := 0, cells := 0, slots := 0, locals := 0 }) [.ref y] W3 (some (.int kr)) W3) (hcT : isT.map (fun i => ws2[i]?) = W3.map some) (hnT : va_nd isT = true) (hsT : wput ws2 isT W3 = ws2) (hy2 : ws2[qy2]? = some (y, .inr (5, fy2))) (hO : ws2[qo]? = some (oa, .inl (cL, 1, .inr (.inl ol)))) (ho : kr = 0 → ol 0 = br.toInt64)
    (hc : cells + mcW + mcM ≤ 600000) (hs : slots + msW + msM ≤ 7000000) (kk : G E X (cells + mcW + mcM + 0) (slots + msW + msM + 0) 1297 [(0, .ref b), (1, .ref x), (2, .ref y), (3, .ref oa), (4, .int (nI i))] [] ws2) : G E X cells slots 622 [(0, .ref b), (1, .ref x), (2, .ref y), (3, .ref oa), (4, .int (nI i))] [] ws := by
  refine h_aload_n F dL_law_622 rfl 1 rfl ?_
  refine h_aload_n F dL_law_623 rfl 3 rfl ?_
  refine h_callW (ws' := ws1) F Z dL_law_624 hW rfl gL_law_L_weave kS_L_weave ⟨Nat.le_of_ble_eq_true rfl, Nat.le_of_ble_eq_true rfl⟩ isW hcW hnW hsW rfl (Nat.le_of_ble_eq_true rfl) ⟨by have h9 := rm_c; show cells + mcW ≤ room_1.cells; omega, by have h9 := rm_s; show slots + msW ≤ room_1.slots; omega⟩ ?_
  refine h_istore (L' := [(0, .ref b), (1, .ref x), (2, .ref y), (3, .ref oa), (4, .int (nI i)), (5, .int kr)]) F dL_law_627 (by decide) [1, 2, 3, 4, 5, 0] rfl ?_
  refine h_aload_n F dL_law_629 rfl 2 rfl ?_
  refine h_callV (ws' := ws2) F dL_law_630 hM rfl gL_law_X5_weave qy hy rfl kV_X5_weave ⟨Nat.le_of_ble_eq_true rfl, Nat.le_of_ble_eq_true rfl⟩ isM hcM hnM hsM rfl (Nat.le_of_ble_eq_true rfl) ⟨by have h9 := rm_c; show cells + mcW + mcM ≤ room_1.cells; omega, by have h9 := rm_s; show slots + msW + msM ≤ room_1.slots; omega⟩ ?_
  refine h_istore (L' := [(0, .ref b), (1, .ref x), (2, .ref y), (3, .ref oa), (4, .int (nI i)), (5, .int kr), (6, .int br)]) F dL_law_633 (by decide) [1, 2, 3, 4, 5, 6, 0] rfl ?_
  refine h_aload_n F dL_law_635 rfl 2 rfl ?_
  refine h_callV (ws' := ws2) F dL_law_636 hT rfl gL_law_X5_thrown qy2 hy2 rfl kV_X5_thrown ⟨Nat.le_of_ble_eq_true rfl, Nat.le_of_ble_eq_true rfl⟩ isT hcT hnT hsT rfl (Nat.le_of_ble_eq_true rfl) ⟨by have h9 := rm_c; show cells + mcW + mcM + 0 ≤ room_1.cells; omega, by have h9 := rm_s; show slots + msW + msM + 0 ≤ room_1.slots; omega⟩ ?_
  refine h_iload F dL_law_639 5 rfl ?_
  refine h_icmp_eq_t (tgt := 646) F dL_law_641 (by decide) rfl ?_
  refine h_iload F dL_law_646 5 rfl ?_
  refine h_if_ne (tgt := 663) F dL_law_648 (by decide) (fun k9 => ?_) (fun k9 => ?_)
  · skip
    refine h_goto (tgt := 1297) F dL_law_663 (by decide) ?_
    refine g_lv (L' := [(0, .ref b), (1, .ref x), (2, .ref y), (3, .ref oa), (4, .int (nI i))]) [0, 1, 2, 3, 4] rfl ?_
    exact kk
  · have hk : kr = 0 := Classical.byContradiction k9
    refine h_aload_n F dL_law_651 rfl 3 rfl ?_
    refine h_iconst (v := 0) F dL_law_652 (by decide) ?_
    refine h_lald F Z dL_law_653 qo hO (by unfold vp_in; decide) ?_
    refine g_topl (y := br.toInt64) (ho hk) ?_
    refine h_iload F dL_law_654 6 rfl ?_
    refine h_i2l (v := br.toInt64) F dL_law_656 rfl ?_
    refine h_lcmp F dL_law_657 ?_
    refine h_if_eq_t (tgt := 663) F dL_law_658 (by decide) (by rw [lg_cmp_self]) ?_
    refine h_goto (tgt := 1297) F dL_law_663 (by decide) ?_
    refine g_lv (L' := [(0, .ref b), (1, .ref x), (2, .ref y), (3, .ref oa), (4, .int (nI i))]) [0, 1, 2, 3, 4] rfl ?_
    exact kk

set_option maxHeartbeats 4000000 in
set_option maxRecDepth 100000 in
theorem seg_shade {E : gE} {cL : ClassId} {X : gX} {hh : List (Nat × Nat × Nat × Nat)} {cells slots b n i x y oa mcW msW mcM msM qy qy2 qo : Nat} {xs : Nat → Int32} {kr br : Int32} {ol : Nat → Int64} {fy fy2 : List Value} {isW isM isT : List Nat} {ws ws1 ws2 W1 W1' W2 W2' W3 : va_W} (F : gW E X cL_law RL wsL_law (some .boolean) room_1 9 hh) (Z : gTW E cL X) (S : gS X b n xs) (hi : i + 3 < n) (hn : n ≤ 2048)
    (hW : CtW E cL yL_shade wsL_shade ({ frames := 8, cells := mcW, slots := msW, locals := 133 }) [.ref x, .int (xs (i + 1)), .int (xs (i + 2)), .ref oa] W1 (some (.int kr)) W1') (hcW : isW.map (fun i => ws[i]?) = W1.map some) (hnW : va_nd isW = true) (hsW : wput ws isW W1' = ws1)
    (hM : Ct E yX5_shade wsX5_shade ({ frames := 2, cells := mcM, slots := msM, locals := 42 }) [.ref y, .int (xs (i + 1)), .int (xs (i + 2))] W2 (some (.int br)) W2') (hcM : isM.map (fun i => ws1[i]?) = W2.map some) (hnM : va_nd isM = true) (hsM : wput ws1 isM W2' = ws2) (hy : ws1[qy]? = some (y, .inr (5, fy)))
    (hT : Ct E yX5_thrown wsX5_thrown ({ frames := 0, cells := 0, slots := 0, locals := 0 }) [.ref y] W3 (some (.int kr)) W3) (hcT : isT.map (fun i => ws2[i]?) = W3.map some) (hnT : va_nd isT = true) (hsT : wput ws2 isT W3 = ws2) (hy2 : ws2[qy2]? = some (y, .inr (5, fy2))) (hO : ws2[qo]? = some (oa, .inl (cL, 1, .inr (.inl ol)))) (ho : kr = 0 → ol 0 = br.toInt64)
    (hc : cells + mcW + mcM ≤ 600000) (hs : slots + msW + msM ≤ 7000000) (kk : G E X (cells + mcW + mcM + 0) (slots + msW + msM + 0) 1297 [(0, .ref b), (1, .ref x), (2, .ref y), (3, .ref oa), (4, .int (nI i))] [] ws2) : G E X cells slots 666 [(0, .ref b), (1, .ref x), (2, .ref y), (3, .ref oa), (4, .int (nI i))] [] ws := by
  refine h_aload_n F dL_law_666 rfl 1 rfl ?_
  refine h_aload_n F dL_law_667 rfl 0 rfl ?_
  refine h_iload F dL_law_668 4 rfl ?_
  refine h_iconst (v := 1) F dL_law_670 (by decide) ?_
  refine h_iadd F dL_law_671 ?_
  refine g_topr (y := nI (i + 1)) (nI_add i 1) ?_
  refine h_sld F S dL_law_672 (vp_in_nI (by omega) (by omega)) ?_
  refine g_topr (y := xs (i + 1)) (by rw [cl_nI (by omega)]) ?_
  refine h_aload_n F dL_law_673 rfl 0 rfl ?_
  refine h_iload F dL_law_674 4 rfl ?_
  refine h_iconst (v := 2) F dL_law_676 (by decide) ?_
  refine h_iadd F dL_law_677 ?_
  refine g_topr (y := nI (i + 2)) (nI_add i 2) ?_
  refine h_sld F S dL_law_678 (vp_in_nI (by omega) (by omega)) ?_
  refine g_topr (y := xs (i + 2)) (by rw [cl_nI (by omega)]) ?_
  refine h_aload_n F dL_law_679 rfl 3 rfl ?_
  refine h_callW (ws' := ws1) F Z dL_law_680 hW rfl gL_law_L_shade kS_L_shade ⟨Nat.le_of_ble_eq_true rfl, Nat.le_of_ble_eq_true rfl⟩ isW hcW hnW hsW rfl (Nat.le_of_ble_eq_true rfl) ⟨by have h9 := rm_c; show cells + mcW ≤ room_1.cells; omega, by have h9 := rm_s; show slots + msW ≤ room_1.slots; omega⟩ ?_
  refine h_istore (L' := [(0, .ref b), (1, .ref x), (2, .ref y), (3, .ref oa), (4, .int (nI i)), (5, .int kr)]) F dL_law_683 (by decide) [1, 2, 3, 4, 5, 0] rfl ?_
  refine h_aload_n F dL_law_685 rfl 2 rfl ?_
  refine h_aload_n F dL_law_686 rfl 0 rfl ?_
  refine h_iload F dL_law_687 4 rfl ?_
  refine h_iconst (v := 1) F dL_law_689 (by decide) ?_
  refine h_iadd F dL_law_690 ?_
  refine g_topr (y := nI (i + 1)) (nI_add i 1) ?_
  refine h_sld F S dL_law_691 (vp_in_nI (by omega) (by omega)) ?_
  refine g_topr (y := xs (i + 1)) (by rw [cl_nI (by omega)]) ?_
  refine h_aload_n F dL_law_692 rfl 0 rfl ?_
  refine h_iload F dL_law_693 4 rfl ?_
  refine h_iconst (v := 2) F dL_law_695 (by decide) ?_
  refine h_iadd F dL_law_696 ?_
  refine g_topr (y := nI (i + 2)) (nI_add i 2) ?_
  refine h_sld F S dL_law_697 (vp_in_nI (by omega) (by omega)) ?_
  refine g_topr (y := xs (i + 2)) (by rw [cl_nI (by omega)]) ?_
  refine h_callV (ws' := ws2) F dL_law_698 hM rfl gL_law_X5_shade qy hy rfl kV_X5_shade ⟨Nat.le_of_ble_eq_true rfl, Nat.le_of_ble_eq_true rfl⟩ isM hcM hnM hsM rfl (Nat.le_of_ble_eq_true rfl) ⟨by have h9 := rm_c; show cells + mcW + mcM ≤ room_1.cells; omega, by have h9 := rm_s; show slots + msW + msM ≤ room_1.slots; omega⟩ ?_
  refine h_istore (L' := [(0, .ref b), (1, .ref x), (2, .ref y), (3, .ref oa), (4, .int (nI i)), (5, .int kr), (6, .int br)]) F dL_law_701 (by decide) [1, 2, 3, 4, 5, 6, 0] rfl ?_
  refine h_aload_n F dL_law_703 rfl 2 rfl ?_
  refine h_callV (ws' := ws2) F dL_law_704 hT rfl gL_law_X5_thrown qy2 hy2 rfl kV_X5_thrown ⟨Nat.le_of_ble_eq_true rfl, Nat.le_of_ble_eq_true rfl⟩ isT hcT hnT hsT rfl (Nat.le_of_ble_eq_true rfl) ⟨by have h9 := rm_c; show cells + mcW + mcM + 0 ≤ room_1.cells; omega, by have h9 := rm_s; show slots + msW + msM + 0 ≤ room_1.slots; omega⟩ ?_
  refine h_iload F dL_law_707 5 rfl ?_
  refine h_icmp_eq_t (tgt := 714) F dL_law_709 (by decide) rfl ?_
  refine h_iload F dL_law_714 5 rfl ?_
  refine h_if_ne (tgt := 731) F dL_law_716 (by decide) (fun k9 => ?_) (fun k9 => ?_)
  · skip
    refine h_goto (tgt := 1297) F dL_law_731 (by decide) ?_
    refine g_lv (L' := [(0, .ref b), (1, .ref x), (2, .ref y), (3, .ref oa), (4, .int (nI i))]) [0, 1, 2, 3, 4] rfl ?_
    exact kk
  · have hk : kr = 0 := Classical.byContradiction k9
    refine h_aload_n F dL_law_719 rfl 3 rfl ?_
    refine h_iconst (v := 0) F dL_law_720 (by decide) ?_
    refine h_lald F Z dL_law_721 qo hO (by unfold vp_in; decide) ?_
    refine g_topl (y := br.toInt64) (ho hk) ?_
    refine h_iload F dL_law_722 6 rfl ?_
    refine h_i2l (v := br.toInt64) F dL_law_724 rfl ?_
    refine h_lcmp F dL_law_725 ?_
    refine h_if_eq_t (tgt := 731) F dL_law_726 (by decide) (by rw [lg_cmp_self]) ?_
    refine h_goto (tgt := 1297) F dL_law_731 (by decide) ?_
    refine g_lv (L' := [(0, .ref b), (1, .ref x), (2, .ref y), (3, .ref oa), (4, .int (nI i))]) [0, 1, 2, 3, 4] rfl ?_
    exact kk

set_option maxHeartbeats 4000000 in
set_option maxRecDepth 100000 in
theorem seg_palette {E : gE} {cL : ClassId} {X : gX} {hh : List (Nat × Nat × Nat × Nat)} {cells slots b n i x y oa mcW msW mcM msM qy qy2 qo : Nat} {xs : Nat → Int32} {kr br : Int32} {ol : Nat → Int64} {fy fy2 : List Value} {isW isM isT : List Nat} {ws ws1 ws2 W1 W1' W2 W2' W3 : va_W} (F : gW E X cL_law RL wsL_law (some .boolean) room_1 9 hh) (Z : gTW E cL X) (S : gS X b n xs) (hi : i + 3 < n) (hn : n ≤ 2048)
    (hW : CtW E cL yL_palette wsL_palette ({ frames := 9, cells := mcW, slots := msW, locals := 152 }) [.ref x, .int (xs (i + 1)), .ref oa] W1 (some (.int kr)) W1') (hcW : isW.map (fun i => ws[i]?) = W1.map some) (hnW : va_nd isW = true) (hsW : wput ws isW W1' = ws1)
    (hM : Ct E yX5_palette wsX5_palette ({ frames := 3, cells := mcM, slots := msM, locals := 72 }) [.ref y, .int (xs (i + 1))] W2 (some (.int br)) W2') (hcM : isM.map (fun i => ws1[i]?) = W2.map some) (hnM : va_nd isM = true) (hsM : wput ws1 isM W2' = ws2) (hy : ws1[qy]? = some (y, .inr (5, fy)))
    (hT : Ct E yX5_thrown wsX5_thrown ({ frames := 0, cells := 0, slots := 0, locals := 0 }) [.ref y] W3 (some (.int kr)) W3) (hcT : isT.map (fun i => ws2[i]?) = W3.map some) (hnT : va_nd isT = true) (hsT : wput ws2 isT W3 = ws2) (hy2 : ws2[qy2]? = some (y, .inr (5, fy2))) (hO : ws2[qo]? = some (oa, .inl (cL, 1, .inr (.inl ol)))) (ho : kr = 0 → ol 0 = br.toInt64)
    (hc : cells + mcW + mcM ≤ 600000) (hs : slots + msW + msM ≤ 7000000) (kk : G E X (cells + mcW + mcM + 0) (slots + msW + msM + 0) 1297 [(0, .ref b), (1, .ref x), (2, .ref y), (3, .ref oa), (4, .int (nI i))] [] ws2) : G E X cells slots 734 [(0, .ref b), (1, .ref x), (2, .ref y), (3, .ref oa), (4, .int (nI i))] [] ws := by
  refine h_aload_n F dL_law_734 rfl 1 rfl ?_
  refine h_aload_n F dL_law_735 rfl 0 rfl ?_
  refine h_iload F dL_law_736 4 rfl ?_
  refine h_iconst (v := 1) F dL_law_738 (by decide) ?_
  refine h_iadd F dL_law_739 ?_
  refine g_topr (y := nI (i + 1)) (nI_add i 1) ?_
  refine h_sld F S dL_law_740 (vp_in_nI (by omega) (by omega)) ?_
  refine g_topr (y := xs (i + 1)) (by rw [cl_nI (by omega)]) ?_
  refine h_aload_n F dL_law_741 rfl 3 rfl ?_
  refine h_callW (ws' := ws1) F Z dL_law_742 hW rfl gL_law_L_palette kS_L_palette ⟨Nat.le_of_ble_eq_true rfl, Nat.le_of_ble_eq_true rfl⟩ isW hcW hnW hsW rfl (Nat.le_of_ble_eq_true rfl) ⟨by have h9 := rm_c; show cells + mcW ≤ room_1.cells; omega, by have h9 := rm_s; show slots + msW ≤ room_1.slots; omega⟩ ?_
  refine h_istore (L' := [(0, .ref b), (1, .ref x), (2, .ref y), (3, .ref oa), (4, .int (nI i)), (5, .int kr)]) F dL_law_745 (by decide) [1, 2, 3, 4, 5, 0] rfl ?_
  refine h_aload_n F dL_law_747 rfl 2 rfl ?_
  refine h_aload_n F dL_law_748 rfl 0 rfl ?_
  refine h_iload F dL_law_749 4 rfl ?_
  refine h_iconst (v := 1) F dL_law_751 (by decide) ?_
  refine h_iadd F dL_law_752 ?_
  refine g_topr (y := nI (i + 1)) (nI_add i 1) ?_
  refine h_sld F S dL_law_753 (vp_in_nI (by omega) (by omega)) ?_
  refine g_topr (y := xs (i + 1)) (by rw [cl_nI (by omega)]) ?_
  refine h_callV (ws' := ws2) F dL_law_754 hM rfl gL_law_X5_palette qy hy rfl kV_X5_palette ⟨Nat.le_of_ble_eq_true rfl, Nat.le_of_ble_eq_true rfl⟩ isM hcM hnM hsM rfl (Nat.le_of_ble_eq_true rfl) ⟨by have h9 := rm_c; show cells + mcW + mcM ≤ room_1.cells; omega, by have h9 := rm_s; show slots + msW + msM ≤ room_1.slots; omega⟩ ?_
  refine h_istore (L' := [(0, .ref b), (1, .ref x), (2, .ref y), (3, .ref oa), (4, .int (nI i)), (5, .int kr), (6, .int br)]) F dL_law_757 (by decide) [1, 2, 3, 4, 5, 6, 0] rfl ?_
  refine h_aload_n F dL_law_759 rfl 2 rfl ?_
  refine h_callV (ws' := ws2) F dL_law_760 hT rfl gL_law_X5_thrown qy2 hy2 rfl kV_X5_thrown ⟨Nat.le_of_ble_eq_true rfl, Nat.le_of_ble_eq_true rfl⟩ isT hcT hnT hsT rfl (Nat.le_of_ble_eq_true rfl) ⟨by have h9 := rm_c; show cells + mcW + mcM + 0 ≤ room_1.cells; omega, by have h9 := rm_s; show slots + msW + msM + 0 ≤ room_1.slots; omega⟩ ?_
  refine h_iload F dL_law_763 5 rfl ?_
  refine h_icmp_eq_t (tgt := 770) F dL_law_765 (by decide) rfl ?_
  refine h_iload F dL_law_770 5 rfl ?_
  refine h_if_ne (tgt := 787) F dL_law_772 (by decide) (fun k9 => ?_) (fun k9 => ?_)
  · skip
    refine h_goto (tgt := 1297) F dL_law_787 (by decide) ?_
    refine g_lv (L' := [(0, .ref b), (1, .ref x), (2, .ref y), (3, .ref oa), (4, .int (nI i))]) [0, 1, 2, 3, 4] rfl ?_
    exact kk
  · have hk : kr = 0 := Classical.byContradiction k9
    refine h_aload_n F dL_law_775 rfl 3 rfl ?_
    refine h_iconst (v := 0) F dL_law_776 (by decide) ?_
    refine h_lald F Z dL_law_777 qo hO (by unfold vp_in; decide) ?_
    refine g_topl (y := br.toInt64) (ho hk) ?_
    refine h_iload F dL_law_778 6 rfl ?_
    refine h_i2l (v := br.toInt64) F dL_law_780 rfl ?_
    refine h_lcmp F dL_law_781 ?_
    refine h_if_eq_t (tgt := 787) F dL_law_782 (by decide) (by rw [lg_cmp_self]) ?_
    refine h_goto (tgt := 1297) F dL_law_787 (by decide) ?_
    refine g_lv (L' := [(0, .ref b), (1, .ref x), (2, .ref y), (3, .ref oa), (4, .int (nI i))]) [0, 1, 2, 3, 4] rfl ?_
    exact kk

set_option maxHeartbeats 4000000 in
set_option maxRecDepth 100000 in
theorem seg_cell {E : gE} {cL : ClassId} {X : gX} {hh : List (Nat × Nat × Nat × Nat)} {cells slots b n i x y oa mcW msW mcM msM qy qy2 qo : Nat} {xs : Nat → Int32} {kr br : Int32} {ol : Nat → Int64} {fy fy2 : List Value} {isW isM isT : List Nat} {ws ws1 ws2 W1 W1' W2 W2' W3 : va_W} (F : gW E X cL_law RL wsL_law (some .boolean) room_1 9 hh) (Z : gTW E cL X) (S : gS X b n xs) (hi : i + 3 < n) (hn : n ≤ 2048)
    (hW : CtW E cL yL_cell wsL_cell ({ frames := 8, cells := mcW, slots := msW, locals := 133 }) [.ref x, .int (xs (i + 1)), .int (xs (i + 2)), .ref oa] W1 (some (.int kr)) W1') (hcW : isW.map (fun i => ws[i]?) = W1.map some) (hnW : va_nd isW = true) (hsW : wput ws isW W1' = ws1)
    (hM : Ct E yX5_cell wsX5_cell ({ frames := 2, cells := mcM, slots := msM, locals := 42 }) [.ref y, .int (xs (i + 1)), .int (xs (i + 2))] W2 (some (.int br)) W2') (hcM : isM.map (fun i => ws1[i]?) = W2.map some) (hnM : va_nd isM = true) (hsM : wput ws1 isM W2' = ws2) (hy : ws1[qy]? = some (y, .inr (5, fy)))
    (hT : Ct E yX5_thrown wsX5_thrown ({ frames := 0, cells := 0, slots := 0, locals := 0 }) [.ref y] W3 (some (.int kr)) W3) (hcT : isT.map (fun i => ws2[i]?) = W3.map some) (hnT : va_nd isT = true) (hsT : wput ws2 isT W3 = ws2) (hy2 : ws2[qy2]? = some (y, .inr (5, fy2))) (hO : ws2[qo]? = some (oa, .inl (cL, 1, .inr (.inl ol)))) (ho : kr = 0 → ol 0 = br.toInt64)
    (hc : cells + mcW + mcM ≤ 600000) (hs : slots + msW + msM ≤ 7000000) (kk : G E X (cells + mcW + mcM + 0) (slots + msW + msM + 0) 1297 [(0, .ref b), (1, .ref x), (2, .ref y), (3, .ref oa), (4, .int (nI i))] [] ws2) : G E X cells slots 790 [(0, .ref b), (1, .ref x), (2, .ref y), (3, .ref oa), (4, .int (nI i))] [] ws := by
  refine h_aload_n F dL_law_790 rfl 1 rfl ?_
  refine h_aload_n F dL_law_791 rfl 0 rfl ?_
  refine h_iload F dL_law_792 4 rfl ?_
  refine h_iconst (v := 1) F dL_law_794 (by decide) ?_
  refine h_iadd F dL_law_795 ?_
  refine g_topr (y := nI (i + 1)) (nI_add i 1) ?_
  refine h_sld F S dL_law_796 (vp_in_nI (by omega) (by omega)) ?_
  refine g_topr (y := xs (i + 1)) (by rw [cl_nI (by omega)]) ?_
  refine h_aload_n F dL_law_797 rfl 0 rfl ?_
  refine h_iload F dL_law_798 4 rfl ?_
  refine h_iconst (v := 2) F dL_law_800 (by decide) ?_
  refine h_iadd F dL_law_801 ?_
  refine g_topr (y := nI (i + 2)) (nI_add i 2) ?_
  refine h_sld F S dL_law_802 (vp_in_nI (by omega) (by omega)) ?_
  refine g_topr (y := xs (i + 2)) (by rw [cl_nI (by omega)]) ?_
  refine h_aload_n F dL_law_803 rfl 3 rfl ?_
  refine h_callW (ws' := ws1) F Z dL_law_804 hW rfl gL_law_L_cell kS_L_cell ⟨Nat.le_of_ble_eq_true rfl, Nat.le_of_ble_eq_true rfl⟩ isW hcW hnW hsW rfl (Nat.le_of_ble_eq_true rfl) ⟨by have h9 := rm_c; show cells + mcW ≤ room_1.cells; omega, by have h9 := rm_s; show slots + msW ≤ room_1.slots; omega⟩ ?_
  refine h_istore (L' := [(0, .ref b), (1, .ref x), (2, .ref y), (3, .ref oa), (4, .int (nI i)), (5, .int kr)]) F dL_law_807 (by decide) [1, 2, 3, 4, 5, 0] rfl ?_
  refine h_aload_n F dL_law_809 rfl 2 rfl ?_
  refine h_aload_n F dL_law_810 rfl 0 rfl ?_
  refine h_iload F dL_law_811 4 rfl ?_
  refine h_iconst (v := 1) F dL_law_813 (by decide) ?_
  refine h_iadd F dL_law_814 ?_
  refine g_topr (y := nI (i + 1)) (nI_add i 1) ?_
  refine h_sld F S dL_law_815 (vp_in_nI (by omega) (by omega)) ?_
  refine g_topr (y := xs (i + 1)) (by rw [cl_nI (by omega)]) ?_
  refine h_aload_n F dL_law_816 rfl 0 rfl ?_
  refine h_iload F dL_law_817 4 rfl ?_
  refine h_iconst (v := 2) F dL_law_819 (by decide) ?_
  refine h_iadd F dL_law_820 ?_
  refine g_topr (y := nI (i + 2)) (nI_add i 2) ?_
  refine h_sld F S dL_law_821 (vp_in_nI (by omega) (by omega)) ?_
  refine g_topr (y := xs (i + 2)) (by rw [cl_nI (by omega)]) ?_
  refine h_callV (ws' := ws2) F dL_law_822 hM rfl gL_law_X5_cell qy hy rfl kV_X5_cell ⟨Nat.le_of_ble_eq_true rfl, Nat.le_of_ble_eq_true rfl⟩ isM hcM hnM hsM rfl (Nat.le_of_ble_eq_true rfl) ⟨by have h9 := rm_c; show cells + mcW + mcM ≤ room_1.cells; omega, by have h9 := rm_s; show slots + msW + msM ≤ room_1.slots; omega⟩ ?_
  refine h_istore (L' := [(0, .ref b), (1, .ref x), (2, .ref y), (3, .ref oa), (4, .int (nI i)), (5, .int kr), (6, .int br)]) F dL_law_825 (by decide) [1, 2, 3, 4, 5, 6, 0] rfl ?_
  refine h_aload_n F dL_law_827 rfl 2 rfl ?_
  refine h_callV (ws' := ws2) F dL_law_828 hT rfl gL_law_X5_thrown qy2 hy2 rfl kV_X5_thrown ⟨Nat.le_of_ble_eq_true rfl, Nat.le_of_ble_eq_true rfl⟩ isT hcT hnT hsT rfl (Nat.le_of_ble_eq_true rfl) ⟨by have h9 := rm_c; show cells + mcW + mcM + 0 ≤ room_1.cells; omega, by have h9 := rm_s; show slots + msW + msM + 0 ≤ room_1.slots; omega⟩ ?_
  refine h_iload F dL_law_831 5 rfl ?_
  refine h_icmp_eq_t (tgt := 838) F dL_law_833 (by decide) rfl ?_
  refine h_iload F dL_law_838 5 rfl ?_
  refine h_if_ne (tgt := 855) F dL_law_840 (by decide) (fun k9 => ?_) (fun k9 => ?_)
  · skip
    refine h_goto (tgt := 1297) F dL_law_855 (by decide) ?_
    refine g_lv (L' := [(0, .ref b), (1, .ref x), (2, .ref y), (3, .ref oa), (4, .int (nI i))]) [0, 1, 2, 3, 4] rfl ?_
    exact kk
  · have hk : kr = 0 := Classical.byContradiction k9
    refine h_aload_n F dL_law_843 rfl 3 rfl ?_
    refine h_iconst (v := 0) F dL_law_844 (by decide) ?_
    refine h_lald F Z dL_law_845 qo hO (by unfold vp_in; decide) ?_
    refine g_topl (y := br.toInt64) (ho hk) ?_
    refine h_iload F dL_law_846 6 rfl ?_
    refine h_i2l (v := br.toInt64) F dL_law_848 rfl ?_
    refine h_lcmp F dL_law_849 ?_
    refine h_if_eq_t (tgt := 855) F dL_law_850 (by decide) (by rw [lg_cmp_self]) ?_
    refine h_goto (tgt := 1297) F dL_law_855 (by decide) ?_
    refine g_lv (L' := [(0, .ref b), (1, .ref x), (2, .ref y), (3, .ref oa), (4, .int (nI i))]) [0, 1, 2, 3, 4] rfl ?_
    exact kk

set_option maxHeartbeats 4000000 in
set_option maxRecDepth 100000 in
theorem seg_run {E : gE} {cL : ClassId} {X : gX} {hh : List (Nat × Nat × Nat × Nat)} {cells slots b n i x y oa mcW msW mcM msM qy qy2 qo : Nat} {xs : Nat → Int32} {kr br : Int32} {ol : Nat → Int64} {fy fy2 : List Value} {isW isM isT : List Nat} {ws ws1 ws2 W1 W1' W2 W2' W3 : va_W} (F : gW E X cL_law RL wsL_law (some .boolean) room_1 9 hh) (Z : gTW E cL X) (S : gS X b n xs) (hi : i + 3 < n) (hn : n ≤ 2048)
    (hW : CtW E cL yL_run wsL_run ({ frames := 9, cells := mcW, slots := msW, locals := 154 }) [.ref x, .int (xs (i + 1)), .int (xs (i + 2)), .int (xs (i + 3)), .ref oa] W1 (some (.int kr)) W1') (hcW : isW.map (fun i => ws[i]?) = W1.map some) (hnW : va_nd isW = true) (hsW : wput ws isW W1' = ws1)
    (hM : Ct E yX5_run wsX5_run ({ frames := 3, cells := mcM, slots := msM, locals := 69 }) [.ref y, .int (xs (i + 1)), .int (xs (i + 2)), .int (xs (i + 3))] W2 (some (.int br)) W2') (hcM : isM.map (fun i => ws1[i]?) = W2.map some) (hnM : va_nd isM = true) (hsM : wput ws1 isM W2' = ws2) (hy : ws1[qy]? = some (y, .inr (5, fy)))
    (hT : Ct E yX5_thrown wsX5_thrown ({ frames := 0, cells := 0, slots := 0, locals := 0 }) [.ref y] W3 (some (.int kr)) W3) (hcT : isT.map (fun i => ws2[i]?) = W3.map some) (hnT : va_nd isT = true) (hsT : wput ws2 isT W3 = ws2) (hy2 : ws2[qy2]? = some (y, .inr (5, fy2))) (hO : ws2[qo]? = some (oa, .inl (cL, 1, .inr (.inl ol)))) (ho : kr = 0 → ol 0 = br.toInt64)
    (hc : cells + mcW + mcM ≤ 600000) (hs : slots + msW + msM ≤ 7000000) (kk : G E X (cells + mcW + mcM + 0) (slots + msW + msM + 0) 1297 [(0, .ref b), (1, .ref x), (2, .ref y), (3, .ref oa), (4, .int (nI i))] [] ws2) : G E X cells slots 858 [(0, .ref b), (1, .ref x), (2, .ref y), (3, .ref oa), (4, .int (nI i))] [] ws := by
  refine h_aload_n F dL_law_858 rfl 1 rfl ?_
  refine h_aload_n F dL_law_859 rfl 0 rfl ?_
  refine h_iload F dL_law_860 4 rfl ?_
  refine h_iconst (v := 1) F dL_law_862 (by decide) ?_
  refine h_iadd F dL_law_863 ?_
  refine g_topr (y := nI (i + 1)) (nI_add i 1) ?_
  refine h_sld F S dL_law_864 (vp_in_nI (by omega) (by omega)) ?_
  refine g_topr (y := xs (i + 1)) (by rw [cl_nI (by omega)]) ?_
  refine h_aload_n F dL_law_865 rfl 0 rfl ?_
  refine h_iload F dL_law_866 4 rfl ?_
  refine h_iconst (v := 2) F dL_law_868 (by decide) ?_
  refine h_iadd F dL_law_869 ?_
  refine g_topr (y := nI (i + 2)) (nI_add i 2) ?_
  refine h_sld F S dL_law_870 (vp_in_nI (by omega) (by omega)) ?_
  refine g_topr (y := xs (i + 2)) (by rw [cl_nI (by omega)]) ?_
  refine h_aload_n F dL_law_871 rfl 0 rfl ?_
  refine h_iload F dL_law_872 4 rfl ?_
  refine h_iconst (v := 3) F dL_law_874 (by decide) ?_
  refine h_iadd F dL_law_875 ?_
  refine g_topr (y := nI (i + 3)) (nI_add i 3) ?_
  refine h_sld F S dL_law_876 (vp_in_nI (by omega) (by omega)) ?_
  refine g_topr (y := xs (i + 3)) (by rw [cl_nI (by omega)]) ?_
  refine h_aload_n F dL_law_877 rfl 3 rfl ?_
  refine h_callW (ws' := ws1) F Z dL_law_878 hW rfl gL_law_L_run kS_L_run ⟨Nat.le_of_ble_eq_true rfl, Nat.le_of_ble_eq_true rfl⟩ isW hcW hnW hsW rfl (Nat.le_of_ble_eq_true rfl) ⟨by have h9 := rm_c; show cells + mcW ≤ room_1.cells; omega, by have h9 := rm_s; show slots + msW ≤ room_1.slots; omega⟩ ?_
  refine h_istore (L' := [(0, .ref b), (1, .ref x), (2, .ref y), (3, .ref oa), (4, .int (nI i)), (5, .int kr)]) F dL_law_881 (by decide) [1, 2, 3, 4, 5, 0] rfl ?_
  refine h_aload_n F dL_law_883 rfl 2 rfl ?_
  refine h_aload_n F dL_law_884 rfl 0 rfl ?_
  refine h_iload F dL_law_885 4 rfl ?_
  refine h_iconst (v := 1) F dL_law_887 (by decide) ?_
  refine h_iadd F dL_law_888 ?_
  refine g_topr (y := nI (i + 1)) (nI_add i 1) ?_
  refine h_sld F S dL_law_889 (vp_in_nI (by omega) (by omega)) ?_
  refine g_topr (y := xs (i + 1)) (by rw [cl_nI (by omega)]) ?_
  refine h_aload_n F dL_law_890 rfl 0 rfl ?_
  refine h_iload F dL_law_891 4 rfl ?_
  refine h_iconst (v := 2) F dL_law_893 (by decide) ?_
  refine h_iadd F dL_law_894 ?_
  refine g_topr (y := nI (i + 2)) (nI_add i 2) ?_
  refine h_sld F S dL_law_895 (vp_in_nI (by omega) (by omega)) ?_
  refine g_topr (y := xs (i + 2)) (by rw [cl_nI (by omega)]) ?_
  refine h_aload_n F dL_law_896 rfl 0 rfl ?_
  refine h_iload F dL_law_897 4 rfl ?_
  refine h_iconst (v := 3) F dL_law_899 (by decide) ?_
  refine h_iadd F dL_law_900 ?_
  refine g_topr (y := nI (i + 3)) (nI_add i 3) ?_
  refine h_sld F S dL_law_901 (vp_in_nI (by omega) (by omega)) ?_
  refine g_topr (y := xs (i + 3)) (by rw [cl_nI (by omega)]) ?_
  refine h_callV (ws' := ws2) F dL_law_902 hM rfl gL_law_X5_run qy hy rfl kV_X5_run ⟨Nat.le_of_ble_eq_true rfl, Nat.le_of_ble_eq_true rfl⟩ isM hcM hnM hsM rfl (Nat.le_of_ble_eq_true rfl) ⟨by have h9 := rm_c; show cells + mcW + mcM ≤ room_1.cells; omega, by have h9 := rm_s; show slots + msW + msM ≤ room_1.slots; omega⟩ ?_
  refine h_istore (L' := [(0, .ref b), (1, .ref x), (2, .ref y), (3, .ref oa), (4, .int (nI i)), (5, .int kr), (6, .int br)]) F dL_law_905 (by decide) [1, 2, 3, 4, 5, 6, 0] rfl ?_
  refine h_aload_n F dL_law_907 rfl 2 rfl ?_
  refine h_callV (ws' := ws2) F dL_law_908 hT rfl gL_law_X5_thrown qy2 hy2 rfl kV_X5_thrown ⟨Nat.le_of_ble_eq_true rfl, Nat.le_of_ble_eq_true rfl⟩ isT hcT hnT hsT rfl (Nat.le_of_ble_eq_true rfl) ⟨by have h9 := rm_c; show cells + mcW + mcM + 0 ≤ room_1.cells; omega, by have h9 := rm_s; show slots + msW + msM + 0 ≤ room_1.slots; omega⟩ ?_
  refine h_iload F dL_law_911 5 rfl ?_
  refine h_icmp_eq_t (tgt := 918) F dL_law_913 (by decide) rfl ?_
  refine h_iload F dL_law_918 5 rfl ?_
  refine h_if_ne (tgt := 935) F dL_law_920 (by decide) (fun k9 => ?_) (fun k9 => ?_)
  · skip
    refine h_goto (tgt := 1297) F dL_law_935 (by decide) ?_
    refine g_lv (L' := [(0, .ref b), (1, .ref x), (2, .ref y), (3, .ref oa), (4, .int (nI i))]) [0, 1, 2, 3, 4] rfl ?_
    exact kk
  · have hk : kr = 0 := Classical.byContradiction k9
    refine h_aload_n F dL_law_923 rfl 3 rfl ?_
    refine h_iconst (v := 0) F dL_law_924 (by decide) ?_
    refine h_lald F Z dL_law_925 qo hO (by unfold vp_in; decide) ?_
    refine g_topl (y := br.toInt64) (ho hk) ?_
    refine h_iload F dL_law_926 6 rfl ?_
    refine h_i2l (v := br.toInt64) F dL_law_928 rfl ?_
    refine h_lcmp F dL_law_929 ?_
    refine h_if_eq_t (tgt := 935) F dL_law_930 (by decide) (by rw [lg_cmp_self]) ?_
    refine h_goto (tgt := 1297) F dL_law_935 (by decide) ?_
    refine g_lv (L' := [(0, .ref b), (1, .ref x), (2, .ref y), (3, .ref oa), (4, .int (nI i))]) [0, 1, 2, 3, 4] rfl ?_
    exact kk

set_option maxHeartbeats 4000000 in
set_option maxRecDepth 100000 in
theorem seg_knots {E : gE} {cL : ClassId} {X : gX} {hh : List (Nat × Nat × Nat × Nat)} {cells slots b n i x y oa mcW msW mcM msM qy qy2 qo : Nat} {xs : Nat → Int32} {kr br : Int32} {ol : Nat → Int64} {fy fy2 : List Value} {isW isM isT : List Nat} {ws ws1 ws2 W1 W1' W2 W2' W3 : va_W} (F : gW E X cL_law RL wsL_law (some .boolean) room_1 9 hh) (Z : gTW E cL X) (S : gS X b n xs) (hi : i + 3 < n) (hn : n ≤ 2048)
    (hW : CtW E cL yL_knots wsL_knots ({ frames := 9, cells := mcW, slots := msW, locals := 152 }) [.ref x, .int (xs (i + 1)), .ref oa] W1 (some (.int kr)) W1') (hcW : isW.map (fun i => ws[i]?) = W1.map some) (hnW : va_nd isW = true) (hsW : wput ws isW W1' = ws1)
    (hM : Ct E yX5_knots wsX5_knots ({ frames := 4, cells := mcM, slots := msM, locals := 89 }) [.ref y, .int (xs (i + 1))] W2 (some (.int br)) W2') (hcM : isM.map (fun i => ws1[i]?) = W2.map some) (hnM : va_nd isM = true) (hsM : wput ws1 isM W2' = ws2) (hy : ws1[qy]? = some (y, .inr (5, fy)))
    (hT : Ct E yX5_thrown wsX5_thrown ({ frames := 0, cells := 0, slots := 0, locals := 0 }) [.ref y] W3 (some (.int kr)) W3) (hcT : isT.map (fun i => ws2[i]?) = W3.map some) (hnT : va_nd isT = true) (hsT : wput ws2 isT W3 = ws2) (hy2 : ws2[qy2]? = some (y, .inr (5, fy2))) (hO : ws2[qo]? = some (oa, .inl (cL, 1, .inr (.inl ol)))) (ho : kr = 0 → ol 0 = br.toInt64)
    (hc : cells + mcW + mcM ≤ 600000) (hs : slots + msW + msM ≤ 7000000) (kk : G E X (cells + mcW + mcM + 0) (slots + msW + msM + 0) 1297 [(0, .ref b), (1, .ref x), (2, .ref y), (3, .ref oa), (4, .int (nI i))] [] ws2) : G E X cells slots 938 [(0, .ref b), (1, .ref x), (2, .ref y), (3, .ref oa), (4, .int (nI i))] [] ws := by
  refine h_aload_n F dL_law_938 rfl 1 rfl ?_
  refine h_aload_n F dL_law_939 rfl 0 rfl ?_
  refine h_iload F dL_law_940 4 rfl ?_
  refine h_iconst (v := 1) F dL_law_942 (by decide) ?_
  refine h_iadd F dL_law_943 ?_
  refine g_topr (y := nI (i + 1)) (nI_add i 1) ?_
  refine h_sld F S dL_law_944 (vp_in_nI (by omega) (by omega)) ?_
  refine g_topr (y := xs (i + 1)) (by rw [cl_nI (by omega)]) ?_
  refine h_aload_n F dL_law_945 rfl 3 rfl ?_
  refine h_callW (ws' := ws1) F Z dL_law_946 hW rfl gL_law_L_knots kS_L_knots ⟨Nat.le_of_ble_eq_true rfl, Nat.le_of_ble_eq_true rfl⟩ isW hcW hnW hsW rfl (Nat.le_of_ble_eq_true rfl) ⟨by have h9 := rm_c; show cells + mcW ≤ room_1.cells; omega, by have h9 := rm_s; show slots + msW ≤ room_1.slots; omega⟩ ?_
  refine h_istore (L' := [(0, .ref b), (1, .ref x), (2, .ref y), (3, .ref oa), (4, .int (nI i)), (5, .int kr)]) F dL_law_949 (by decide) [1, 2, 3, 4, 5, 0] rfl ?_
  refine h_aload_n F dL_law_951 rfl 2 rfl ?_
  refine h_aload_n F dL_law_952 rfl 0 rfl ?_
  refine h_iload F dL_law_953 4 rfl ?_
  refine h_iconst (v := 1) F dL_law_955 (by decide) ?_
  refine h_iadd F dL_law_956 ?_
  refine g_topr (y := nI (i + 1)) (nI_add i 1) ?_
  refine h_sld F S dL_law_957 (vp_in_nI (by omega) (by omega)) ?_
  refine g_topr (y := xs (i + 1)) (by rw [cl_nI (by omega)]) ?_
  refine h_callV (ws' := ws2) F dL_law_958 hM rfl gL_law_X5_knots qy hy rfl kV_X5_knots ⟨Nat.le_of_ble_eq_true rfl, Nat.le_of_ble_eq_true rfl⟩ isM hcM hnM hsM rfl (Nat.le_of_ble_eq_true rfl) ⟨by have h9 := rm_c; show cells + mcW + mcM ≤ room_1.cells; omega, by have h9 := rm_s; show slots + msW + msM ≤ room_1.slots; omega⟩ ?_
  refine h_istore (L' := [(0, .ref b), (1, .ref x), (2, .ref y), (3, .ref oa), (4, .int (nI i)), (5, .int kr), (6, .int br)]) F dL_law_961 (by decide) [1, 2, 3, 4, 5, 6, 0] rfl ?_
  refine h_aload_n F dL_law_963 rfl 2 rfl ?_
  refine h_callV (ws' := ws2) F dL_law_964 hT rfl gL_law_X5_thrown qy2 hy2 rfl kV_X5_thrown ⟨Nat.le_of_ble_eq_true rfl, Nat.le_of_ble_eq_true rfl⟩ isT hcT hnT hsT rfl (Nat.le_of_ble_eq_true rfl) ⟨by have h9 := rm_c; show cells + mcW + mcM + 0 ≤ room_1.cells; omega, by have h9 := rm_s; show slots + msW + msM + 0 ≤ room_1.slots; omega⟩ ?_
  refine h_iload F dL_law_967 5 rfl ?_
  refine h_icmp_eq_t (tgt := 974) F dL_law_969 (by decide) rfl ?_
  refine h_iload F dL_law_974 5 rfl ?_
  refine h_if_ne (tgt := 991) F dL_law_976 (by decide) (fun k9 => ?_) (fun k9 => ?_)
  · skip
    refine h_goto (tgt := 1297) F dL_law_991 (by decide) ?_
    refine g_lv (L' := [(0, .ref b), (1, .ref x), (2, .ref y), (3, .ref oa), (4, .int (nI i))]) [0, 1, 2, 3, 4] rfl ?_
    exact kk
  · have hk : kr = 0 := Classical.byContradiction k9
    refine h_aload_n F dL_law_979 rfl 3 rfl ?_
    refine h_iconst (v := 0) F dL_law_980 (by decide) ?_
    refine h_lald F Z dL_law_981 qo hO (by unfold vp_in; decide) ?_
    refine g_topl (y := br.toInt64) (ho hk) ?_
    refine h_iload F dL_law_982 6 rfl ?_
    refine h_i2l (v := br.toInt64) F dL_law_984 rfl ?_
    refine h_lcmp F dL_law_985 ?_
    refine h_if_eq_t (tgt := 991) F dL_law_986 (by decide) (by rw [lg_cmp_self]) ?_
    refine h_goto (tgt := 1297) F dL_law_991 (by decide) ?_
    refine g_lv (L' := [(0, .ref b), (1, .ref x), (2, .ref y), (3, .ref oa), (4, .int (nI i))]) [0, 1, 2, 3, 4] rfl ?_
    exact kk

set_option maxHeartbeats 4000000 in
set_option maxRecDepth 100000 in
theorem seg_thread {E : gE} {cL : ClassId} {X : gX} {hh : List (Nat × Nat × Nat × Nat)} {cells slots b n i x y oa mcW msW mcM msM qy qy2 qo : Nat} {xs : Nat → Int32} {kr br : Int32} {ol : Nat → Int64} {fy fy2 : List Value} {isW isM isT : List Nat} {ws ws1 ws2 W1 W1' W2 W2' W3 : va_W} (F : gW E X cL_law RL wsL_law (some .boolean) room_1 9 hh) (Z : gTW E cL X) (S : gS X b n xs) (hi : i + 3 < n) (hn : n ≤ 2048)
    (hW : CtW E cL yL_thread wsL_thread ({ frames := 9, cells := mcW, slots := msW, locals := 153 }) [.ref x, .int (xs (i + 1)), .int (xs (i + 2)), .ref oa] W1 (some (.int kr)) W1') (hcW : isW.map (fun i => ws[i]?) = W1.map some) (hnW : va_nd isW = true) (hsW : wput ws isW W1' = ws1)
    (hM : Ct E yX5_thread wsX5_thread ({ frames := 2, cells := mcM, slots := msM, locals := 48 }) [.ref y, .int (xs (i + 1)), .int (xs (i + 2))] W2 (some (.int br)) W2') (hcM : isM.map (fun i => ws1[i]?) = W2.map some) (hnM : va_nd isM = true) (hsM : wput ws1 isM W2' = ws2) (hy : ws1[qy]? = some (y, .inr (5, fy)))
    (hT : Ct E yX5_thrown wsX5_thrown ({ frames := 0, cells := 0, slots := 0, locals := 0 }) [.ref y] W3 (some (.int kr)) W3) (hcT : isT.map (fun i => ws2[i]?) = W3.map some) (hnT : va_nd isT = true) (hsT : wput ws2 isT W3 = ws2) (hy2 : ws2[qy2]? = some (y, .inr (5, fy2))) (hO : ws2[qo]? = some (oa, .inl (cL, 1, .inr (.inl ol)))) (ho : kr = 0 → ol 0 = br.toInt64)
    (hc : cells + mcW + mcM ≤ 600000) (hs : slots + msW + msM ≤ 7000000) (kk : G E X (cells + mcW + mcM + 0) (slots + msW + msM + 0) 1297 [(0, .ref b), (1, .ref x), (2, .ref y), (3, .ref oa), (4, .int (nI i))] [] ws2) : G E X cells slots 994 [(0, .ref b), (1, .ref x), (2, .ref y), (3, .ref oa), (4, .int (nI i))] [] ws := by
  refine h_aload_n F dL_law_994 rfl 1 rfl ?_
  refine h_aload_n F dL_law_995 rfl 0 rfl ?_
  refine h_iload F dL_law_996 4 rfl ?_
  refine h_iconst (v := 1) F dL_law_998 (by decide) ?_
  refine h_iadd F dL_law_999 ?_
  refine g_topr (y := nI (i + 1)) (nI_add i 1) ?_
  refine h_sld F S dL_law_1000 (vp_in_nI (by omega) (by omega)) ?_
  refine g_topr (y := xs (i + 1)) (by rw [cl_nI (by omega)]) ?_
  refine h_aload_n F dL_law_1001 rfl 0 rfl ?_
  refine h_iload F dL_law_1002 4 rfl ?_
  refine h_iconst (v := 2) F dL_law_1004 (by decide) ?_
  refine h_iadd F dL_law_1005 ?_
  refine g_topr (y := nI (i + 2)) (nI_add i 2) ?_
  refine h_sld F S dL_law_1006 (vp_in_nI (by omega) (by omega)) ?_
  refine g_topr (y := xs (i + 2)) (by rw [cl_nI (by omega)]) ?_
  refine h_aload_n F dL_law_1007 rfl 3 rfl ?_
  refine h_callW (ws' := ws1) F Z dL_law_1008 hW rfl gL_law_L_thread kS_L_thread ⟨Nat.le_of_ble_eq_true rfl, Nat.le_of_ble_eq_true rfl⟩ isW hcW hnW hsW rfl (Nat.le_of_ble_eq_true rfl) ⟨by have h9 := rm_c; show cells + mcW ≤ room_1.cells; omega, by have h9 := rm_s; show slots + msW ≤ room_1.slots; omega⟩ ?_
  refine h_istore (L' := [(0, .ref b), (1, .ref x), (2, .ref y), (3, .ref oa), (4, .int (nI i)), (5, .int kr)]) F dL_law_1011 (by decide) [1, 2, 3, 4, 5, 0] rfl ?_
  refine h_aload_n F dL_law_1013 rfl 2 rfl ?_
  refine h_aload_n F dL_law_1014 rfl 0 rfl ?_
  refine h_iload F dL_law_1015 4 rfl ?_
  refine h_iconst (v := 1) F dL_law_1017 (by decide) ?_
  refine h_iadd F dL_law_1018 ?_
  refine g_topr (y := nI (i + 1)) (nI_add i 1) ?_
  refine h_sld F S dL_law_1019 (vp_in_nI (by omega) (by omega)) ?_
  refine g_topr (y := xs (i + 1)) (by rw [cl_nI (by omega)]) ?_
  refine h_aload_n F dL_law_1020 rfl 0 rfl ?_
  refine h_iload F dL_law_1021 4 rfl ?_
  refine h_iconst (v := 2) F dL_law_1023 (by decide) ?_
  refine h_iadd F dL_law_1024 ?_
  refine g_topr (y := nI (i + 2)) (nI_add i 2) ?_
  refine h_sld F S dL_law_1025 (vp_in_nI (by omega) (by omega)) ?_
  refine g_topr (y := xs (i + 2)) (by rw [cl_nI (by omega)]) ?_
  refine h_callV (ws' := ws2) F dL_law_1026 hM rfl gL_law_X5_thread qy hy rfl kV_X5_thread ⟨Nat.le_of_ble_eq_true rfl, Nat.le_of_ble_eq_true rfl⟩ isM hcM hnM hsM rfl (Nat.le_of_ble_eq_true rfl) ⟨by have h9 := rm_c; show cells + mcW + mcM ≤ room_1.cells; omega, by have h9 := rm_s; show slots + msW + msM ≤ room_1.slots; omega⟩ ?_
  refine h_istore (L' := [(0, .ref b), (1, .ref x), (2, .ref y), (3, .ref oa), (4, .int (nI i)), (5, .int kr), (6, .int br)]) F dL_law_1029 (by decide) [1, 2, 3, 4, 5, 6, 0] rfl ?_
  refine h_aload_n F dL_law_1031 rfl 2 rfl ?_
  refine h_callV (ws' := ws2) F dL_law_1032 hT rfl gL_law_X5_thrown qy2 hy2 rfl kV_X5_thrown ⟨Nat.le_of_ble_eq_true rfl, Nat.le_of_ble_eq_true rfl⟩ isT hcT hnT hsT rfl (Nat.le_of_ble_eq_true rfl) ⟨by have h9 := rm_c; show cells + mcW + mcM + 0 ≤ room_1.cells; omega, by have h9 := rm_s; show slots + msW + msM + 0 ≤ room_1.slots; omega⟩ ?_
  refine h_iload F dL_law_1035 5 rfl ?_
  refine h_icmp_eq_t (tgt := 1042) F dL_law_1037 (by decide) rfl ?_
  refine h_iload F dL_law_1042 5 rfl ?_
  refine h_if_ne (tgt := 1059) F dL_law_1044 (by decide) (fun k9 => ?_) (fun k9 => ?_)
  · skip
    refine h_goto (tgt := 1297) F dL_law_1059 (by decide) ?_
    refine g_lv (L' := [(0, .ref b), (1, .ref x), (2, .ref y), (3, .ref oa), (4, .int (nI i))]) [0, 1, 2, 3, 4] rfl ?_
    exact kk
  · have hk : kr = 0 := Classical.byContradiction k9
    refine h_aload_n F dL_law_1047 rfl 3 rfl ?_
    refine h_iconst (v := 0) F dL_law_1048 (by decide) ?_
    refine h_lald F Z dL_law_1049 qo hO (by unfold vp_in; decide) ?_
    refine g_topl (y := br.toInt64) (ho hk) ?_
    refine h_iload F dL_law_1050 6 rfl ?_
    refine h_i2l (v := br.toInt64) F dL_law_1052 rfl ?_
    refine h_lcmp F dL_law_1053 ?_
    refine h_if_eq_t (tgt := 1059) F dL_law_1054 (by decide) (by rw [lg_cmp_self]) ?_
    refine h_goto (tgt := 1297) F dL_law_1059 (by decide) ?_
    refine g_lv (L' := [(0, .ref b), (1, .ref x), (2, .ref y), (3, .ref oa), (4, .int (nI i))]) [0, 1, 2, 3, 4] rfl ?_
    exact kk

set_option maxHeartbeats 4000000 in
set_option maxRecDepth 100000 in
theorem seg_count {E : gE} {cL : ClassId} {X : gX} {hh : List (Nat × Nat × Nat × Nat)} {cells slots b n i x y oa mcW msW mcM msM qy qy2 qo : Nat} {xs : Nat → Int32} {kr br : Int32} {ol : Nat → Int64} {fy fy2 : List Value} {isW isM isT : List Nat} {ws ws1 ws2 W1 W1' W2 W2' W3 : va_W} (F : gW E X cL_law RL wsL_law (some .boolean) room_1 9 hh) (Z : gTW E cL X) (S : gS X b n xs) (hi : i + 3 < n) (hn : n ≤ 2048)
    (hW : CtW E cL yL_count wsL_count ({ frames := 8, cells := mcW, slots := msW, locals := 152 }) [.ref x, .int (xs (i + 1)), .ref oa] W1 (some (.int kr)) W1') (hcW : isW.map (fun i => ws[i]?) = W1.map some) (hnW : va_nd isW = true) (hsW : wput ws isW W1' = ws1)
    (hM : Ct E yX5_count wsX5_count ({ frames := 6, cells := mcM, slots := msM, locals := 138 }) [.ref y, .int (xs (i + 1))] W2 (some (.int br)) W2') (hcM : isM.map (fun i => ws1[i]?) = W2.map some) (hnM : va_nd isM = true) (hsM : wput ws1 isM W2' = ws2) (hy : ws1[qy]? = some (y, .inr (5, fy)))
    (hT : Ct E yX5_thrown wsX5_thrown ({ frames := 0, cells := 0, slots := 0, locals := 0 }) [.ref y] W3 (some (.int kr)) W3) (hcT : isT.map (fun i => ws2[i]?) = W3.map some) (hnT : va_nd isT = true) (hsT : wput ws2 isT W3 = ws2) (hy2 : ws2[qy2]? = some (y, .inr (5, fy2))) (hO : ws2[qo]? = some (oa, .inl (cL, 1, .inr (.inl ol)))) (ho : kr = 0 → ol 0 = br.toInt64)
    (hc : cells + mcW + mcM ≤ 600000) (hs : slots + msW + msM ≤ 7000000) (kk : G E X (cells + mcW + mcM + 0) (slots + msW + msM + 0) 1297 [(0, .ref b), (1, .ref x), (2, .ref y), (3, .ref oa), (4, .int (nI i))] [] ws2) : G E X cells slots 1062 [(0, .ref b), (1, .ref x), (2, .ref y), (3, .ref oa), (4, .int (nI i))] [] ws := by
  refine h_aload_n F dL_law_1062 rfl 1 rfl ?_
  refine h_aload_n F dL_law_1063 rfl 0 rfl ?_
  refine h_iload F dL_law_1064 4 rfl ?_
  refine h_iconst (v := 1) F dL_law_1066 (by decide) ?_
  refine h_iadd F dL_law_1067 ?_
  refine g_topr (y := nI (i + 1)) (nI_add i 1) ?_
  refine h_sld F S dL_law_1068 (vp_in_nI (by omega) (by omega)) ?_
  refine g_topr (y := xs (i + 1)) (by rw [cl_nI (by omega)]) ?_
  refine h_aload_n F dL_law_1069 rfl 3 rfl ?_
  refine h_callW (ws' := ws1) F Z dL_law_1070 hW rfl gL_law_L_count kS_L_count ⟨Nat.le_of_ble_eq_true rfl, Nat.le_of_ble_eq_true rfl⟩ isW hcW hnW hsW rfl (Nat.le_of_ble_eq_true rfl) ⟨by have h9 := rm_c; show cells + mcW ≤ room_1.cells; omega, by have h9 := rm_s; show slots + msW ≤ room_1.slots; omega⟩ ?_
  refine h_istore (L' := [(0, .ref b), (1, .ref x), (2, .ref y), (3, .ref oa), (4, .int (nI i)), (5, .int kr)]) F dL_law_1073 (by decide) [1, 2, 3, 4, 5, 0] rfl ?_
  refine h_aload_n F dL_law_1075 rfl 2 rfl ?_
  refine h_aload_n F dL_law_1076 rfl 0 rfl ?_
  refine h_iload F dL_law_1077 4 rfl ?_
  refine h_iconst (v := 1) F dL_law_1079 (by decide) ?_
  refine h_iadd F dL_law_1080 ?_
  refine g_topr (y := nI (i + 1)) (nI_add i 1) ?_
  refine h_sld F S dL_law_1081 (vp_in_nI (by omega) (by omega)) ?_
  refine g_topr (y := xs (i + 1)) (by rw [cl_nI (by omega)]) ?_
  refine h_callV (ws' := ws2) F dL_law_1082 hM rfl gL_law_X5_count qy hy rfl kV_X5_count ⟨Nat.le_of_ble_eq_true rfl, Nat.le_of_ble_eq_true rfl⟩ isM hcM hnM hsM rfl (Nat.le_of_ble_eq_true rfl) ⟨by have h9 := rm_c; show cells + mcW + mcM ≤ room_1.cells; omega, by have h9 := rm_s; show slots + msW + msM ≤ room_1.slots; omega⟩ ?_
  refine h_istore (L' := [(0, .ref b), (1, .ref x), (2, .ref y), (3, .ref oa), (4, .int (nI i)), (5, .int kr), (6, .int br)]) F dL_law_1085 (by decide) [1, 2, 3, 4, 5, 6, 0] rfl ?_
  refine h_aload_n F dL_law_1087 rfl 2 rfl ?_
  refine h_callV (ws' := ws2) F dL_law_1088 hT rfl gL_law_X5_thrown qy2 hy2 rfl kV_X5_thrown ⟨Nat.le_of_ble_eq_true rfl, Nat.le_of_ble_eq_true rfl⟩ isT hcT hnT hsT rfl (Nat.le_of_ble_eq_true rfl) ⟨by have h9 := rm_c; show cells + mcW + mcM + 0 ≤ room_1.cells; omega, by have h9 := rm_s; show slots + msW + msM + 0 ≤ room_1.slots; omega⟩ ?_
  refine h_iload F dL_law_1091 5 rfl ?_
  refine h_icmp_eq_t (tgt := 1098) F dL_law_1093 (by decide) rfl ?_
  refine h_iload F dL_law_1098 5 rfl ?_
  refine h_if_ne (tgt := 1115) F dL_law_1100 (by decide) (fun k9 => ?_) (fun k9 => ?_)
  · skip
    refine h_goto (tgt := 1297) F dL_law_1115 (by decide) ?_
    refine g_lv (L' := [(0, .ref b), (1, .ref x), (2, .ref y), (3, .ref oa), (4, .int (nI i))]) [0, 1, 2, 3, 4] rfl ?_
    exact kk
  · have hk : kr = 0 := Classical.byContradiction k9
    refine h_aload_n F dL_law_1103 rfl 3 rfl ?_
    refine h_iconst (v := 0) F dL_law_1104 (by decide) ?_
    refine h_lald F Z dL_law_1105 qo hO (by unfold vp_in; decide) ?_
    refine g_topl (y := br.toInt64) (ho hk) ?_
    refine h_iload F dL_law_1106 6 rfl ?_
    refine h_i2l (v := br.toInt64) F dL_law_1108 rfl ?_
    refine h_lcmp F dL_law_1109 ?_
    refine h_if_eq_t (tgt := 1115) F dL_law_1110 (by decide) (by rw [lg_cmp_self]) ?_
    refine h_goto (tgt := 1297) F dL_law_1115 (by decide) ?_
    refine g_lv (L' := [(0, .ref b), (1, .ref x), (2, .ref y), (3, .ref oa), (4, .int (nI i))]) [0, 1, 2, 3, 4] rfl ?_
    exact kk

set_option maxHeartbeats 4000000 in
set_option maxRecDepth 100000 in
theorem seg_would {E : gE} {cL : ClassId} {X : gX} {hh : List (Nat × Nat × Nat × Nat)} {cells slots b n i x y oa mcW msW mcM msM qy qy2 qo : Nat} {xs : Nat → Int32} {kr br : Int32} {ol : Nat → Int64} {fy fy2 : List Value} {isW isM isT : List Nat} {ws ws1 ws2 W1 W1' W2 W2' W3 : va_W} (F : gW E X cL_law RL wsL_law (some .boolean) room_1 9 hh) (Z : gTW E cL X) (S : gS X b n xs) (hi : i + 3 < n) (hn : n ≤ 2048)
    (hW : CtW E cL yL_would wsL_would ({ frames := 9, cells := mcW, slots := msW, locals := 174 }) [.ref x, .int (xs (i + 1)), .int (xs (i + 2)), .ref oa] W1 (some (.int kr)) W1') (hcW : isW.map (fun i => ws[i]?) = W1.map some) (hnW : va_nd isW = true) (hsW : wput ws isW W1' = ws1)
    (hM : Ct E yX5_would wsX5_would ({ frames := 6, cells := mcM, slots := msM, locals := 139 }) [.ref y, .int (xs (i + 1)), .int (xs (i + 2))] W2 (some (.int br)) W2') (hcM : isM.map (fun i => ws1[i]?) = W2.map some) (hnM : va_nd isM = true) (hsM : wput ws1 isM W2' = ws2) (hy : ws1[qy]? = some (y, .inr (5, fy)))
    (hT : Ct E yX5_thrown wsX5_thrown ({ frames := 0, cells := 0, slots := 0, locals := 0 }) [.ref y] W3 (some (.int kr)) W3) (hcT : isT.map (fun i => ws2[i]?) = W3.map some) (hnT : va_nd isT = true) (hsT : wput ws2 isT W3 = ws2) (hy2 : ws2[qy2]? = some (y, .inr (5, fy2))) (hO : ws2[qo]? = some (oa, .inl (cL, 1, .inr (.inl ol)))) (ho : kr = 0 → ol 0 = br.toInt64)
    (hc : cells + mcW + mcM ≤ 600000) (hs : slots + msW + msM ≤ 7000000) (kk : G E X (cells + mcW + mcM + 0) (slots + msW + msM + 0) 1297 [(0, .ref b), (1, .ref x), (2, .ref y), (3, .ref oa), (4, .int (nI i))] [] ws2) : G E X cells slots 1118 [(0, .ref b), (1, .ref x), (2, .ref y), (3, .ref oa), (4, .int (nI i))] [] ws := by
  refine h_aload_n F dL_law_1118 rfl 1 rfl ?_
  refine h_aload_n F dL_law_1119 rfl 0 rfl ?_
  refine h_iload F dL_law_1120 4 rfl ?_
  refine h_iconst (v := 1) F dL_law_1122 (by decide) ?_
  refine h_iadd F dL_law_1123 ?_
  refine g_topr (y := nI (i + 1)) (nI_add i 1) ?_
  refine h_sld F S dL_law_1124 (vp_in_nI (by omega) (by omega)) ?_
  refine g_topr (y := xs (i + 1)) (by rw [cl_nI (by omega)]) ?_
  refine h_aload_n F dL_law_1125 rfl 0 rfl ?_
  refine h_iload F dL_law_1126 4 rfl ?_
  refine h_iconst (v := 2) F dL_law_1128 (by decide) ?_
  refine h_iadd F dL_law_1129 ?_
  refine g_topr (y := nI (i + 2)) (nI_add i 2) ?_
  refine h_sld F S dL_law_1130 (vp_in_nI (by omega) (by omega)) ?_
  refine g_topr (y := xs (i + 2)) (by rw [cl_nI (by omega)]) ?_
  refine h_aload_n F dL_law_1131 rfl 3 rfl ?_
  refine h_callW (ws' := ws1) F Z dL_law_1132 hW rfl gL_law_L_would kS_L_would ⟨Nat.le_of_ble_eq_true rfl, Nat.le_of_ble_eq_true rfl⟩ isW hcW hnW hsW rfl (Nat.le_of_ble_eq_true rfl) ⟨by have h9 := rm_c; show cells + mcW ≤ room_1.cells; omega, by have h9 := rm_s; show slots + msW ≤ room_1.slots; omega⟩ ?_
  refine h_istore (L' := [(0, .ref b), (1, .ref x), (2, .ref y), (3, .ref oa), (4, .int (nI i)), (5, .int kr)]) F dL_law_1135 (by decide) [1, 2, 3, 4, 5, 0] rfl ?_
  refine h_aload_n F dL_law_1137 rfl 2 rfl ?_
  refine h_aload_n F dL_law_1138 rfl 0 rfl ?_
  refine h_iload F dL_law_1139 4 rfl ?_
  refine h_iconst (v := 1) F dL_law_1141 (by decide) ?_
  refine h_iadd F dL_law_1142 ?_
  refine g_topr (y := nI (i + 1)) (nI_add i 1) ?_
  refine h_sld F S dL_law_1143 (vp_in_nI (by omega) (by omega)) ?_
  refine g_topr (y := xs (i + 1)) (by rw [cl_nI (by omega)]) ?_
  refine h_aload_n F dL_law_1144 rfl 0 rfl ?_
  refine h_iload F dL_law_1145 4 rfl ?_
  refine h_iconst (v := 2) F dL_law_1147 (by decide) ?_
  refine h_iadd F dL_law_1148 ?_
  refine g_topr (y := nI (i + 2)) (nI_add i 2) ?_
  refine h_sld F S dL_law_1149 (vp_in_nI (by omega) (by omega)) ?_
  refine g_topr (y := xs (i + 2)) (by rw [cl_nI (by omega)]) ?_
  refine h_callV (ws' := ws2) F dL_law_1150 hM rfl gL_law_X5_would qy hy rfl kV_X5_would ⟨Nat.le_of_ble_eq_true rfl, Nat.le_of_ble_eq_true rfl⟩ isM hcM hnM hsM rfl (Nat.le_of_ble_eq_true rfl) ⟨by have h9 := rm_c; show cells + mcW + mcM ≤ room_1.cells; omega, by have h9 := rm_s; show slots + msW + msM ≤ room_1.slots; omega⟩ ?_
  refine h_istore (L' := [(0, .ref b), (1, .ref x), (2, .ref y), (3, .ref oa), (4, .int (nI i)), (5, .int kr), (6, .int br)]) F dL_law_1153 (by decide) [1, 2, 3, 4, 5, 6, 0] rfl ?_
  refine h_aload_n F dL_law_1155 rfl 2 rfl ?_
  refine h_callV (ws' := ws2) F dL_law_1156 hT rfl gL_law_X5_thrown qy2 hy2 rfl kV_X5_thrown ⟨Nat.le_of_ble_eq_true rfl, Nat.le_of_ble_eq_true rfl⟩ isT hcT hnT hsT rfl (Nat.le_of_ble_eq_true rfl) ⟨by have h9 := rm_c; show cells + mcW + mcM + 0 ≤ room_1.cells; omega, by have h9 := rm_s; show slots + msW + msM + 0 ≤ room_1.slots; omega⟩ ?_
  refine h_iload F dL_law_1159 5 rfl ?_
  refine h_icmp_eq_t (tgt := 1166) F dL_law_1161 (by decide) rfl ?_
  refine h_iload F dL_law_1166 5 rfl ?_
  refine h_if_ne (tgt := 1183) F dL_law_1168 (by decide) (fun k9 => ?_) (fun k9 => ?_)
  · skip
    refine h_goto (tgt := 1297) F dL_law_1183 (by decide) ?_
    refine g_lv (L' := [(0, .ref b), (1, .ref x), (2, .ref y), (3, .ref oa), (4, .int (nI i))]) [0, 1, 2, 3, 4] rfl ?_
    exact kk
  · have hk : kr = 0 := Classical.byContradiction k9
    refine h_aload_n F dL_law_1171 rfl 3 rfl ?_
    refine h_iconst (v := 0) F dL_law_1172 (by decide) ?_
    refine h_lald F Z dL_law_1173 qo hO (by unfold vp_in; decide) ?_
    refine g_topl (y := br.toInt64) (ho hk) ?_
    refine h_iload F dL_law_1174 6 rfl ?_
    refine h_i2l (v := br.toInt64) F dL_law_1176 rfl ?_
    refine h_lcmp F dL_law_1177 ?_
    refine h_if_eq_t (tgt := 1183) F dL_law_1178 (by decide) (by rw [lg_cmp_self]) ?_
    refine h_goto (tgt := 1297) F dL_law_1183 (by decide) ?_
    refine g_lv (L' := [(0, .ref b), (1, .ref x), (2, .ref y), (3, .ref oa), (4, .int (nI i))]) [0, 1, 2, 3, 4] rfl ?_
    exact kk

set_option maxHeartbeats 4000000 in
set_option maxRecDepth 100000 in
theorem seg_advise {E : gE} {cL : ClassId} {X : gX} {hh : List (Nat × Nat × Nat × Nat)} {cells slots b n i x y oa mcW msW mcM msM qy qy2 qo : Nat} {xs : Nat → Int32} {kr br : Int32} {ol : Nat → Int64} {fy fy2 : List Value} {isW isM isT : List Nat} {ws ws1 ws2 W1 W1' W2 W2' W3 : va_W} (F : gW E X cL_law RL wsL_law (some .boolean) room_1 9 hh) (Z : gTW E cL X) (S : gS X b n xs) (hi : i + 3 < n) (hn : n ≤ 2048)
    (hW : CtW E cL yL_advise wsL_advise ({ frames := 9, cells := mcW, slots := msW, locals := 177 }) [.ref x, .int (xs (i + 1)), .ref oa] W1 (some (.int kr)) W1') (hcW : isW.map (fun i => ws[i]?) = W1.map some) (hnW : va_nd isW = true) (hsW : wput ws isW W1' = ws1)
    (hM : Ct E yX5_advise wsX5_advise ({ frames := 5, cells := mcM, slots := msM, locals := 117 }) [.ref y, .int (xs (i + 1))] W2 (some (.int br)) W2') (hcM : isM.map (fun i => ws1[i]?) = W2.map some) (hnM : va_nd isM = true) (hsM : wput ws1 isM W2' = ws2) (hy : ws1[qy]? = some (y, .inr (5, fy)))
    (hT : Ct E yX5_thrown wsX5_thrown ({ frames := 0, cells := 0, slots := 0, locals := 0 }) [.ref y] W3 (some (.int kr)) W3) (hcT : isT.map (fun i => ws2[i]?) = W3.map some) (hnT : va_nd isT = true) (hsT : wput ws2 isT W3 = ws2) (hy2 : ws2[qy2]? = some (y, .inr (5, fy2))) (hO : ws2[qo]? = some (oa, .inl (cL, 1, .inr (.inl ol)))) (ho : kr = 0 → ol 0 = br.toInt64)
    (hc : cells + mcW + mcM ≤ 600000) (hs : slots + msW + msM ≤ 7000000) (kk : G E X (cells + mcW + mcM + 0) (slots + msW + msM + 0) 1297 [(0, .ref b), (1, .ref x), (2, .ref y), (3, .ref oa), (4, .int (nI i))] [] ws2) : G E X cells slots 1186 [(0, .ref b), (1, .ref x), (2, .ref y), (3, .ref oa), (4, .int (nI i))] [] ws := by
  refine h_aload_n F dL_law_1186 rfl 1 rfl ?_
  refine h_aload_n F dL_law_1187 rfl 0 rfl ?_
  refine h_iload F dL_law_1188 4 rfl ?_
  refine h_iconst (v := 1) F dL_law_1190 (by decide) ?_
  refine h_iadd F dL_law_1191 ?_
  refine g_topr (y := nI (i + 1)) (nI_add i 1) ?_
  refine h_sld F S dL_law_1192 (vp_in_nI (by omega) (by omega)) ?_
  refine g_topr (y := xs (i + 1)) (by rw [cl_nI (by omega)]) ?_
  refine h_aload_n F dL_law_1193 rfl 3 rfl ?_
  refine h_callW (ws' := ws1) F Z dL_law_1194 hW rfl gL_law_L_advise kS_L_advise ⟨Nat.le_of_ble_eq_true rfl, Nat.le_of_ble_eq_true rfl⟩ isW hcW hnW hsW rfl (Nat.le_of_ble_eq_true rfl) ⟨by have h9 := rm_c; show cells + mcW ≤ room_1.cells; omega, by have h9 := rm_s; show slots + msW ≤ room_1.slots; omega⟩ ?_
  refine h_istore (L' := [(0, .ref b), (1, .ref x), (2, .ref y), (3, .ref oa), (4, .int (nI i)), (5, .int kr)]) F dL_law_1197 (by decide) [1, 2, 3, 4, 5, 0] rfl ?_
  refine h_aload_n F dL_law_1199 rfl 2 rfl ?_
  refine h_aload_n F dL_law_1200 rfl 0 rfl ?_
  refine h_iload F dL_law_1201 4 rfl ?_
  refine h_iconst (v := 1) F dL_law_1203 (by decide) ?_
  refine h_iadd F dL_law_1204 ?_
  refine g_topr (y := nI (i + 1)) (nI_add i 1) ?_
  refine h_sld F S dL_law_1205 (vp_in_nI (by omega) (by omega)) ?_
  refine g_topr (y := xs (i + 1)) (by rw [cl_nI (by omega)]) ?_
  refine h_callV (ws' := ws2) F dL_law_1206 hM rfl gL_law_X5_advise qy hy rfl kV_X5_advise ⟨Nat.le_of_ble_eq_true rfl, Nat.le_of_ble_eq_true rfl⟩ isM hcM hnM hsM rfl (Nat.le_of_ble_eq_true rfl) ⟨by have h9 := rm_c; show cells + mcW + mcM ≤ room_1.cells; omega, by have h9 := rm_s; show slots + msW + msM ≤ room_1.slots; omega⟩ ?_
  refine h_istore (L' := [(0, .ref b), (1, .ref x), (2, .ref y), (3, .ref oa), (4, .int (nI i)), (5, .int kr), (6, .int br)]) F dL_law_1209 (by decide) [1, 2, 3, 4, 5, 6, 0] rfl ?_
  refine h_aload_n F dL_law_1211 rfl 2 rfl ?_
  refine h_callV (ws' := ws2) F dL_law_1212 hT rfl gL_law_X5_thrown qy2 hy2 rfl kV_X5_thrown ⟨Nat.le_of_ble_eq_true rfl, Nat.le_of_ble_eq_true rfl⟩ isT hcT hnT hsT rfl (Nat.le_of_ble_eq_true rfl) ⟨by have h9 := rm_c; show cells + mcW + mcM + 0 ≤ room_1.cells; omega, by have h9 := rm_s; show slots + msW + msM + 0 ≤ room_1.slots; omega⟩ ?_
  refine h_iload F dL_law_1215 5 rfl ?_
  refine h_icmp_eq_t (tgt := 1222) F dL_law_1217 (by decide) rfl ?_
  refine h_iload F dL_law_1222 5 rfl ?_
  refine h_if_ne (tgt := 1239) F dL_law_1224 (by decide) (fun k9 => ?_) (fun k9 => ?_)
  · skip
    refine h_goto (tgt := 1297) F dL_law_1239 (by decide) ?_
    refine g_lv (L' := [(0, .ref b), (1, .ref x), (2, .ref y), (3, .ref oa), (4, .int (nI i))]) [0, 1, 2, 3, 4] rfl ?_
    exact kk
  · have hk : kr = 0 := Classical.byContradiction k9
    refine h_aload_n F dL_law_1227 rfl 3 rfl ?_
    refine h_iconst (v := 0) F dL_law_1228 (by decide) ?_
    refine h_lald F Z dL_law_1229 qo hO (by unfold vp_in; decide) ?_
    refine g_topl (y := br.toInt64) (ho hk) ?_
    refine h_iload F dL_law_1230 6 rfl ?_
    refine h_i2l (v := br.toInt64) F dL_law_1232 rfl ?_
    refine h_lcmp F dL_law_1233 ?_
    refine h_if_eq_t (tgt := 1239) F dL_law_1234 (by decide) (by rw [lg_cmp_self]) ?_
    refine h_goto (tgt := 1297) F dL_law_1239 (by decide) ?_
    refine g_lv (L' := [(0, .ref b), (1, .ref x), (2, .ref y), (3, .ref oa), (4, .int (nI i))]) [0, 1, 2, 3, 4] rfl ?_
    exact kk
end PSEGS
