/-! the law's body: its start, its loop -/
section PLOOP
variable {E : gE} {cL : ClassId} {X : gX} {hh : List (Nat × Nat × Nat × Nat)} {b nn : Nat} {xs : Nat → Int32}
theorem h_dup {cells slots pc : Nat} {L : List (Nat × Value)} {st : List Value} {ws : va_W} (F : gW E X cL_law RL wsL_law (some .boolean) room_1 9 hh) {va : Value} (hdg : decode cL_law pc = .ok (.dup, 1)) (hva : va.category = 1) (k : G E X cells slots (pc + 1) L (va :: va :: st) ws) : G E X cells slots pc L (va :: st) ws := by
  obtain ⟨p, e, R, s, m, args, below, meth, c, Q, A, nL⟩ := X
  obtain ⟨⟨hx, hb, hml, hown, hts⟩, hr, hlk, hK, hA, hR, hn0, hT⟩ := F
  intro H locs ls hP hD hS hl
  exact lv_dup hx hb hdg hva (k H locs ls hP hD hS hl)
set_option maxRecDepth 20000 in
theorem inL_i {w : Cond} {i : Nat} (h : wsL_law0[i]? = some w) : w ∈ wsL_law :=
  List.mem_append_left _ (List.mem_append_left _ (List.mem_append_left _ (List.mem_of_getElem? h)))
theorem lp_back {i c s : Nat} (F : gW E X cL_law RL wsL_law (some .boolean) room_1 9 hh) (kont : At E cL X b 23 (i + 4) (i + 4) c s) : At E cL X b 1297 i (i + 1) c s := by
  intro a ka qa ra oa t f p th K Q n r ol hI cells slots hcc hss
  refine h_iinc (v := nI (i + 4)) (L' := [(0, .ref b), (1, .ref (a 0)), (2, .ref (ra 0)), (3, .ref oa), (4, .int (nI (i + 4)))]) F dL_law_1297 4 rfl (nI_add i 4) (by decide) [1, 2, 3, 4, 0] rfl ?_
  refine h_goto (tgt := 23) F dL_law_1300 (by decide) ?_
  exact kont a ka qa ra oa t f p th K Q n r ol (hI.up (by omega)) cells slots hcc hss
theorem sub4_on {i n : Nat} (hi : i + 3 < n) (hn : n ≤ 2048) : ¬ nI n - 4 < nI i := by
  obtain ⟨q, rfl⟩ : ∃ q, n = q + 4 := ⟨n - 4, by omega⟩
  have e : nI (q + 4) - 4 = nI q := by
    rw [← nI_add q 4]
    exact Int32.add_sub_cancel _ _
  rw [e]
  exact nI_nlt (show i ≤ q by omega) (by omega)
theorem sub4_off {i n : Nat} (hi : ¬ i + 3 < n) (hi2 : i < 2147483648) : nI n - 4 < nI i := by
  rcases Nat.lt_or_ge n 4 with h | h
  · have h0 : nI n - 4 < 0 := by
      rcases (show n = 0 ∨ n = 1 ∨ n = 2 ∨ n = 3 by omega) with rfl | rfl | rfl | rfl <;> decide
    exact Int32.lt_of_lt_of_le h0 (nI_pos' hi2)
  · obtain ⟨q, rfl⟩ : ∃ q, n = q + 4 := ⟨n - 4, by omega⟩
    have e : nI (q + 4) - 4 = nI q := by
      rw [← nI_add q 4]
      exact Int32.add_sub_cancel _ _
    rw [e]
    exact nI_lt (by omega) hi2
set_option maxHeartbeats 4000000 in
set_option maxRecDepth 100000 in
theorem lp_off {i c s : Nat} (F : gW E X cL_law RL wsL_law (some .boolean) room_1 9 hh) (S : gS X b nn xs) (hi : ¬ i + 3 < nn) (hi2 : i < 2147483648) (fin : At E cL X b 1303 i i c s) : At E cL X b 23 i i c s := by
  intro a ka qa ra oa t f p th K Q n r ol hI cells slots hcc hss
  refine h_iload F dL_law_23 4 rfl ?_
  refine h_aload_n F dL_law_25 rfl 0 rfl ?_
  refine h_slen F S dL_law_26 ?_
  refine h_iconst (v := 4) F dL_law_27 (by decide) ?_
  refine h_isub F dL_law_28 ?_
  refine h_icmp_gt_t (tgt := 1303) F dL_law_29 (by decide) (sub4_off hi hi2) ?_
  exact fin a ka qa ra oa t f p th K Q n r ol hI cells slots hcc hss
theorem sw_off {j : Nat} (h : 20 ≤ j) (h2 : j < 32) : 19 < (nI j).toInt := by
  rw [nI_toInt (by omega)]
  omega
set_option maxHeartbeats 4000000 in
set_option maxRecDepth 100000 in
theorem lp_on {i c s : Nat} (F : gW E X cL_law RL wsL_law (some .boolean) room_1 9 hh) (Z : gTW E cL X) (S : gS X b nn xs) (hi : i + 3 < nn) (hn : nn ≤ 2048) (hc : c + 8 ≤ 600000) (hs : s + 64 ≤ 7000000) (kont : At E cL X b 1297 i (i + 1) (c + 8) (s + 64)) : At E cL X b 23 i i c s := by
  intro a ka qa ra oa t f p th K Q n r ol hI cells slots hcc hss
  refine h_iload F dL_law_23 4 rfl ?_
  refine h_aload_n F dL_law_25 rfl 0 rfl ?_
  refine h_slen F S dL_law_26 ?_
  refine h_iconst (v := 4) F dL_law_27 (by decide) ?_
  refine h_isub F dL_law_28 ?_
  refine h_icmp_gt_f (tgt := 1303) F dL_law_29 (by decide) (sub4_on hi hn) ?_
  refine h_aload_n F dL_law_32 rfl 0 rfl ?_
  refine h_iload F dL_law_33 4 rfl ?_
  refine h_sld F S dL_law_35 (vp_in_nI (by omega) (by omega)) ?_
  refine g_topr (y := xs i) (by rw [cl_nI (by omega)]) ?_
  refine h_bipush (v := 31) F dL_law_36 (by decide) ?_
  refine h_iand F dL_law_38 ?_
  obtain ⟨j, hj, ej⟩ := pk_andE (xs i) (m := 31) 5 (by decide)
  refine g_topr ej ?_
  rcases Nat.lt_or_ge j 20 with h20 | h20
  · rcases (show j = 0 ∨ j = 1 ∨ j = 2 ∨ j = 3 ∨ j = 4 ∨ j = 5 ∨ j = 6 ∨ j = 7 ∨ j = 8 ∨ j = 9 ∨ j = 10 ∨ j = 11 ∨ j = 12 ∨ j = 13 ∨ j = 14 ∨ j = 15 ∨ j = 16 ∨ j = 17 ∨ j = 18 ∨ j = 19 by omega) with rfl | rfl | rfl | rfl | rfl | rfl | rfl | rfl | rfl | rfl | rfl | rfl | rfl | rfl | rfl | rfl | rfl | rfl | rfl | rfl
    · refine h_swIn (off := 93) (tgt := 132) F dL_law_39 (by decide) (by decide) (by decide) (by decide) ?_
      exact case_set F Z S hi hn hc hs kont a ka qa ra oa t f p th K Q n r ol hI cells slots hcc hss
    · refine h_swIn (off := 173) (tgt := 212) F dL_law_39 (by decide) (by decide) (by decide) (by decide) ?_
      exact case_row F Z S hi hn hc hs kont a ka qa ra oa t f p th K Q n r ol hI cells slots hcc hss
    · refine h_swIn (off := 253) (tgt := 292) F dL_law_39 (by decide) (by decide) (by decide) (by decide) ?_
      exact case_like F Z S hi hn hc hs kont a ka qa ra oa t f p th K Q n r ol hI cells slots hcc hss
    · refine h_swIn (off := 321) (tgt := 360) F dL_law_39 (by decide) (by decide) (by decide) (by decide) ?_
      exact case_setColours F Z S hi hn hc hs kont a ka qa ra oa t f p th K Q n r ol hI cells slots hcc hss
    · refine h_swIn (off := 377) (tgt := 416) F dL_law_39 (by decide) (by decide) (by decide) (by decide) ?_
      exact case_setCarry F Z S hi hn hc hs kont a ka qa ra oa t f p th K Q n r ol hI cells slots hcc hss
    · refine h_swIn (off := 433) (tgt := 472) F dL_law_39 (by decide) (by decide) (by decide) (by decide) ?_
      exact case_setTurning F Z S hi hn hc hs kont a ka qa ra oa t f p th K Q n r ol hI cells slots hcc hss
    · refine h_swIn (off := 474) (tgt := 513) F dL_law_39 (by decide) (by decide) (by decide) (by decide) ?_
      exact case_setPressing F Z S hi hn hc hs kont a ka qa ra oa t f p th K Q n r ol hI cells slots hcc hss
    · refine h_swIn (off := 515) (tgt := 554) F dL_law_39 (by decide) (by decide) (by decide) (by decide) ?_
      exact case_wind F Z S hi hn hc hs kont a ka qa ra oa t f p th K Q n r ol hI cells slots hcc hss
    · refine h_swIn (off := 583) (tgt := 622) F dL_law_39 (by decide) (by decide) (by decide) (by decide) ?_
      exact case_weave F Z S hi hn hc hs kont a ka qa ra oa t f p th K Q n r ol hI cells slots hcc hss
    · refine h_swIn (off := 627) (tgt := 666) F dL_law_39 (by decide) (by decide) (by decide) (by decide) ?_
      exact case_shade F Z S hi hn hc hs kont a ka qa ra oa t f p th K Q n r ol hI cells slots hcc hss
    · refine h_swIn (off := 695) (tgt := 734) F dL_law_39 (by decide) (by decide) (by decide) (by decide) ?_
      exact case_palette F Z S hi hn hc hs kont a ka qa ra oa t f p th K Q n r ol hI cells slots hcc hss
    · refine h_swIn (off := 751) (tgt := 790) F dL_law_39 (by decide) (by decide) (by decide) (by decide) ?_
      exact case_cell F Z S hi hn hc hs kont a ka qa ra oa t f p th K Q n r ol hI cells slots hcc hss
    · refine h_swIn (off := 819) (tgt := 858) F dL_law_39 (by decide) (by decide) (by decide) (by decide) ?_
      exact case_run F Z S hi hn hc hs kont a ka qa ra oa t f p th K Q n r ol hI cells slots hcc hss
    · refine h_swIn (off := 899) (tgt := 938) F dL_law_39 (by decide) (by decide) (by decide) (by decide) ?_
      exact case_knots F Z S hi hn hc hs kont a ka qa ra oa t f p th K Q n r ol hI cells slots hcc hss
    · refine h_swIn (off := 955) (tgt := 994) F dL_law_39 (by decide) (by decide) (by decide) (by decide) ?_
      exact case_thread F Z S hi hn hc hs kont a ka qa ra oa t f p th K Q n r ol hI cells slots hcc hss
    · refine h_swIn (off := 1023) (tgt := 1062) F dL_law_39 (by decide) (by decide) (by decide) (by decide) ?_
      exact case_count F Z S hi hn hc hs kont a ka qa ra oa t f p th K Q n r ol hI cells slots hcc hss
    · refine h_swIn (off := 1079) (tgt := 1118) F dL_law_39 (by decide) (by decide) (by decide) (by decide) ?_
      exact case_would F Z S hi hn hc hs kont a ka qa ra oa t f p th K Q n r ol hI cells slots hcc hss
    · refine h_swIn (off := 1147) (tgt := 1186) F dL_law_39 (by decide) (by decide) (by decide) (by decide) ?_
      exact case_advise F Z S hi hn hc hs kont a ka qa ra oa t f p th K Q n r ol hI cells slots hcc hss
    · refine h_swIn (off := 1203) (tgt := 1242) F dL_law_39 (by decide) (by decide) (by decide) (by decide) ?_
      exact case_mean F Z S hi hn hc hs kont a ka qa ra oa t f p th K Q n r ol hI cells slots hcc hss
    · refine h_swIn (off := 1244) (tgt := 1283) F dL_law_39 (by decide) (by decide) (by decide) (by decide) ?_
      exact case_digest F Z S hi hn hc hs kont a ka qa ra oa t f p th K Q n r ol hI cells slots hcc hss
  · refine h_swOut (tgt := 1297) F dL_law_39 (Or.inr (sw_off h20 (by omega))) (by decide) ?_
    exact kont a ka qa ra oa t f p th K Q n r ol (hI.up (Nat.le_succ i)) cells slots (by omega) (by omega)
/-- the loop, by what is left of the script -/
theorem lp_loop (F : gW E X cL_law RL wsL_law (some .boolean) room_1 9 hh) (Z : gTW E cL X) (S : gS X b nn xs) (hn : nn ≤ 2048) (fin : ∀ i c s, c ≤ 600000 → s ≤ 7000000 → At E cL X b 1303 i i c s) : ∀ k i c s, nn ≤ i + 4 * k → i ≤ nn + 4 → c + 8 * k ≤ 600000 → s + 64 * k ≤ 7000000 → At E cL X b 23 i i c s
  | 0, i, c, s, h1, h2, h3, h4 => lp_off F S (by omega) (by omega) (fin i c s (by omega) (by omega))
  | k + 1, i, c, s, h1, h2, h3, h4 => by
    by_cases hi : i + 3 < nn
    · exact lp_on F Z S hi hn (by omega) (by omega) (lp_back F (lp_loop F Z S hn fin k (i + 4) (c + 8) (s + 64) (by omega) (by omega) (by omega) (by omega)))
    · exact lp_off F S hi (by omega) (fin i c s (by omega) (by omega))
/-- the addresses of the class's first cells, of the reference's -/
def adA (x : Nat) (z : Nat → Nat) : Nat → Nat
  | 0 => x
  | j + 1 => z j
abbrev f0S : AF := aFill 128 (fun _ => 0) 96
abbrev t0S : AF := upd (upd (upd (upd (upd (upd (fun _ => 0) 0 200) 1 200) 2 200) 3 200) 4 200) 5 200
abbrev tapS (E : gE) (x : Nat) (z : Nat → Nat) : va_W := wTp E (adA x z) (z 9) (z 22) (3, 2, 0, 0, 0) f0S ((fun _ => 0), (fun _ => 0), (fun _ => 0), (fun _ => 0), 0) t0S ++ wCl E (fun j => z (9 + j)) ((fun _ => 0), (fun _ => 0), (fun _ => 0), (fun _ => 0), 0, (fun _ => 0), (fun _ => 0), (fun _ => 0), (fun _ => 0), 0) ++ wCl E (fun j => z (22 + j)) ((fun _ => 0), (fun _ => 0), (fun _ => 0), (fun _ => 0), 0, (fun _ => 0), (fun _ => 0), (fun _ => 0), (fun _ => 0), 0)
theorem th_0 : sFill 200 (fun _ => 0) 6 = t0S := by
  simp only [sFill, cl_nI (show (0 : Nat) < 2147483648 by omega), cl_nI (show (1 : Nat) < 2147483648 by omega), cl_nI (show (2 : Nat) < 2147483648 by omega), cl_nI (show (3 : Nat) < 2147483648 by omega), cl_nI (show (4 : Nat) < 2147483648 by omega), cl_nI (show (5 : Nat) < 2147483648 by omega)]
set_option maxHeartbeats 4000000 in
set_option maxRecDepth 100000 in
/-- from the entry to the loop -/
theorem lp_open (F : gW E X cL_law RL wsL_law (some .boolean) room_1 9 hh) (Z : gTW E cL X) (kont : At E cL X b 23 0 0 60 7000) : G E X 0 0 0 [(0, .ref b)] [] [] := by
  refine h_new (ci := 4) (fs := [.null, .null, .null, .null, .null, .int 0, .int 0, .int 0, .int 0, .int 0]) F dL_law_0 inlX4 tyX4 tyX4_ok (inL_i (i := 0) rfl) (inL_i (i := 1) rfl) (inL_i (i := 2) rfl) rfl (by intro j hj; match j, hj with | 0, _ => rfl | 1, _ => rfl | 2, _ => rfl | 3, _ => rfl | 4, _ => rfl | 5, _ => rfl | 6, _ => rfl | 7, _ => rfl | 8, _ => rfl | 9, _ => rfl) (by have h9 := rm_c; show 0 + 1 ≤ room_1.cells; omega) (by have h9 := rm_s; show 0 + 10 ≤ room_1.slots; omega) (fun x => ?_)
  refine h_dup F dL_law_3 rfl ?_
  refine h_callI (q0 := 0) (isR := []) (wsR := []) (rest := [.ref x]) F dL_law_4 (c_X4_init E x) rfl gL_law_X4_init (inL_i (i := 2) rfl) (inL_i (i := 8) rfl) (inL_i (i := 7) rfl) rfl (by decide +kernel) ⟨Nat.le_of_ble_eq_true rfl, Nat.le_of_ble_eq_true rfl⟩ rfl (by decide +kernel) rfl (Nat.le_of_ble_eq_true rfl) ⟨by have h9 := rm_c; show 0 + 1 + 36 ≤ room_1.cells; omega, by have h9 := rm_s; show 0 + 10 + 5000 ≤ room_1.slots; omega⟩ (fun z => ?_)
  refine g_ws (ws' := tapS E x z) (by rw [th_0, fill_eq 128 (fun _ => 0) 96 (by omega)]; rfl) ?_
  refine h_astore_n (L' := [(0, .ref b), (1, .ref x)]) F dL_law_7 rfl (by decide) [1, 0] rfl ?_
  refine h_new (ci := 5) (fs := [.int 0, .null, .int 0, .int 0, .int 0, .int 0, .null, .int 0, .null, .null, .null, .int 0, .null, .null, .int 0, .int 0, .int 0, .null, .null]) F dL_law_8 inlX5 tyX5 tyX5_ok (inL_i (i := 3) rfl) (inL_i (i := 4) rfl) (inL_i (i := 5) rfl) rfl (by intro j hj; match j, hj with | 0, _ => rfl | 1, _ => rfl | 2, _ => rfl | 3, _ => rfl | 4, _ => rfl | 5, _ => rfl | 6, _ => rfl | 7, _ => rfl | 8, _ => rfl | 9, _ => rfl | 10, _ => rfl | 11, _ => rfl | 12, _ => rfl | 13, _ => rfl | 14, _ => rfl | 15, _ => rfl | 16, _ => rfl | 17, _ => rfl | 18, _ => rfl | _ + 19, h => exact absurd h (by omega)) (by have h9 := rm_c; show 0 + 1 + 36 + 1 ≤ room_1.cells; omega) (by have h9 := rm_s; show 0 + 10 + 5000 + 19 ≤ room_1.slots; omega) (fun y => ?_)
  refine h_dup F dL_law_11 rfl ?_
  refine h_callI (q0 := 36) (isR := [0, 1, 2, 3, 4, 5, 6, 7, 8, 9, 10, 11, 12, 13, 14, 15, 16, 17, 18, 19, 20, 21, 22, 23, 24, 25, 26, 27, 28, 29, 30, 31, 32, 33, 34, 35]) (wsR := tapS E x z) (rest := [.ref y]) F dL_law_12 (c_X5_init E y) rfl gL_law_X5_init (inL_i (i := 5) rfl) (inL_i (i := 71) rfl) (inL_i (i := 70) rfl) rfl (by decide +kernel) ⟨Nat.le_of_ble_eq_true rfl, Nat.le_of_ble_eq_true rfl⟩ rfl (by decide +kernel) rfl (Nat.le_of_ble_eq_true rfl) ⟨by have h9 := rm_c; show 0 + 1 + 36 + 1 + 10 ≤ room_1.cells; omega, by have h9 := rm_s; show 0 + 10 + 5000 + 19 + 600 ≤ room_1.slots; omega⟩ (fun v => ?_)
  refine h_astore_n (L' := [(0, .ref b), (1, .ref x), (2, .ref y)]) F dL_law_15 rfl (by decide) [1, 2, 0] rfl ?_
  refine h_iconst (v := 1) F dL_law_16 (by decide) ?_
  refine h_newl (N' := 1) F Z dL_law_17 (inL_i (i := 6) rfl) (by decide) (by decide) (by omega) (by have h9 := rm_c; show 0 + 1 + 36 + 1 + 10 + 1 ≤ room_1.cells; omega) (by have h9 := rm_s; show 0 + 10 + 5000 + 19 + 600 + 1 ≤ room_1.slots; omega) (fun oa => ?_)
  refine h_astore_n (L' := [(0, .ref b), (1, .ref x), (2, .ref y), (3, .ref oa)]) F dL_law_19 rfl (by decide) [1, 2, 3, 0] rfl ?_
  refine h_iconst (v := nI 0) F dL_law_20 (by decide) ?_
  refine h_istore (L' := [(0, .ref b), (1, .ref x), (2, .ref y), (3, .ref oa), (4, .int (nI 0))]) F dL_law_21 (by decide) [1, 2, 3, 4, 0] rfl ?_
  refine g_ws (ws' := wAll E cL (adA x z) (fun j => z (9 + j)) (fun j => z (22 + j)) (adA y v) oa (3, 2, 0, 0, 0) f0S ((fun _ => 0), (fun _ => 0), (fun _ => 0), (fun _ => 0), 0) t0S ((fun _ => 0), (fun _ => 0), (fun _ => 0), (fun _ => 0), 0, (fun _ => 0), (fun _ => 0), (fun _ => 0), (fun _ => 0), 0) ((fun _ => 0), (fun _ => 0), (fun _ => 0), (fun _ => 0), 0, (fun _ => 0), (fun _ => 0), (fun _ => 0), (fun _ => 0), 0) (0, 0, 0, 0, 0) ((fun _ => 0), (fun _ => 0), (fun _ => 0), (fun _ => 0), (fun _ => 0), (fun _ => 0), (fun _ => 0)) (fun _ => 0)) rfl ?_
  exact kont (adA x z) (fun j => z (9 + j)) (fun j => z (22 + j)) (adA y v) oa (3, 2, 0, 0, 0) f0S ((fun _ => 0), (fun _ => 0), (fun _ => 0), (fun _ => 0), 0) t0S ((fun _ => 0), (fun _ => 0), (fun _ => 0), (fun _ => 0), 0, (fun _ => 0), (fun _ => 0), (fun _ => 0), (fun _ => 0), 0) ((fun _ => 0), (fun _ => 0), (fun _ => 0), (fun _ => 0), 0, (fun _ => 0), (fun _ => 0), (fun _ => 0), (fun _ => 0), 0) (0, 0, 0, 0, 0) ((fun _ => 0), (fun _ => 0), (fun _ => 0), (fun _ => 0), (fun _ => 0), (fun _ => 0), (fun _ => 0)) (fun _ => 0) (Inv.zero f0S okF_0 ((fun _ => 0), (fun _ => 0), (fun _ => 0), (fun _ => 0), 0, (fun _ => 0), (fun _ => 0), (fun _ => 0), (fun _ => 0), 0) (0, 0, 0, 0, 0) ((fun _ => 0), (fun _ => 0), (fun _ => 0), (fun _ => 0), (fun _ => 0), (fun _ => 0), (fun _ => 0)) rfl rfl rfl) _ _ (Nat.le_of_ble_eq_true rfl) (Nat.le_of_ble_eq_true rfl)
end PLOOP
