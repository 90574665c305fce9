/-! Sim: a cloth -/
section SIMB
/-- the colour, t candidates from the last one seen -/
def zNear (pal : AF) (w : Int32) (n : Nat) : Nat → Nat
  | 0 => 0
  | t + 1 => if sAbs (w - pal (n - t - 1)) ≤ sAbs (w - pal (zNear pal w n t)) then n - t - 1 else zNear pal w n t
theorem zNear_lt (pal : AF) (w : Int32) {n : Nat} (hn : 0 < n) : ∀ t, zNear pal w n t < n
  | 0 => hn
  | t + 1 => by
    have := zNear_lt pal w hn t
    rw [zNear]
    split <;> omega
def zAdd (v : Nat → AF) (y x : Nat) (e : Int32) : Nat → AF := va_up v y (upd (v y) x (v y x + e))
/-- what a cell gives on; f ahead of it, g behind it -/
def zGive (v : Nat → AF) (car er : Int32) (y x f g : Nat) : Nat → AF :=
  if car = 1 then zAdd v y f er else if car = 2 then zAdd (zAdd (zAdd (zAdd v y f (er * 7 / 16)) (y + 1) g (er * 3 / 16)) (y + 1) x (er * 5 / 16)) (y + 1) f (er - er * 7 / 16 - er * 3 / 16 - er * 5 / 16) else v
abbrev ZS : Type := (Nat → AF) × (Nat → AF)
def zCell1 (pal : AF) (b : Nat) (car : Int32) (y x f g : Nat) (s : ZS) : ZS :=
  (va_up s.1 y (upd (s.1 y) (x - 1) (nI (zNear pal (s.2 y x) b b))), zGive s.2 car (s.2 y x - pal (zNear pal (s.2 y x) b b)) y x f g)
def zRowF (pal : AF) (b : Nat) (car : Int32) (y : Nat) (s : ZS) : Nat → ZS
  | 0 => s
  | i + 1 => zCell1 pal b car y (i + 1) (i + 2) i (zRowF pal b car y s i)
def zRowB (pal : AF) (b : Nat) (car : Int32) (y : Nat) (s : ZS) : Nat → ZS
  | 0 => s
  | i + 1 => zCell1 pal b car y (12 - i) (11 - i) (13 - i) (zRowB pal b car y s i)
def zIniX (c : Nat → AF) (y : Nat) (v : Nat → AF) : Nat → Nat → AF
  | 0 => v
  | x + 1 => va_up (zIniX c y v x) y (upd (zIniX c y v x y) (x + 1) (c y x))
def zIni (c : Nat → AF) : Nat → Nat → AF
  | 0 => fun _ _ => 0
  | y + 1 => zIniX c y (zIni c y) 12
def zRows (c : Nat → AF) (pal : AF) (b : Nat) (car tur : Int32) : Nat → ZS
  | 0 => (fun _ _ => 0, zIni c 8)
  | y + 1 => if sBk tur y = 0 then zRowF pal b car y (zRows c pal b car tur y) 12 else zRowB pal b car y (zRows c pal b car tur y) 12
theorem zRows_f {c : Nat → AF} {pal : AF} {b : Nat} {car tur : Int32} {y : Nat} (h : sBk tur y = 0) : zRows c pal b car tur (y + 1) = zRowF pal b car y (zRows c pal b car tur y) 12 := by rw [zRows, if_pos h]
theorem zRows_b {c : Nat → AF} {pal : AF} {b : Nat} {car tur : Int32} {y : Nat} (h : ¬ sBk tur y = 0) : zRows c pal b car tur (y + 1) = zRowB pal b car y (zRows c pal b car tur y) 12 := by rw [zRows, if_neg h]
theorem zG1 {v : Nat → AF} {car er : Int32} {y x f g : Nat} (h : car = 1) : zGive v car er y x f g = zAdd v y f er := by rw [zGive, if_pos h]
theorem zG2 {v : Nat → AF} {car er : Int32} {y x f g : Nat} (h1 : ¬ car = 1) (h2 : car = 2) : zGive v car er y x f g = zAdd (zAdd (zAdd (zAdd v y f (er * 7 / 16)) (y + 1) g (er * 3 / 16)) (y + 1) x (er * 5 / 16)) (y + 1) f (er - er * 7 / 16 - er * 3 / 16 - er * 5 / 16) := by rw [zGive, if_neg h1, if_pos h2]
theorem zG0 {v : Nat → AF} {car er : Int32} {y x f g : Nat} (h1 : ¬ car = 1) (h2 : ¬ car = 2) : zGive v car er y x f g = v := by rw [zGive, if_neg h1, if_neg h2]
theorem nI_dn {b i : Nat} (h : i < b) : nI (b - i) - 1 = nI (b - i - 1) := pk_sub (b := 1) (by omega)
theorem sub_neg1 (x : Int32) : x - (-1) = x + 1 := by rw [Int32.sub_eq_add_neg]; rfl
theorem add_neg1 (x : Int32) : x + (-1) = x - 1 := by rw [Int32.sub_eq_add_neg]
set_option maxHeartbeats 4000000 in
set_option maxRecDepth 100000 in
theorem c_X5_cloth (E : gE) (y : Nat) (pa : Nat) (sa : Nat) (kp : Nat) (kk : Nat) (col : Int32) (car : Int32) (tur : Int32) (pre : Int32) (cl : Int32) (ko : Int32) (pp : Nat) (b : Nat) (r : Nat → Nat) (c : Nat → AF) (pal : AF) (hb0 : 0 < b) (hb : b ≤ 6) : CtP E yX5_cloth wsX5_cloth ({ frames := 1, cells := 115, slots := 527, locals := 21 }) [.ref y, .ref pp] ([(y, .inr (5, [.ref pa, .int col, .int car, .int tur, .int pre, .ref sa, .int cl, .ref kp, .ref kk, .int ko])), (pa, qE E 8 r), (pp, .inl (E.2.2, b, .inl pal))] ++ (gW E r (fun _ => 12) c 8 ++ [])) (fun o V => ∃ (q : Nat) (r4 : Nat → Nat), o = some (.ref q) ∧ V = ([(q, qE E 8 r4), (y, .inr (5, [.ref pa, .int col, .int car, .int tur, .int pre, .ref sa, .int cl, .ref kp, .ref kk, .int ko])), (pa, qE E 8 r), (pp, .inl (E.2.2, b, .inl pal))] ++ (gW E r4 (fun _ => 12) ((zRows c pal b car tur 8).1) 8 ++ (gW E r (fun _ => 12) c 8 ++ [])))) := by
  refine CtP.of (cc := cX5_cloth) (maxL := 10) (ret := (some (.array (.array .int)))) (own := RX5) (L := [(0, .ref y), (1, .ref pp)]) (by decide) rfl rfl (Nat.le_of_ble_eq_true rfl) rfl ?_
  intro X F hQ
  have i5 : ∀ w ∈ u_ws RX5 TX5 10, w ∈ wsX5_cloth := gsub [10, 11, 12, 13, 14, 15, 16, 17, 18, 19] rfl
  refine g_bipush (v := 8) F dX5_cloth_0 (by decide) ?_
  refine g_bipush (v := 12) F dX5_cloth_2 (by decide) ?_
  refine g_mnaS (N' := 8) (K' := 12) (S := [(y, .inr (5, [.ref pa, .int col, .int car, .int tur, .int pre, .ref sa, .int cl, .ref kp, .ref kk, .int ko])), (pa, qE E 8 r), (pp, .inl (E.2.2, b, .inl pal))]) (B := (gW E r (fun _ => 12) c 8 ++ [])) F dX5_cloth_4 (List.mem_of_getElem? (i := 1) rfl) (List.mem_of_getElem? (i := 2) rfl) (by decide) (by decide) rfl rfl (by decide) (by decide) (by show 0 + (1 + 8) ≤ 115; omega) (by show 0 + (8 + 8 * 12) ≤ 527; omega) (rfl) (fun q4 r4 => ?_)
  refine g_ws (ws' := ([(q4, qE E 8 r4), (y, .inr (5, [.ref pa, .int col, .int car, .int tur, .int pre, .ref sa, .int cl, .ref kp, .ref kk, .int ko])), (pa, qE E 8 r), (pp, .inl (E.2.2, b, .inl pal))] ++ (gW E r4 (fun _ => 12) (fun _ _ => 0) 8 ++ (gW E r (fun _ => 12) c 8 ++ [])))) rfl ?_
  refine g_astore_n (L' := [(0, .ref y), (1, .ref pp), (2, .ref q4)]) F dX5_cloth_8 rfl (by decide) [1, 2, 0] rfl ?_
  refine g_bipush (v := 9) F dX5_cloth_9 (by decide) ?_
  refine g_bipush (v := 14) F dX5_cloth_11 (by decide) ?_
  refine g_mnaS (N' := 9) (K' := 14) (S := [(q4, qE E 8 r4), (y, .inr (5, [.ref pa, .int col, .int car, .int tur, .int pre, .ref sa, .int cl, .ref kp, .ref kk, .int ko])), (pa, qE E 8 r), (pp, .inl (E.2.2, b, .inl pal))]) (B := (gW E r4 (fun _ => 12) (fun _ _ => 0) 8 ++ (gW E r (fun _ => 12) c 8 ++ []))) F dX5_cloth_13 (List.mem_of_getElem? (i := 1) rfl) (List.mem_of_getElem? (i := 2) rfl) (by decide) (by decide) rfl rfl (by decide) (by decide) (by show 0 + 1 + 8 + (1 + 9) ≤ 115; omega) (by show 0 + 8 + 8 * 12 + (9 + 9 * 14) ≤ 527; omega) (rfl) (fun q13 r13 => ?_)
  refine g_ws (ws' := ([(q13, qE E 9 r13), (q4, qE E 8 r4), (y, .inr (5, [.ref pa, .int col, .int car, .int tur, .int pre, .ref sa, .int cl, .ref kp, .ref kk, .int ko])), (pa, qE E 8 r), (pp, .inl (E.2.2, b, .inl pal))] ++ (gW E r13 (fun _ => 14) (fun _ _ => 0) 9 ++ (gW E r4 (fun _ => 12) (fun _ _ => 0) 8 ++ (gW E r (fun _ => 12) c 8 ++ []))))) rfl ?_
  refine g_astore_n (L' := [(0, .ref y), (1, .ref pp), (2, .ref q4), (3, .ref q13)]) F dX5_cloth_17 rfl (by decide) [1, 2, 3, 0] rfl ?_
  refine g_iconst (v := 0) F dX5_cloth_18 (by decide) ?_
  refine g_istore (L' := [(0, .ref y), (1, .ref pp), (2, .ref q4), (3, .ref q13), (4, .int 0)]) F dX5_cloth_19 (by decide) [1, 2, 3, 4, 0] rfl ?_
  have lp21 : ∀ (n21 i21 : Nat), i21 + n21 = 8 → G E X (0 + 1 + 8 + 1 + 9) (0 + 8 + 8 * 12 + 9 + 9 * 14) 21 [(0, .ref y), (1, .ref pp), (2, .ref q4), (3, .ref q13), (4, .int (nI i21))] [] ([(q13, qE E 9 r13), (q4, qE E 8 r4), (y, .inr (5, [.ref pa, .int col, .int car, .int tur, .int pre, .ref sa, .int cl, .ref kp, .ref kk, .int ko])), (pa, qE E 8 r), (pp, .inl (E.2.2, b, .inl pal))] ++ (gW E r13 (fun _ => 14) (zIni c i21) 9 ++ (gW E r4 (fun _ => 12) (fun _ _ => 0) 8 ++ (gW E r (fun _ => 12) c 8 ++ [])))) := by
    intro n21
    induction n21 with
    | zero =>
      intro i21 hi21
      have he21 : i21 = 8 := by omega
      rw [he21]
      refine g_iload F dX5_cloth_21 4 rfl ?_
      refine g_bipush (v := 8) F dX5_cloth_23 (by decide) ?_
      refine g_icmp_ge_t (tgt := 69) F dX5_cloth_25 (by decide) (by decide) ?_
      refine g_iconst (v := 0) F dX5_cloth_69 (by decide) ?_
      refine g_istore (L' := [(0, .ref y), (1, .ref pp), (2, .ref q4), (3, .ref q13), (4, .int 0)]) F dX5_cloth_70 (by decide) [1, 2, 3, 4, 0] rfl ?_
      have lp72 : ∀ (n72 i72 : Nat), i72 + n72 = 8 → G E X (0 + 1 + 8 + 1 + 9 + i72 * 12) (0 + 8 + 8 * 12 + 9 + 9 * 14 + i72 * 36) 72 [(0, .ref y), (1, .ref pp), (2, .ref q4), (3, .ref q13), (4, .int (nI i72))] [] ([(q13, qE E 9 r13), (q4, qE E 8 r4), (y, .inr (5, [.ref pa, .int col, .int car, .int tur, .int pre, .ref sa, .int cl, .ref kp, .ref kk, .int ko])), (pa, qE E 8 r), (pp, .inl (E.2.2, b, .inl pal))] ++ (gW E r13 (fun _ => 14) ((zRows c pal b car tur i72).2) 9 ++ (gW E r4 (fun _ => 12) ((zRows c pal b car tur i72).1) 8 ++ (gW E r (fun _ => 12) c 8 ++ [])))) := by
        intro n72
        induction n72 with
        | zero =>
          intro i72 hi72
          have he72 : i72 = 8 := by omega
          rw [he72]
          refine g_iload F dX5_cloth_72 4 rfl ?_
          refine g_bipush (v := 8) F dX5_cloth_74 (by decide) ?_
          refine g_icmp_ge_t (tgt := 378) F dX5_cloth_76 (by decide) (by decide) ?_
          refine g_aload_n F dX5_cloth_378 rfl 2 rfl ?_
          refine g_perm (ws' := ([(q4, qE E 8 r4), (y, .inr (5, [.ref pa, .int col, .int car, .int tur, .int pre, .ref sa, .int cl, .ref kp, .ref kk, .int ko])), (pa, qE E 8 r), (pp, .inl (E.2.2, b, .inl pal))] ++ (gW E r4 (fun _ => 12) ((zRows c pal b car tur 8).1) 8 ++ (gW E r (fun _ => 12) c 8 ++ []))) ++ ([(q13, qE E 9 r13)] ++ (gW E r13 (fun _ => 14) ((zRows c pal b car tur 8).2) 9 ++ []))) (ps4 (pmc (A := [_, _, _, _]) (pmc (A := []) (pmc (A := []) (pmc (A := []) (pmc (A := []) (List.Perm.nil)))))) (by simp only [List.append_assoc, List.nil_append, List.append_nil]; exact (psw _ _ _).trans (List.Perm.append_left _ (List.perm_append_comm)))) (g_drop ?_)
          refine g_cs (cells' := 115) (slots' := 527) (by show 0 + 1 + 8 + 1 + 9 + 8 * 12 ≤ 115; omega) (by show 0 + 8 + 8 * 12 + 9 + 9 * 14 + 8 * 36 ≤ 527; omega) ?_
          exact g_aretP F hQ dX5_cloth_379 (Or.inr ⟨_, rfl⟩) (⟨q4, r4, rfl, rfl⟩)
        | succ n72 ih72 =>
          intro i72 hi72
          have hl72 : i72 < 8 := by omega
          refine g_iload F dX5_cloth_72 4 rfl ?_
          refine g_bipush (v := 8) F dX5_cloth_74 (by decide) ?_
          refine g_icmp_ge_f (tgt := 378) F dX5_cloth_76 (by decide) (nle_nI (n := 8) hl72 (by omega)) ?_
          refine g_aload_n F dX5_cloth_79 rfl 0 rfl ?_
          refine g_get F dX5_cloth_80 2 rfl rfl i5 3 (by decide) rfl (List.mem_of_getElem? (i := 4) rfl) ?_
          refine g_if_eq (tgt := 98) F dX5_cloth_83 (by decide) (fun k83 => ?_) (fun k83 => ?_)
          · skip
            refine g_iconst (v := 1) F dX5_cloth_98 (by decide) ?_
            refine g_istore (L' := [(0, .ref y), (1, .ref pp), (2, .ref q4), (3, .ref q13), (4, .int (nI i72)), (5, .int 1)]) F dX5_cloth_99 (by decide) [1, 2, 3, 4, 5, 0] rfl ?_
            refine g_iload F dX5_cloth_101 5 rfl ?_
            refine g_if_le_f (tgt := 110) F dX5_cloth_103 (by decide) (by decide) ?_
            refine g_iconst (v := 1) F dX5_cloth_106 (by decide) ?_
            refine g_goto (tgt := 112) F dX5_cloth_107 (by decide) ?_
            refine g_istore (L' := [(0, .ref y), (1, .ref pp), (2, .ref q4), (3, .ref q13), (4, .int (nI i72)), (5, .int 1), (6, .int 1)]) F dX5_cloth_112 (by decide) [1, 2, 3, 4, 5, 6, 0] rfl ?_
            have lp114 : ∀ (n114 i114 : Nat), i114 + n114 = 12 → G E X (0 + 1 + 8 + 1 + 9 + i72 * 12 + i114) (0 + 8 + 8 * 12 + 9 + 9 * 14 + i72 * 36 + i114 * 3) 114 [(0, .ref y), (1, .ref pp), (2, .ref q4), (3, .ref q13), (4, .int (nI i72)), (5, .int 1), (6, .int (nI (i114 + 1)))] [] ([(q13, qE E 9 r13), (q4, qE E 8 r4), (y, .inr (5, [.ref pa, .int col, .int car, .int tur, .int pre, .ref sa, .int cl, .ref kp, .ref kk, .int ko])), (pa, qE E 8 r), (pp, .inl (E.2.2, b, .inl pal))] ++ (gW E r13 (fun _ => 14) ((zRowF pal b car i72 (zRows c pal b car tur i72) i114).2) 9 ++ (gW E r4 (fun _ => 12) ((zRowF pal b car i72 (zRows c pal b car tur i72) i114).1) 8 ++ (gW E r (fun _ => 12) c 8 ++ [])))) := by
              intro n114
              induction n114 with
              | zero =>
                intro i114 hi114
                have he114 : i114 = 12 := by omega
                rw [he114]
                refine g_iload F dX5_cloth_114 6 rfl ?_
                refine g_if_le_f (tgt := 372) F dX5_cloth_116 (by decide) (by decide) ?_
                refine g_iload F dX5_cloth_119 6 rfl ?_
                refine g_bipush (v := 13) F dX5_cloth_121 (by decide) ?_
                refine g_icmp_ge_t (tgt := 372) F dX5_cloth_123 (by decide) (by decide) ?_
                refine g_iinc (L' := [(0, .ref y), (1, .ref pp), (2, .ref q4), (3, .ref q13), (4, .int (nI (i72 + 1))), (5, .int 1), (6, .int (nI (12 + 1)))]) (v := nI (i72 + 1)) F dX5_cloth_372 4 rfl (nI_1 _) (by decide) [1, 2, 3, 4, 0, 5, 6] rfl ?_
                refine g_goto (tgt := 72) F dX5_cloth_375 (by decide) ?_
                refine g_lv (L' := [(0, .ref y), (1, .ref pp), (2, .ref q4), (3, .ref q13), (4, .int (nI (i72 + 1)))]) [0, 1, 2, 3, 4] rfl ?_
                refine g_cs (cells' := (0 + 1 + 8 + 1 + 9 + (i72 + 1) * 12)) (slots' := (0 + 8 + 8 * 12 + 9 + 9 * 14 + (i72 + 1) * 36)) (by show 0 + 1 + 8 + 1 + 9 + i72 * 12 + 12 ≤ 0 + 1 + 8 + 1 + 9 + (i72 + 1) * 12; omega) (by show 0 + 8 + 8 * 12 + 9 + 9 * 14 + i72 * 36 + 12 * 3 ≤ 0 + 8 + 8 * 12 + 9 + 9 * 14 + (i72 + 1) * 36; omega) ?_
                have q := ih72 (i72 + 1) (by omega)
                first
                  | rw [zRows_f (by unfold sBk; rw [if_pos k83])] at q
                  | rw [zRows_f (by unfold sBk; rw [if_neg k83, if_pos k91])] at q
                  | rw [zRows_b (by unfold sBk; rw [if_neg k83, if_neg k91]; decide)] at q
                exact q
              | succ n114 ih114 =>
                intro i114 hi114
                have hl114 : i114 < 12 := by omega
                refine g_iload F dX5_cloth_114 6 rfl ?_
                refine g_if_le_f (tgt := 372) F dX5_cloth_116 (by decide) (fun h => absurd ((nI_le0 (by omega)).mp h) (by omega)) ?_
                refine g_iload F dX5_cloth_119 6 rfl ?_
                refine g_bipush (v := 13) F dX5_cloth_121 (by decide) ?_
                refine g_icmp_ge_f (tgt := 372) F dX5_cloth_123 (by decide) (nle_nI (n := 13) (by omega) (by omega)) ?_
                refine g_iconst (v := 0) F dX5_cloth_126 (by decide) ?_
                refine g_istore (L' := [(0, .ref y), (1, .ref pp), (2, .ref q4), (3, .ref q13), (4, .int (nI i72)), (5, .int 1), (6, .int (nI (i114 + 1))), (7, .int 0)]) F dX5_cloth_127 (by decide) [1, 2, 3, 4, 5, 6, 7, 0] rfl ?_
                refine g_aload_n F dX5_cloth_129 rfl 1 rfl ?_
                refine g_alen (v := nI b) F dX5_cloth_130 4 rfl rfl ?_
                refine g_iconst (v := 1) F dX5_cloth_131 (by decide) ?_
                refine g_isub F dX5_cloth_132 ?_
                refine g_istore (L' := [(0, .ref y), (1, .ref pp), (2, .ref q4), (3, .ref q13), (4, .int (nI i72)), (5, .int 1), (6, .int (nI (i114 + 1))), (7, .int 0), (8, .int ((nI b) - 1))]) F dX5_cloth_133 (by decide) [1, 2, 3, 4, 5, 6, 7, 8, 0] rfl ?_
                have lp135 : ∀ (n135 i135 : Nat), i135 + n135 = b → G E X (0 + 1 + 8 + 1 + 9 + i72 * 12 + i114) (0 + 8 + 8 * 12 + 9 + 9 * 14 + i72 * 36 + i114 * 3) 135 [(0, .ref y), (1, .ref pp), (2, .ref q4), (3, .ref q13), (4, .int (nI i72)), (5, .int 1), (6, .int (nI (i114 + 1))), (7, .int (nI (zNear pal ((zRowF pal b car i72 (zRows c pal b car tur i72) i114).2 i72 (i114 + 1)) b i135))), (8, .int (nI (b - i135) - 1))] [] ([(q13, qE E 9 r13), (q4, qE E 8 r4), (y, .inr (5, [.ref pa, .int col, .int car, .int tur, .int pre, .ref sa, .int cl, .ref kp, .ref kk, .int ko])), (pa, qE E 8 r), (pp, .inl (E.2.2, b, .inl pal))] ++ (gW E r13 (fun _ => 14) ((zRowF pal b car i72 (zRows c pal b car tur i72) i114).2) 9 ++ (gW E r4 (fun _ => 12) ((zRowF pal b car i72 (zRows c pal b car tur i72) i114).1) 8 ++ (gW E r (fun _ => 12) c 8 ++ [])))) := by
                  intro n135
                  induction n135 with
                  | zero =>
                    intro i135 hi135
                    have he135 : i135 = b := by omega
                    rw [he135]
                    refine g_iload F dX5_cloth_135 8 rfl ?_
                    refine g_if_lt_t (tgt := 183) F dX5_cloth_137 (by decide) (by rw [Nat.sub_self]; decide) ?_
                    refine g_aload_n F dX5_cloth_183 rfl 2 rfl ?_
                    refine g_iload F dX5_cloth_184 4 rfl ?_
                    refine g_aald (k := i72) F dX5_cloth_186 1 rfl (by omega) (by first | decide | omega) rfl ?_
                    refine g_iload F dX5_cloth_187 6 rfl ?_
                    refine g_iconst (v := 1) F dX5_cloth_189 (by decide) ?_
                    refine g_isub F dX5_cloth_190 ?_
                    refine g_topr (y := nI (i114 + 1 - 1)) (pk_sub (b := 1) (by omega)) ?_
                    refine g_iload F dX5_cloth_191 7 rfl ?_
                    refine g_iastG1 (y := i72) (k := i114 + 1 - 1) F dX5_cloth_193 rfl (by omega) (by show _ < _; first | decide | omega) (by show _ < _; first | decide | omega) ?_
                    refine g_ws (ws' := ([(q13, qE E 9 r13), (q4, qE E 8 r4), (y, .inr (5, [.ref pa, .int col, .int car, .int tur, .int pre, .ref sa, .int cl, .ref kp, .ref kk, .int ko])), (pa, qE E 8 r), (pp, .inl (E.2.2, b, .inl pal))] ++ (gW E r13 (fun _ => 14) ((zRowF pal b car i72 (zRows c pal b car tur i72) i114).2) 9 ++ (gW E r4 (fun _ => 12) (va_up ((zRowF pal b car i72 (zRows c pal b car tur i72) i114).1) i72 (upd (((zRowF pal b car i72 (zRows c pal b car tur i72) i114).1) i72) (i114 + 1 - 1) (nI (zNear pal ((zRowF pal b car i72 (zRows c pal b car tur i72) i114).2 i72 (i114 + 1)) b b)))) 8 ++ (gW E r (fun _ => 12) c 8 ++ []))))) rfl ?_
                    refine g_aload_n F dX5_cloth_194 rfl 3 rfl ?_
                    refine g_iload F dX5_cloth_195 4 rfl ?_
                    refine g_aald (k := i72) F dX5_cloth_197 0 rfl (by omega) (by first | decide | omega) rfl ?_
                    refine g_iload F dX5_cloth_198 6 rfl ?_
                    refine g_ialdG0 (y := i72) (k := i114 + 1) F dX5_cloth_200 rfl (by omega) (by show _ < _; first | decide | omega) (by show _ < _; first | decide | omega) ?_
                    refine g_aload_n F dX5_cloth_201 rfl 1 rfl ?_
                    refine g_iload F dX5_cloth_202 7 rfl ?_
                    refine g_ialdN (k := zNear pal ((zRowF pal b car i72 (zRows c pal b car tur i72) i114).2 i72 (i114 + 1)) b b) F dX5_cloth_204 4 rfl (zNear_lt pal _ hb0 _) (by first | decide | omega) ?_
                    refine g_isub F dX5_cloth_205 ?_
                    refine g_istore (L' := [(0, .ref y), (1, .ref pp), (2, .ref q4), (3, .ref q13), (4, .int (nI i72)), (5, .int 1), (6, .int (nI (i114 + 1))), (7, .int (nI (zNear pal ((zRowF pal b car i72 (zRows c pal b car tur i72) i114).2 i72 (i114 + 1)) b b))), (8, .int ((((zRowF pal b car i72 (zRows c pal b car tur i72) i114).2) i72 (i114 + 1)) - (pal (zNear pal ((zRowF pal b car i72 (zRows c pal b car tur i72) i114).2 i72 (i114 + 1)) b b))))]) F dX5_cloth_206 (by decide) [1, 2, 3, 4, 5, 6, 7, 8, 0] rfl ?_
                    refine g_aload_n F dX5_cloth_208 rfl 0 rfl ?_
                    refine g_get F dX5_cloth_209 2 rfl rfl i5 2 (by decide) rfl (List.mem_of_getElem? (i := 9) rfl) ?_
                    refine g_iconst (v := 1) F dX5_cloth_212 (by decide) ?_
                    refine g_icmp_ne (tgt := 231) F dX5_cloth_213 (by decide) (fun k213 => ?_) (fun k213 => ?_)
                    · skip
                      refine g_aload_n F dX5_cloth_231 rfl 0 rfl ?_
                      refine g_get F dX5_cloth_232 2 rfl rfl i5 2 (by decide) rfl (List.mem_of_getElem? (i := 9) rfl) ?_
                      refine g_iconst (v := 2) F dX5_cloth_235 (by decide) ?_
                      refine g_icmp_eq (tgt := 242) F dX5_cloth_236 (by decide) (fun k236 => ?_) (fun k236 => ?_)
                      · skip
                        refine g_iconst (v := 3) F dX5_cloth_242 (by decide) ?_
                        refine g_newa (N' := 3) F dX5_cloth_243 (List.mem_of_getElem? (i := 2) rfl) (by decide) (rfl) (by omega) (by show 0 + 1 + 8 + 1 + 9 + i72 * 12 + i114 + 1 ≤ 115; omega) (by show 0 + 8 + 8 * 12 + 9 + 9 * 14 + i72 * 36 + i114 * 3 + 3 ≤ 527; omega) (fun q243 => g_front ?_)
                        refine g_ws (ws' := ([(q243, .inl (E.2.2, 3, .inl (fun _ => 0))), (q13, qE E 9 r13), (q4, qE E 8 r4), (y, .inr (5, [.ref pa, .int col, .int car, .int tur, .int pre, .ref sa, .int cl, .ref kp, .ref kk, .int ko])), (pa, qE E 8 r), (pp, .inl (E.2.2, b, .inl pal))] ++ (gW E r13 (fun _ => 14) ((zRowF pal b car i72 (zRows c pal b car tur i72) i114).2) 9 ++ (gW E r4 (fun _ => 12) (va_up ((zRowF pal b car i72 (zRows c pal b car tur i72) i114).1) i72 (upd (((zRowF pal b car i72 (zRows c pal b car tur i72) i114).1) i72) (i114 + 1 - 1) (nI (zNear pal ((zRowF pal b car i72 (zRows c pal b car tur i72) i114).2 i72 (i114 + 1)) b b)))) 8 ++ (gW E r (fun _ => 12) c 8 ++ []))))) rfl ?_
                        refine g_dup F dX5_cloth_245 rfl ?_
                        refine g_iconst (v := 0) F dX5_cloth_246 (by decide) ?_
                        refine g_iload F dX5_cloth_247 8 rfl ?_
                        refine g_bipush (v := 7) F dX5_cloth_249 (by decide) ?_
                        refine g_imul F dX5_cloth_251 ?_
                        refine g_bipush (v := 16) F dX5_cloth_252 (by decide) ?_
                        refine g_idiv F dX5_cloth_254 (by decide) ?_
                        refine g_iastN (k := 0) (ws' := ([(q243, .inl (E.2.2, 3, .inl (upd (fun _ => 0) 0 ((((((zRowF pal b car i72 (zRows c pal b car tur i72) i114).2) i72 (i114 + 1)) - (pal (zNear pal ((zRowF pal b car i72 (zRows c pal b car tur i72) i114).2 i72 (i114 + 1)) b b))) * 7) / 16)))), (q13, qE E 9 r13), (q4, qE E 8 r4), (y, .inr (5, [.ref pa, .int col, .int car, .int tur, .int pre, .ref sa, .int cl, .ref kp, .ref kk, .int ko])), (pa, qE E 8 r), (pp, .inl (E.2.2, b, .inl pal))] ++ (gW E r13 (fun _ => 14) ((zRowF pal b car i72 (zRows c pal b car tur i72) i114).2) 9 ++ (gW E r4 (fun _ => 12) (va_up ((zRowF pal b car i72 (zRows c pal b car tur i72) i114).1) i72 (upd (((zRowF pal b car i72 (zRows c pal b car tur i72) i114).1) i72) (i114 + 1 - 1) (nI (zNear pal ((zRowF pal b car i72 (zRows c pal b car tur i72) i114).2 i72 (i114 + 1)) b b)))) 8 ++ (gW E r (fun _ => 12) c 8 ++ []))))) F dX5_cloth_255 0 rfl (by omega) (by first | decide | omega) rfl ?_
                        refine g_dup F dX5_cloth_256 rfl ?_
                        refine g_iconst (v := 1) F dX5_cloth_257 (by decide) ?_
                        refine g_iload F dX5_cloth_258 8 rfl ?_
                        refine g_iconst (v := 3) F dX5_cloth_260 (by decide) ?_
                        refine g_imul F dX5_cloth_261 ?_
                        refine g_bipush (v := 16) F dX5_cloth_262 (by decide) ?_
                        refine g_idiv F dX5_cloth_264 (by decide) ?_
                        refine g_iastN (k := 1) (ws' := ([(q243, .inl (E.2.2, 3, .inl (upd (upd (fun _ => 0) 0 ((((((zRowF pal b car i72 (zRows c pal b car tur i72) i114).2) i72 (i114 + 1)) - (pal (zNear pal ((zRowF pal b car i72 (zRows c pal b car tur i72) i114).2 i72 (i114 + 1)) b b))) * 7) / 16)) 1 ((((((zRowF pal b car i72 (zRows c pal b car tur i72) i114).2) i72 (i114 + 1)) - (pal (zNear pal ((zRowF pal b car i72 (zRows c pal b car tur i72) i114).2 i72 (i114 + 1)) b b))) * 3) / 16)))), (q13, qE E 9 r13), (q4, qE E 8 r4), (y, .inr (5, [.ref pa, .int col, .int car, .int tur, .int pre, .ref sa, .int cl, .ref kp, .ref kk, .int ko])), (pa, qE E 8 r), (pp, .inl (E.2.2, b, .inl pal))] ++ (gW E r13 (fun _ => 14) ((zRowF pal b car i72 (zRows c pal b car tur i72) i114).2) 9 ++ (gW E r4 (fun _ => 12) (va_up ((zRowF pal b car i72 (zRows c pal b car tur i72) i114).1) i72 (upd (((zRowF pal b car i72 (zRows c pal b car tur i72) i114).1) i72) (i114 + 1 - 1) (nI (zNear pal ((zRowF pal b car i72 (zRows c pal b car tur i72) i114).2 i72 (i114 + 1)) b b)))) 8 ++ (gW E r (fun _ => 12) c 8 ++ []))))) F dX5_cloth_265 0 rfl (by omega) (by first | decide | omega) rfl ?_
                        refine g_dup F dX5_cloth_266 rfl ?_
                        refine g_iconst (v := 2) F dX5_cloth_267 (by decide) ?_
                        refine g_iload F dX5_cloth_268 8 rfl ?_
                        refine g_iconst (v := 5) F dX5_cloth_270 (by decide) ?_
                        refine g_imul F dX5_cloth_271 ?_
                        refine g_bipush (v := 16) F dX5_cloth_272 (by decide) ?_
                        refine g_idiv F dX5_cloth_274 (by decide) ?_
                        refine g_iastN (k := 2) (ws' := ([(q243, .inl (E.2.2, 3, .inl (upd (upd (upd (fun _ => 0) 0 ((((((zRowF pal b car i72 (zRows c pal b car tur i72) i114).2) i72 (i114 + 1)) - (pal (zNear pal ((zRowF pal b car i72 (zRows c pal b car tur i72) i114).2 i72 (i114 + 1)) b b))) * 7) / 16)) 1 ((((((zRowF pal b car i72 (zRows c pal b car tur i72) i114).2) i72 (i114 + 1)) - (pal (zNear pal ((zRowF pal b car i72 (zRows c pal b car tur i72) i114).2 i72 (i114 + 1)) b b))) * 3) / 16)) 2 ((((((zRowF pal b car i72 (zRows c pal b car tur i72) i114).2) i72 (i114 + 1)) - (pal (zNear pal ((zRowF pal b car i72 (zRows c pal b car tur i72) i114).2 i72 (i114 + 1)) b b))) * 5) / 16)))), (q13, qE E 9 r13), (q4, qE E 8 r4), (y, .inr (5, [.ref pa, .int col, .int car, .int tur, .int pre, .ref sa, .int cl, .ref kp, .ref kk, .int ko])), (pa, qE E 8 r), (pp, .inl (E.2.2, b, .inl pal))] ++ (gW E r13 (fun _ => 14) ((zRowF pal b car i72 (zRows c pal b car tur i72) i114).2) 9 ++ (gW E r4 (fun _ => 12) (va_up ((zRowF pal b car i72 (zRows c pal b car tur i72) i114).1) i72 (upd (((zRowF pal b car i72 (zRows c pal b car tur i72) i114).1) i72) (i114 + 1 - 1) (nI (zNear pal ((zRowF pal b car i72 (zRows c pal b car tur i72) i114).2 i72 (i114 + 1)) b b)))) 8 ++ (gW E r (fun _ => 12) c 8 ++ []))))) F dX5_cloth_275 0 rfl (by omega) (by first | decide | omega) rfl ?_
                        refine g_astore (L' := [(0, .ref y), (1, .ref pp), (2, .ref q4), (3, .ref q13), (4, .int (nI i72)), (5, .int 1), (6, .int (nI (i114 + 1))), (7, .int (nI (zNear pal ((zRowF pal b car i72 (zRows c pal b car tur i72) i114).2 i72 (i114 + 1)) b b))), (8, .int ((((zRowF pal b car i72 (zRows c pal b car tur i72) i114).2) i72 (i114 + 1)) - (pal (zNear pal ((zRowF pal b car i72 (zRows c pal b car tur i72) i114).2 i72 (i114 + 1)) b b)))), (9, .ref q243)]) F dX5_cloth_276 (by decide) [1, 2, 3, 4, 5, 6, 7, 8, 9, 0] rfl ?_
                        refine g_aload_n F dX5_cloth_278 rfl 3 rfl ?_
                        refine g_iload F dX5_cloth_279 4 rfl ?_
                        refine g_aald (k := i72) F dX5_cloth_281 1 rfl (by omega) (by first | decide | omega) rfl ?_
                        refine g_iload F dX5_cloth_282 6 rfl ?_
                        refine g_iload F dX5_cloth_284 5 rfl ?_
                        refine g_iadd F dX5_cloth_286 ?_
                        refine g_topr (y := nI (i114 + 1 + 1)) (nI_1 _) ?_
                        refine g_topr (y := nI (i114 + 2)) (rfl) ?_
                        refine g_dup2 F dX5_cloth_287 rfl rfl ?_
                        refine g_ialdG0 (y := i72) (k := i114 + 2) F dX5_cloth_288 rfl (by omega) (by show _ < _; first | decide | omega) (by show _ < _; first | decide | omega) ?_
                        refine g_aload F dX5_cloth_289 9 rfl ?_
                        refine g_iconst (v := 0) F dX5_cloth_291 (by decide) ?_
                        refine g_ialdN (k := 0) F dX5_cloth_292 0 rfl (by omega) (by first | decide | omega) ?_
                        refine g_iadd F dX5_cloth_293 ?_
                        refine g_iastG0 (y := i72) (k := i114 + 2) F dX5_cloth_294 rfl (by omega) (by show _ < _; first | decide | omega) (by show _ < _; first | decide | omega) ?_
                        refine g_ws (ws' := ([(q243, .inl (E.2.2, 3, .inl (upd (upd (upd (fun _ => 0) 0 ((((((zRowF pal b car i72 (zRows c pal b car tur i72) i114).2) i72 (i114 + 1)) - (pal (zNear pal ((zRowF pal b car i72 (zRows c pal b car tur i72) i114).2 i72 (i114 + 1)) b b))) * 7) / 16)) 1 ((((((zRowF pal b car i72 (zRows c pal b car tur i72) i114).2) i72 (i114 + 1)) - (pal (zNear pal ((zRowF pal b car i72 (zRows c pal b car tur i72) i114).2 i72 (i114 + 1)) b b))) * 3) / 16)) 2 ((((((zRowF pal b car i72 (zRows c pal b car tur i72) i114).2) i72 (i114 + 1)) - (pal (zNear pal ((zRowF pal b car i72 (zRows c pal b car tur i72) i114).2 i72 (i114 + 1)) b b))) * 5) / 16)))), (q13, qE E 9 r13), (q4, qE E 8 r4), (y, .inr (5, [.ref pa, .int col, .int car, .int tur, .int pre, .ref sa, .int cl, .ref kp, .ref kk, .int ko])), (pa, qE E 8 r), (pp, .inl (E.2.2, b, .inl pal))] ++ (gW E r13 (fun _ => 14) (zAdd ((zRowF pal b car i72 (zRows c pal b car tur i72) i114).2) i72 (i114 + 2) ((upd (upd (upd (fun _ => 0) 0 ((((((zRowF pal b car i72 (zRows c pal b car tur i72) i114).2) i72 (i114 + 1)) - (pal (zNear pal ((zRowF pal b car i72 (zRows c pal b car tur i72) i114).2 i72 (i114 + 1)) b b))) * 7) / 16)) 1 ((((((zRowF pal b car i72 (zRows c pal b car tur i72) i114).2) i72 (i114 + 1)) - (pal (zNear pal ((zRowF pal b car i72 (zRows c pal b car tur i72) i114).2 i72 (i114 + 1)) b b))) * 3) / 16)) 2 ((((((zRowF pal b car i72 (zRows c pal b car tur i72) i114).2) i72 (i114 + 1)) - (pal (zNear pal ((zRowF pal b car i72 (zRows c pal b car tur i72) i114).2 i72 (i114 + 1)) b b))) * 5) / 16)) 0)) 9 ++ (gW E r4 (fun _ => 12) (va_up ((zRowF pal b car i72 (zRows c pal b car tur i72) i114).1) i72 (upd (((zRowF pal b car i72 (zRows c pal b car tur i72) i114).1) i72) (i114 + 1 - 1) (nI (zNear pal ((zRowF pal b car i72 (zRows c pal b car tur i72) i114).2 i72 (i114 + 1)) b b)))) 8 ++ (gW E r (fun _ => 12) c 8 ++ []))))) rfl ?_
                        refine g_aload_n F dX5_cloth_295 rfl 3 rfl ?_
                        refine g_iload F dX5_cloth_296 4 rfl ?_
                        refine g_iconst (v := 1) F dX5_cloth_298 (by decide) ?_
                        refine g_iadd F dX5_cloth_299 ?_
                        refine g_topr (y := nI (i72 + 1)) (nI_1 _) ?_
                        refine g_aald (k := i72 + 1) F dX5_cloth_300 1 rfl (by omega) (by first | decide | omega) rfl ?_
                        refine g_iload F dX5_cloth_301 6 rfl ?_
                        refine g_iload F dX5_cloth_303 5 rfl ?_
                        refine g_isub F dX5_cloth_305 ?_
                        refine g_topr (y := nI i114) (nI_pred _) ?_
                        refine g_dup2 F dX5_cloth_306 rfl rfl ?_
                        refine g_ialdG0 (y := i72 + 1) (k := i114) F dX5_cloth_307 rfl (by omega) (by show _ < _; first | decide | omega) (by show _ < _; first | decide | omega) ?_
                        refine g_aload F dX5_cloth_308 9 rfl ?_
                        refine g_iconst (v := 1) F dX5_cloth_310 (by decide) ?_
                        refine g_ialdN (k := 1) F dX5_cloth_311 0 rfl (by omega) (by first | decide | omega) ?_
                        refine g_iadd F dX5_cloth_312 ?_
                        refine g_iastG0 (y := i72 + 1) (k := i114) F dX5_cloth_313 rfl (by omega) (by show _ < _; first | decide | omega) (by show _ < _; first | decide | omega) ?_
                        refine g_ws (ws' := ([(q243, .inl (E.2.2, 3, .inl (upd (upd (upd (fun _ => 0) 0 ((((((zRowF pal b car i72 (zRows c pal b car tur i72) i114).2) i72 (i114 + 1)) - (pal (zNear pal ((zRowF pal b car i72 (zRows c pal b car tur i72) i114).2 i72 (i114 + 1)) b b))) * 7) / 16)) 1 ((((((zRowF pal b car i72 (zRows c pal b car tur i72) i114).2) i72 (i114 + 1)) - (pal (zNear pal ((zRowF pal b car i72 (zRows c pal b car tur i72) i114).2 i72 (i114 + 1)) b b))) * 3) / 16)) 2 ((((((zRowF pal b car i72 (zRows c pal b car tur i72) i114).2) i72 (i114 + 1)) - (pal (zNear pal ((zRowF pal b car i72 (zRows c pal b car tur i72) i114).2 i72 (i114 + 1)) b b))) * 5) / 16)))), (q13, qE E 9 r13), (q4, qE E 8 r4), (y, .inr (5, [.ref pa, .int col, .int car, .int tur, .int pre, .ref sa, .int cl, .ref kp, .ref kk, .int ko])), (pa, qE E 8 r), (pp, .inl (E.2.2, b, .inl pal))] ++ (gW E r13 (fun _ => 14) (zAdd (zAdd ((zRowF pal b car i72 (zRows c pal b car tur i72) i114).2) i72 (i114 + 2) ((upd (upd (upd (fun _ => 0) 0 ((((((zRowF pal b car i72 (zRows c pal b car tur i72) i114).2) i72 (i114 + 1)) - (pal (zNear pal ((zRowF pal b car i72 (zRows c pal b car tur i72) i114).2 i72 (i114 + 1)) b b))) * 7) / 16)) 1 ((((((zRowF pal b car i72 (zRows c pal b car tur i72) i114).2) i72 (i114 + 1)) - (pal (zNear pal ((zRowF pal b car i72 (zRows c pal b car tur i72) i114).2 i72 (i114 + 1)) b b))) * 3) / 16)) 2 ((((((zRowF pal b car i72 (zRows c pal b car tur i72) i114).2) i72 (i114 + 1)) - (pal (zNear pal ((zRowF pal b car i72 (zRows c pal b car tur i72) i114).2 i72 (i114 + 1)) b b))) * 5) / 16)) 0)) (i72 + 1) i114 ((upd (upd (upd (fun _ => 0) 0 ((((((zRowF pal b car i72 (zRows c pal b car tur i72) i114).2) i72 (i114 + 1)) - (pal (zNear pal ((zRowF pal b car i72 (zRows c pal b car tur i72) i114).2 i72 (i114 + 1)) b b))) * 7) / 16)) 1 ((((((zRowF pal b car i72 (zRows c pal b car tur i72) i114).2) i72 (i114 + 1)) - (pal (zNear pal ((zRowF pal b car i72 (zRows c pal b car tur i72) i114).2 i72 (i114 + 1)) b b))) * 3) / 16)) 2 ((((((zRowF pal b car i72 (zRows c pal b car tur i72) i114).2) i72 (i114 + 1)) - (pal (zNear pal ((zRowF pal b car i72 (zRows c pal b car tur i72) i114).2 i72 (i114 + 1)) b b))) * 5) / 16)) 1)) 9 ++ (gW E r4 (fun _ => 12) (va_up ((zRowF pal b car i72 (zRows c pal b car tur i72) i114).1) i72 (upd (((zRowF pal b car i72 (zRows c pal b car tur i72) i114).1) i72) (i114 + 1 - 1) (nI (zNear pal ((zRowF pal b car i72 (zRows c pal b car tur i72) i114).2 i72 (i114 + 1)) b b)))) 8 ++ (gW E r (fun _ => 12) c 8 ++ []))))) rfl ?_
                        refine g_aload_n F dX5_cloth_314 rfl 3 rfl ?_
                        refine g_iload F dX5_cloth_315 4 rfl ?_
                        refine g_iconst (v := 1) F dX5_cloth_317 (by decide) ?_
                        refine g_iadd F dX5_cloth_318 ?_
                        refine g_topr (y := nI (i72 + 1)) (nI_1 _) ?_
                        refine g_aald (k := i72 + 1) F dX5_cloth_319 1 rfl (by omega) (by first | decide | omega) rfl ?_
                        refine g_iload F dX5_cloth_320 6 rfl ?_
                        refine g_dup2 F dX5_cloth_322 rfl rfl ?_
                        refine g_ialdG0 (y := i72 + 1) (k := i114 + 1) F dX5_cloth_323 rfl (by omega) (by show _ < _; first | decide | omega) (by show _ < _; first | decide | omega) ?_
                        refine g_aload F dX5_cloth_324 9 rfl ?_
                        refine g_iconst (v := 2) F dX5_cloth_326 (by decide) ?_
                        refine g_ialdN (k := 2) F dX5_cloth_327 0 rfl (by omega) (by first | decide | omega) ?_
                        refine g_iadd F dX5_cloth_328 ?_
                        refine g_iastG0 (y := i72 + 1) (k := i114 + 1) F dX5_cloth_329 rfl (by omega) (by show _ < _; first | decide | omega) (by show _ < _; first | decide | omega) ?_
                        refine g_ws (ws' := ([(q243, .inl (E.2.2, 3, .inl (upd (upd (upd (fun _ => 0) 0 ((((((zRowF pal b car i72 (zRows c pal b car tur i72) i114).2) i72 (i114 + 1)) - (pal (zNear pal ((zRowF pal b car i72 (zRows c pal b car tur i72) i114).2 i72 (i114 + 1)) b b))) * 7) / 16)) 1 ((((((zRowF pal b car i72 (zRows c pal b car tur i72) i114).2) i72 (i114 + 1)) - (pal (zNear pal ((zRowF pal b car i72 (zRows c pal b car tur i72) i114).2 i72 (i114 + 1)) b b))) * 3) / 16)) 2 ((((((zRowF pal b car i72 (zRows c pal b car tur i72) i114).2) i72 (i114 + 1)) - (pal (zNear pal ((zRowF pal b car i72 (zRows c pal b car tur i72) i114).2 i72 (i114 + 1)) b b))) * 5) / 16)))), (q13, qE E 9 r13), (q4, qE E 8 r4), (y, .inr (5, [.ref pa, .int col, .int car, .int tur, .int pre, .ref sa, .int cl, .ref kp, .ref kk, .int ko])), (pa, qE E 8 r), (pp, .inl (E.2.2, b, .inl pal))] ++ (gW E r13 (fun _ => 14) (zAdd (zAdd (zAdd ((zRowF pal b car i72 (zRows c pal b car tur i72) i114).2) i72 (i114 + 2) ((upd (upd (upd (fun _ => 0) 0 ((((((zRowF pal b car i72 (zRows c pal b car tur i72) i114).2) i72 (i114 + 1)) - (pal (zNear pal ((zRowF pal b car i72 (zRows c pal b car tur i72) i114).2 i72 (i114 + 1)) b b))) * 7) / 16)) 1 ((((((zRowF pal b car i72 (zRows c pal b car tur i72) i114).2) i72 (i114 + 1)) - (pal (zNear pal ((zRowF pal b car i72 (zRows c pal b car tur i72) i114).2 i72 (i114 + 1)) b b))) * 3) / 16)) 2 ((((((zRowF pal b car i72 (zRows c pal b car tur i72) i114).2) i72 (i114 + 1)) - (pal (zNear pal ((zRowF pal b car i72 (zRows c pal b car tur i72) i114).2 i72 (i114 + 1)) b b))) * 5) / 16)) 0)) (i72 + 1) i114 ((upd (upd (upd (fun _ => 0) 0 ((((((zRowF pal b car i72 (zRows c pal b car tur i72) i114).2) i72 (i114 + 1)) - (pal (zNear pal ((zRowF pal b car i72 (zRows c pal b car tur i72) i114).2 i72 (i114 + 1)) b b))) * 7) / 16)) 1 ((((((zRowF pal b car i72 (zRows c pal b car tur i72) i114).2) i72 (i114 + 1)) - (pal (zNear pal ((zRowF pal b car i72 (zRows c pal b car tur i72) i114).2 i72 (i114 + 1)) b b))) * 3) / 16)) 2 ((((((zRowF pal b car i72 (zRows c pal b car tur i72) i114).2) i72 (i114 + 1)) - (pal (zNear pal ((zRowF pal b car i72 (zRows c pal b car tur i72) i114).2 i72 (i114 + 1)) b b))) * 5) / 16)) 1)) (i72 + 1) (i114 + 1) ((upd (upd (upd (fun _ => 0) 0 ((((((zRowF pal b car i72 (zRows c pal b car tur i72) i114).2) i72 (i114 + 1)) - (pal (zNear pal ((zRowF pal b car i72 (zRows c pal b car tur i72) i114).2 i72 (i114 + 1)) b b))) * 7) / 16)) 1 ((((((zRowF pal b car i72 (zRows c pal b car tur i72) i114).2) i72 (i114 + 1)) - (pal (zNear pal ((zRowF pal b car i72 (zRows c pal b car tur i72) i114).2 i72 (i114 + 1)) b b))) * 3) / 16)) 2 ((((((zRowF pal b car i72 (zRows c pal b car tur i72) i114).2) i72 (i114 + 1)) - (pal (zNear pal ((zRowF pal b car i72 (zRows c pal b car tur i72) i114).2 i72 (i114 + 1)) b b))) * 5) / 16)) 2)) 9 ++ (gW E r4 (fun _ => 12) (va_up ((zRowF pal b car i72 (zRows c pal b car tur i72) i114).1) i72 (upd (((zRowF pal b car i72 (zRows c pal b car tur i72) i114).1) i72) (i114 + 1 - 1) (nI (zNear pal ((zRowF pal b car i72 (zRows c pal b car tur i72) i114).2 i72 (i114 + 1)) b b)))) 8 ++ (gW E r (fun _ => 12) c 8 ++ []))))) rfl ?_
                        refine g_aload_n F dX5_cloth_330 rfl 3 rfl ?_
                        refine g_iload F dX5_cloth_331 4 rfl ?_
                        refine g_iconst (v := 1) F dX5_cloth_333 (by decide) ?_
                        refine g_iadd F dX5_cloth_334 ?_
                        refine g_topr (y := nI (i72 + 1)) (nI_1 _) ?_
                        refine g_aald (k := i72 + 1) F dX5_cloth_335 1 rfl (by omega) (by first | decide | omega) rfl ?_
                        refine g_iload F dX5_cloth_336 6 rfl ?_
                        refine g_iload F dX5_cloth_338 5 rfl ?_
                        refine g_iadd F dX5_cloth_340 ?_
                        refine g_topr (y := nI (i114 + 1 + 1)) (nI_1 _) ?_
                        refine g_topr (y := nI (i114 + 2)) (rfl) ?_
                        refine g_dup2 F dX5_cloth_341 rfl rfl ?_
                        refine g_ialdG0 (y := i72 + 1) (k := i114 + 2) F dX5_cloth_342 rfl (by omega) (by show _ < _; first | decide | omega) (by show _ < _; first | decide | omega) ?_
                        refine g_iload F dX5_cloth_343 8 rfl ?_
                        refine g_aload F dX5_cloth_345 9 rfl ?_
                        refine g_iconst (v := 0) F dX5_cloth_347 (by decide) ?_
                        refine g_ialdN (k := 0) F dX5_cloth_348 0 rfl (by omega) (by first | decide | omega) ?_
                        refine g_isub F dX5_cloth_349 ?_
                        refine g_aload F dX5_cloth_350 9 rfl ?_
                        refine g_iconst (v := 1) F dX5_cloth_352 (by decide) ?_
                        refine g_ialdN (k := 1) F dX5_cloth_353 0 rfl (by omega) (by first | decide | omega) ?_
                        refine g_isub F dX5_cloth_354 ?_
                        refine g_aload F dX5_cloth_355 9 rfl ?_
                        refine g_iconst (v := 2) F dX5_cloth_357 (by decide) ?_
                        refine g_ialdN (k := 2) F dX5_cloth_358 0 rfl (by omega) (by first | decide | omega) ?_
                        refine g_isub F dX5_cloth_359 ?_
                        refine g_iadd F dX5_cloth_360 ?_
                        refine g_iastG0 (y := i72 + 1) (k := i114 + 2) F dX5_cloth_361 rfl (by omega) (by show _ < _; first | decide | omega) (by show _ < _; first | decide | omega) ?_
                        refine g_ws (ws' := ([(q243, .inl (E.2.2, 3, .inl (upd (upd (upd (fun _ => 0) 0 ((((((zRowF pal b car i72 (zRows c pal b car tur i72) i114).2) i72 (i114 + 1)) - (pal (zNear pal ((zRowF pal b car i72 (zRows c pal b car tur i72) i114).2 i72 (i114 + 1)) b b))) * 7) / 16)) 1 ((((((zRowF pal b car i72 (zRows c pal b car tur i72) i114).2) i72 (i114 + 1)) - (pal (zNear pal ((zRowF pal b car i72 (zRows c pal b car tur i72) i114).2 i72 (i114 + 1)) b b))) * 3) / 16)) 2 ((((((zRowF pal b car i72 (zRows c pal b car tur i72) i114).2) i72 (i114 + 1)) - (pal (zNear pal ((zRowF pal b car i72 (zRows c pal b car tur i72) i114).2 i72 (i114 + 1)) b b))) * 5) / 16)))), (q13, qE E 9 r13), (q4, qE E 8 r4), (y, .inr (5, [.ref pa, .int col, .int car, .int tur, .int pre, .ref sa, .int cl, .ref kp, .ref kk, .int ko])), (pa, qE E 8 r), (pp, .inl (E.2.2, b, .inl pal))] ++ (gW E r13 (fun _ => 14) (zAdd (zAdd (zAdd (zAdd ((zRowF pal b car i72 (zRows c pal b car tur i72) i114).2) i72 (i114 + 2) ((upd (upd (upd (fun _ => 0) 0 ((((((zRowF pal b car i72 (zRows c pal b car tur i72) i114).2) i72 (i114 + 1)) - (pal (zNear pal ((zRowF pal b car i72 (zRows c pal b car tur i72) i114).2 i72 (i114 + 1)) b b))) * 7) / 16)) 1 ((((((zRowF pal b car i72 (zRows c pal b car tur i72) i114).2) i72 (i114 + 1)) - (pal (zNear pal ((zRowF pal b car i72 (zRows c pal b car tur i72) i114).2 i72 (i114 + 1)) b b))) * 3) / 16)) 2 ((((((zRowF pal b car i72 (zRows c pal b car tur i72) i114).2) i72 (i114 + 1)) - (pal (zNear pal ((zRowF pal b car i72 (zRows c pal b car tur i72) i114).2 i72 (i114 + 1)) b b))) * 5) / 16)) 0)) (i72 + 1) i114 ((upd (upd (upd (fun _ => 0) 0 ((((((zRowF pal b car i72 (zRows c pal b car tur i72) i114).2) i72 (i114 + 1)) - (pal (zNear pal ((zRowF pal b car i72 (zRows c pal b car tur i72) i114).2 i72 (i114 + 1)) b b))) * 7) / 16)) 1 ((((((zRowF pal b car i72 (zRows c pal b car tur i72) i114).2) i72 (i114 + 1)) - (pal (zNear pal ((zRowF pal b car i72 (zRows c pal b car tur i72) i114).2 i72 (i114 + 1)) b b))) * 3) / 16)) 2 ((((((zRowF pal b car i72 (zRows c pal b car tur i72) i114).2) i72 (i114 + 1)) - (pal (zNear pal ((zRowF pal b car i72 (zRows c pal b car tur i72) i114).2 i72 (i114 + 1)) b b))) * 5) / 16)) 1)) (i72 + 1) (i114 + 1) ((upd (upd (upd (fun _ => 0) 0 ((((((zRowF pal b car i72 (zRows c pal b car tur i72) i114).2) i72 (i114 + 1)) - (pal (zNear pal ((zRowF pal b car i72 (zRows c pal b car tur i72) i114).2 i72 (i114 + 1)) b b))) * 7) / 16)) 1 ((((((zRowF pal b car i72 (zRows c pal b car tur i72) i114).2) i72 (i114 + 1)) - (pal (zNear pal ((zRowF pal b car i72 (zRows c pal b car tur i72) i114).2 i72 (i114 + 1)) b b))) * 3) / 16)) 2 ((((((zRowF pal b car i72 (zRows c pal b car tur i72) i114).2) i72 (i114 + 1)) - (pal (zNear pal ((zRowF pal b car i72 (zRows c pal b car tur i72) i114).2 i72 (i114 + 1)) b b))) * 5) / 16)) 2)) (i72 + 1) (i114 + 2) (((((((zRowF pal b car i72 (zRows c pal b car tur i72) i114).2) i72 (i114 + 1)) - (pal (zNear pal ((zRowF pal b car i72 (zRows c pal b car tur i72) i114).2 i72 (i114 + 1)) b b))) - ((upd (upd (upd (fun _ => 0) 0 ((((((zRowF pal b car i72 (zRows c pal b car tur i72) i114).2) i72 (i114 + 1)) - (pal (zNear pal ((zRowF pal b car i72 (zRows c pal b car tur i72) i114).2 i72 (i114 + 1)) b b))) * 7) / 16)) 1 ((((((zRowF pal b car i72 (zRows c pal b car tur i72) i114).2) i72 (i114 + 1)) - (pal (zNear pal ((zRowF pal b car i72 (zRows c pal b car tur i72) i114).2 i72 (i114 + 1)) b b))) * 3) / 16)) 2 ((((((zRowF pal b car i72 (zRows c pal b car tur i72) i114).2) i72 (i114 + 1)) - (pal (zNear pal ((zRowF pal b car i72 (zRows c pal b car tur i72) i114).2 i72 (i114 + 1)) b b))) * 5) / 16)) 0)) - ((upd (upd (upd (fun _ => 0) 0 ((((((zRowF pal b car i72 (zRows c pal b car tur i72) i114).2) i72 (i114 + 1)) - (pal (zNear pal ((zRowF pal b car i72 (zRows c pal b car tur i72) i114).2 i72 (i114 + 1)) b b))) * 7) / 16)) 1 ((((((zRowF pal b car i72 (zRows c pal b car tur i72) i114).2) i72 (i114 + 1)) - (pal (zNear pal ((zRowF pal b car i72 (zRows c pal b car tur i72) i114).2 i72 (i114 + 1)) b b))) * 3) / 16)) 2 ((((((zRowF pal b car i72 (zRows c pal b car tur i72) i114).2) i72 (i114 + 1)) - (pal (zNear pal ((zRowF pal b car i72 (zRows c pal b car tur i72) i114).2 i72 (i114 + 1)) b b))) * 5) / 16)) 1)) - ((upd (upd (upd (fun _ => 0) 0 ((((((zRowF pal b car i72 (zRows c pal b car tur i72) i114).2) i72 (i114 + 1)) - (pal (zNear pal ((zRowF pal b car i72 (zRows c pal b car tur i72) i114).2 i72 (i114 + 1)) b b))) * 7) / 16)) 1 ((((((zRowF pal b car i72 (zRows c pal b car tur i72) i114).2) i72 (i114 + 1)) - (pal (zNear pal ((zRowF pal b car i72 (zRows c pal b car tur i72) i114).2 i72 (i114 + 1)) b b))) * 3) / 16)) 2 ((((((zRowF pal b car i72 (zRows c pal b car tur i72) i114).2) i72 (i114 + 1)) - (pal (zNear pal ((zRowF pal b car i72 (zRows c pal b car tur i72) i114).2 i72 (i114 + 1)) b b))) * 5) / 16)) 2))) 9 ++ (gW E r4 (fun _ => 12) (va_up ((zRowF pal b car i72 (zRows c pal b car tur i72) i114).1) i72 (upd (((zRowF pal b car i72 (zRows c pal b car tur i72) i114).1) i72) (i114 + 1 - 1) (nI (zNear pal ((zRowF pal b car i72 (zRows c pal b car tur i72) i114).2 i72 (i114 + 1)) b b)))) 8 ++ (gW E r (fun _ => 12) c 8 ++ []))))) rfl ?_
                        refine g_perm (ws' := ([(q13, qE E 9 r13), (q4, qE E 8 r4), (y, .inr (5, [.ref pa, .int col, .int car, .int tur, .int pre, .ref sa, .int cl, .ref kp, .ref kk, .int ko])), (pa, qE E 8 r), (pp, .inl (E.2.2, b, .inl pal))] ++ (gW E r13 (fun _ => 14) (zAdd (zAdd (zAdd (zAdd ((zRowF pal b car i72 (zRows c pal b car tur i72) i114).2) i72 (i114 + 2) ((upd (upd (upd (fun _ => 0) 0 ((((((zRowF pal b car i72 (zRows c pal b car tur i72) i114).2) i72 (i114 + 1)) - (pal (zNear pal ((zRowF pal b car i72 (zRows c pal b car tur i72) i114).2 i72 (i114 + 1)) b b))) * 7) / 16)) 1 ((((((zRowF pal b car i72 (zRows c pal b car tur i72) i114).2) i72 (i114 + 1)) - (pal (zNear pal ((zRowF pal b car i72 (zRows c pal b car tur i72) i114).2 i72 (i114 + 1)) b b))) * 3) / 16)) 2 ((((((zRowF pal b car i72 (zRows c pal b car tur i72) i114).2) i72 (i114 + 1)) - (pal (zNear pal ((zRowF pal b car i72 (zRows c pal b car tur i72) i114).2 i72 (i114 + 1)) b b))) * 5) / 16)) 0)) (i72 + 1) i114 ((upd (upd (upd (fun _ => 0) 0 ((((((zRowF pal b car i72 (zRows c pal b car tur i72) i114).2) i72 (i114 + 1)) - (pal (zNear pal ((zRowF pal b car i72 (zRows c pal b car tur i72) i114).2 i72 (i114 + 1)) b b))) * 7) / 16)) 1 ((((((zRowF pal b car i72 (zRows c pal b car tur i72) i114).2) i72 (i114 + 1)) - (pal (zNear pal ((zRowF pal b car i72 (zRows c pal b car tur i72) i114).2 i72 (i114 + 1)) b b))) * 3) / 16)) 2 ((((((zRowF pal b car i72 (zRows c pal b car tur i72) i114).2) i72 (i114 + 1)) - (pal (zNear pal ((zRowF pal b car i72 (zRows c pal b car tur i72) i114).2 i72 (i114 + 1)) b b))) * 5) / 16)) 1)) (i72 + 1) (i114 + 1) ((upd (upd (upd (fun _ => 0) 0 ((((((zRowF pal b car i72 (zRows c pal b car tur i72) i114).2) i72 (i114 + 1)) - (pal (zNear pal ((zRowF pal b car i72 (zRows c pal b car tur i72) i114).2 i72 (i114 + 1)) b b))) * 7) / 16)) 1 ((((((zRowF pal b car i72 (zRows c pal b car tur i72) i114).2) i72 (i114 + 1)) - (pal (zNear pal ((zRowF pal b car i72 (zRows c pal b car tur i72) i114).2 i72 (i114 + 1)) b b))) * 3) / 16)) 2 ((((((zRowF pal b car i72 (zRows c pal b car tur i72) i114).2) i72 (i114 + 1)) - (pal (zNear pal ((zRowF pal b car i72 (zRows c pal b car tur i72) i114).2 i72 (i114 + 1)) b b))) * 5) / 16)) 2)) (i72 + 1) (i114 + 2) (((((((zRowF pal b car i72 (zRows c pal b car tur i72) i114).2) i72 (i114 + 1)) - (pal (zNear pal ((zRowF pal b car i72 (zRows c pal b car tur i72) i114).2 i72 (i114 + 1)) b b))) - ((upd (upd (upd (fun _ => 0) 0 ((((((zRowF pal b car i72 (zRows c pal b car tur i72) i114).2) i72 (i114 + 1)) - (pal (zNear pal ((zRowF pal b car i72 (zRows c pal b car tur i72) i114).2 i72 (i114 + 1)) b b))) * 7) / 16)) 1 ((((((zRowF pal b car i72 (zRows c pal b car tur i72) i114).2) i72 (i114 + 1)) - (pal (zNear pal ((zRowF pal b car i72 (zRows c pal b car tur i72) i114).2 i72 (i114 + 1)) b b))) * 3) / 16)) 2 ((((((zRowF pal b car i72 (zRows c pal b car tur i72) i114).2) i72 (i114 + 1)) - (pal (zNear pal ((zRowF pal b car i72 (zRows c pal b car tur i72) i114).2 i72 (i114 + 1)) b b))) * 5) / 16)) 0)) - ((upd (upd (upd (fun _ => 0) 0 ((((((zRowF pal b car i72 (zRows c pal b car tur i72) i114).2) i72 (i114 + 1)) - (pal (zNear pal ((zRowF pal b car i72 (zRows c pal b car tur i72) i114).2 i72 (i114 + 1)) b b))) * 7) / 16)) 1 ((((((zRowF pal b car i72 (zRows c pal b car tur i72) i114).2) i72 (i114 + 1)) - (pal (zNear pal ((zRowF pal b car i72 (zRows c pal b car tur i72) i114).2 i72 (i114 + 1)) b b))) * 3) / 16)) 2 ((((((zRowF pal b car i72 (zRows c pal b car tur i72) i114).2) i72 (i114 + 1)) - (pal (zNear pal ((zRowF pal b car i72 (zRows c pal b car tur i72) i114).2 i72 (i114 + 1)) b b))) * 5) / 16)) 1)) - ((upd (upd (upd (fun _ => 0) 0 ((((((zRowF pal b car i72 (zRows c pal b car tur i72) i114).2) i72 (i114 + 1)) - (pal (zNear pal ((zRowF pal b car i72 (zRows c pal b car tur i72) i114).2 i72 (i114 + 1)) b b))) * 7) / 16)) 1 ((((((zRowF pal b car i72 (zRows c pal b car tur i72) i114).2) i72 (i114 + 1)) - (pal (zNear pal ((zRowF pal b car i72 (zRows c pal b car tur i72) i114).2 i72 (i114 + 1)) b b))) * 3) / 16)) 2 ((((((zRowF pal b car i72 (zRows c pal b car tur i72) i114).2) i72 (i114 + 1)) - (pal (zNear pal ((zRowF pal b car i72 (zRows c pal b car tur i72) i114).2 i72 (i114 + 1)) b b))) * 5) / 16)) 2))) 9 ++ (gW E r4 (fun _ => 12) (va_up ((zRowF pal b car i72 (zRows c pal b car tur i72) i114).1) i72 (upd (((zRowF pal b car i72 (zRows c pal b car tur i72) i114).1) i72) (i114 + 1 - 1) (nI (zNear pal ((zRowF pal b car i72 (zRows c pal b car tur i72) i114).2 i72 (i114 + 1)) b b)))) 8 ++ (gW E r (fun _ => 12) c 8 ++ [])))) ++ ([(q243, .inl (E.2.2, 3, .inl (upd (upd (upd (fun _ => 0) 0 ((((((zRowF pal b car i72 (zRows c pal b car tur i72) i114).2) i72 (i114 + 1)) - (pal (zNear pal ((zRowF pal b car i72 (zRows c pal b car tur i72) i114).2 i72 (i114 + 1)) b b))) * 7) / 16)) 1 ((((((zRowF pal b car i72 (zRows c pal b car tur i72) i114).2) i72 (i114 + 1)) - (pal (zNear pal ((zRowF pal b car i72 (zRows c pal b car tur i72) i114).2 i72 (i114 + 1)) b b))) * 3) / 16)) 2 ((((((zRowF pal b car i72 (zRows c pal b car tur i72) i114).2) i72 (i114 + 1)) - (pal (zNear pal ((zRowF pal b car i72 (zRows c pal b car tur i72) i114).2 i72 (i114 + 1)) b b))) * 5) / 16))))] ++ [])) (ps4 (pmc (A := [_, _, _, _, _]) (pmc (A := []) (pmc (A := []) (pmc (A := []) (pmc (A := []) (pmc (A := []) (List.Perm.nil))))))) (by simp only [List.append_assoc, List.nil_append, List.append_nil]; exact List.Perm.refl _)) (g_drop ?_)
                        refine g_iload F dX5_cloth_362 6 rfl ?_
                        refine g_iload F dX5_cloth_364 5 rfl ?_
                        refine g_iadd F dX5_cloth_366 ?_
                        refine g_topr (y := nI (i114 + 1 + 1)) (nI_1 _) ?_
                        refine g_istore (L' := [(0, .ref y), (1, .ref pp), (2, .ref q4), (3, .ref q13), (4, .int (nI i72)), (5, .int 1), (6, .int (nI (i114 + 1 + 1))), (7, .int (nI (zNear pal ((zRowF pal b car i72 (zRows c pal b car tur i72) i114).2 i72 (i114 + 1)) b b))), (8, .int ((((zRowF pal b car i72 (zRows c pal b car tur i72) i114).2) i72 (i114 + 1)) - (pal (zNear pal ((zRowF pal b car i72 (zRows c pal b car tur i72) i114).2 i72 (i114 + 1)) b b)))), (9, .ref q243)]) F dX5_cloth_367 (by decide) [1, 2, 3, 4, 5, 6, 0, 7, 8, 9] rfl ?_
                        refine g_goto (tgt := 114) F dX5_cloth_369 (by decide) ?_
                        refine g_lv (L' := [(0, .ref y), (1, .ref pp), (2, .ref q4), (3, .ref q13), (4, .int (nI i72)), (5, .int 1), (6, .int (nI (i114 + 1 + 1)))]) [0, 1, 2, 3, 4, 5, 6] rfl ?_
                        refine g_cs (cells' := (0 + 1 + 8 + 1 + 9 + i72 * 12 + (i114 + 1))) (slots' := (0 + 8 + 8 * 12 + 9 + 9 * 14 + i72 * 36 + (i114 + 1) * 3)) (by show 0 + 1 + 8 + 1 + 9 + i72 * 12 + i114 + 1 ≤ 0 + 1 + 8 + 1 + 9 + i72 * 12 + (i114 + 1); omega) (by show 0 + 8 + 8 * 12 + 9 + 9 * 14 + i72 * 36 + i114 * 3 + 3 ≤ 0 + 8 + 8 * 12 + 9 + 9 * 14 + i72 * 36 + (i114 + 1) * 3; omega) ?_
                        have q := ih114 (i114 + 1) (by omega)
                        simp only [zRowF, zCell1] at q
                        first
                          | (rw [zG1 (Classical.not_not.mp k213)] at q)
                          | (rw [zG2 k213 k236] at q)
                          | (rw [zG0 k213 k236] at q)
                        exact q
                      · skip
                        refine g_goto (tgt := 362) F dX5_cloth_239 (by decide) ?_
                        refine g_iload F dX5_cloth_362 6 rfl ?_
                        refine g_iload F dX5_cloth_364 5 rfl ?_
                        refine g_iadd F dX5_cloth_366 ?_
                        refine g_topr (y := nI (i114 + 1 + 1)) (nI_1 _) ?_
                        refine g_istore (L' := [(0, .ref y), (1, .ref pp), (2, .ref q4), (3, .ref q13), (4, .int (nI i72)), (5, .int 1), (6, .int (nI (i114 + 1 + 1))), (7, .int (nI (zNear pal ((zRowF pal b car i72 (zRows c pal b car tur i72) i114).2 i72 (i114 + 1)) b b))), (8, .int ((((zRowF pal b car i72 (zRows c pal b car tur i72) i114).2) i72 (i114 + 1)) - (pal (zNear pal ((zRowF pal b car i72 (zRows c pal b car tur i72) i114).2 i72 (i114 + 1)) b b))))]) F dX5_cloth_367 (by decide) [1, 2, 3, 4, 5, 6, 0, 7, 8] rfl ?_
                        refine g_goto (tgt := 114) F dX5_cloth_369 (by decide) ?_
                        refine g_lv (L' := [(0, .ref y), (1, .ref pp), (2, .ref q4), (3, .ref q13), (4, .int (nI i72)), (5, .int 1), (6, .int (nI (i114 + 1 + 1)))]) [0, 1, 2, 3, 4, 5, 6] rfl ?_
                        refine g_cs (cells' := (0 + 1 + 8 + 1 + 9 + i72 * 12 + (i114 + 1))) (slots' := (0 + 8 + 8 * 12 + 9 + 9 * 14 + i72 * 36 + (i114 + 1) * 3)) (by show 0 + 1 + 8 + 1 + 9 + i72 * 12 + i114 ≤ 0 + 1 + 8 + 1 + 9 + i72 * 12 + (i114 + 1); omega) (by show 0 + 8 + 8 * 12 + 9 + 9 * 14 + i72 * 36 + i114 * 3 ≤ 0 + 8 + 8 * 12 + 9 + 9 * 14 + i72 * 36 + (i114 + 1) * 3; omega) ?_
                        have q := ih114 (i114 + 1) (by omega)
                        simp only [zRowF, zCell1] at q
                        first
                          | (rw [zG1 (Classical.not_not.mp k213)] at q)
                          | (rw [zG2 k213 k236] at q)
                          | (rw [zG0 k213 k236] at q)
                        exact q
                    · skip
                      refine g_aload_n F dX5_cloth_216 rfl 3 rfl ?_
                      refine g_iload F dX5_cloth_217 4 rfl ?_
                      refine g_aald (k := i72) F dX5_cloth_219 0 rfl (by omega) (by first | decide | omega) rfl ?_
                      refine g_iload F dX5_cloth_220 6 rfl ?_
                      refine g_iload F dX5_cloth_222 5 rfl ?_
                      refine g_iadd F dX5_cloth_224 ?_
                      refine g_topr (y := nI (i114 + 1 + 1)) (nI_1 _) ?_
                      refine g_topr (y := nI (i114 + 2)) (rfl) ?_
                      refine g_dup2 F dX5_cloth_225 rfl rfl ?_
                      refine g_ialdG0 (y := i72) (k := i114 + 2) F dX5_cloth_226 rfl (by omega) (by show _ < _; first | decide | omega) (by show _ < _; first | decide | omega) ?_
                      refine g_iload F dX5_cloth_227 8 rfl ?_
                      refine g_iadd F dX5_cloth_229 ?_
                      refine g_iastG0 (y := i72) (k := i114 + 2) F dX5_cloth_230 rfl (by omega) (by show _ < _; first | decide | omega) (by show _ < _; first | decide | omega) ?_
                      refine g_ws (ws' := ([(q13, qE E 9 r13), (q4, qE E 8 r4), (y, .inr (5, [.ref pa, .int col, .int car, .int tur, .int pre, .ref sa, .int cl, .ref kp, .ref kk, .int ko])), (pa, qE E 8 r), (pp, .inl (E.2.2, b, .inl pal))] ++ (gW E r13 (fun _ => 14) (zAdd ((zRowF pal b car i72 (zRows c pal b car tur i72) i114).2) i72 (i114 + 2) ((((zRowF pal b car i72 (zRows c pal b car tur i72) i114).2) i72 (i114 + 1)) - (pal (zNear pal ((zRowF pal b car i72 (zRows c pal b car tur i72) i114).2 i72 (i114 + 1)) b b)))) 9 ++ (gW E r4 (fun _ => 12) (va_up ((zRowF pal b car i72 (zRows c pal b car tur i72) i114).1) i72 (upd (((zRowF pal b car i72 (zRows c pal b car tur i72) i114).1) i72) (i114 + 1 - 1) (nI (zNear pal ((zRowF pal b car i72 (zRows c pal b car tur i72) i114).2 i72 (i114 + 1)) b b)))) 8 ++ (gW E r (fun _ => 12) c 8 ++ []))))) rfl ?_
                      refine g_aload_n F dX5_cloth_231 rfl 0 rfl ?_
                      refine g_get F dX5_cloth_232 2 rfl rfl i5 2 (by decide) rfl (List.mem_of_getElem? (i := 9) rfl) ?_
                      refine g_iconst (v := 2) F dX5_cloth_235 (by decide) ?_
                      refine g_icmp_eq_f (tgt := 242) F dX5_cloth_236 (by decide) (fun h => absurd ((Classical.not_not.mp k213).symm.trans h) (by decide)) ?_
                      refine g_goto (tgt := 362) F dX5_cloth_239 (by decide) ?_
                      refine g_iload F dX5_cloth_362 6 rfl ?_
                      refine g_iload F dX5_cloth_364 5 rfl ?_
                      refine g_iadd F dX5_cloth_366 ?_
                      refine g_topr (y := nI (i114 + 1 + 1)) (nI_1 _) ?_
                      refine g_istore (L' := [(0, .ref y), (1, .ref pp), (2, .ref q4), (3, .ref q13), (4, .int (nI i72)), (5, .int 1), (6, .int (nI (i114 + 1 + 1))), (7, .int (nI (zNear pal ((zRowF pal b car i72 (zRows c pal b car tur i72) i114).2 i72 (i114 + 1)) b b))), (8, .int ((((zRowF pal b car i72 (zRows c pal b car tur i72) i114).2) i72 (i114 + 1)) - (pal (zNear pal ((zRowF pal b car i72 (zRows c pal b car tur i72) i114).2 i72 (i114 + 1)) b b))))]) F dX5_cloth_367 (by decide) [1, 2, 3, 4, 5, 6, 0, 7, 8] rfl ?_
                      refine g_goto (tgt := 114) F dX5_cloth_369 (by decide) ?_
                      refine g_lv (L' := [(0, .ref y), (1, .ref pp), (2, .ref q4), (3, .ref q13), (4, .int (nI i72)), (5, .int 1), (6, .int (nI (i114 + 1 + 1)))]) [0, 1, 2, 3, 4, 5, 6] rfl ?_
                      refine g_cs (cells' := (0 + 1 + 8 + 1 + 9 + i72 * 12 + (i114 + 1))) (slots' := (0 + 8 + 8 * 12 + 9 + 9 * 14 + i72 * 36 + (i114 + 1) * 3)) (by show 0 + 1 + 8 + 1 + 9 + i72 * 12 + i114 ≤ 0 + 1 + 8 + 1 + 9 + i72 * 12 + (i114 + 1); omega) (by show 0 + 8 + 8 * 12 + 9 + 9 * 14 + i72 * 36 + i114 * 3 ≤ 0 + 8 + 8 * 12 + 9 + 9 * 14 + i72 * 36 + (i114 + 1) * 3; omega) ?_
                      have q := ih114 (i114 + 1) (by omega)
                      simp only [zRowF, zCell1] at q
                      first
                        | (rw [zG1 (Classical.not_not.mp k213)] at q)
                        | (rw [zG2 k213 k236] at q)
                        | (rw [zG0 k213 k236] at q)
                      exact q
                  | succ n135 ih135 =>
                    intro i135 hi135
                    have hl135 : i135 < b := by omega
                    refine g_iload F dX5_cloth_135 8 rfl ?_
                    refine g_if_lt_f (tgt := 183) F dX5_cloth_137 (by decide) (by rw [nI_dn hl135]; exact nI_pos (by omega)) ?_
                    rw [nI_dn hl135]
                    refine g_aload_n F dX5_cloth_140 rfl 3 rfl ?_
                    refine g_iload F dX5_cloth_141 4 rfl ?_
                    refine g_aald (k := i72) F dX5_cloth_143 0 rfl (by omega) (by first | decide | omega) rfl ?_
                    refine g_iload F dX5_cloth_144 6 rfl ?_
                    refine g_ialdG0 (y := i72) (k := i114 + 1) F dX5_cloth_146 rfl (by omega) (by show _ < _; first | decide | omega) (by show _ < _; first | decide | omega) ?_
                    refine g_aload_n F dX5_cloth_147 rfl 1 rfl ?_
                    refine g_iload F dX5_cloth_148 8 rfl ?_
                    refine g_ialdN (k := b - i135 - 1) F dX5_cloth_150 4 rfl (by omega) (by first | decide | omega) ?_
                    refine g_isub F dX5_cloth_151 ?_
                    refine g_abs F dX5_cloth_152 (List.mem_of_getElem? (i := 5) rfl) (List.mem_of_getElem? (i := 6) rfl) (List.mem_of_getElem? (i := 7) rfl) (List.mem_of_getElem? (i := 8) rfl) (by decide) (Nat.le_of_ble_eq_true rfl) (by show 0 + 1 + 8 + 1 + 9 + i72 * 12 + i114 ≤ 115; omega) (by show 0 + 8 + 8 * 12 + 9 + 9 * 14 + i72 * 36 + i114 * 3 ≤ 527; omega) ?_
                    refine g_aload_n F dX5_cloth_155 rfl 3 rfl ?_
                    refine g_iload F dX5_cloth_156 4 rfl ?_
                    refine g_aald (k := i72) F dX5_cloth_158 0 rfl (by omega) (by first | decide | omega) rfl ?_
                    refine g_iload F dX5_cloth_159 6 rfl ?_
                    refine g_ialdG0 (y := i72) (k := i114 + 1) F dX5_cloth_161 rfl (by omega) (by show _ < _; first | decide | omega) (by show _ < _; first | decide | omega) ?_
                    refine g_aload_n F dX5_cloth_162 rfl 1 rfl ?_
                    refine g_iload F dX5_cloth_163 7 rfl ?_
                    refine g_ialdN (k := zNear pal ((zRowF pal b car i72 (zRows c pal b car tur i72) i114).2 i72 (i114 + 1)) b i135) F dX5_cloth_165 4 rfl (zNear_lt pal _ hb0 _) (by first | decide | omega) ?_
                    refine g_isub F dX5_cloth_166 ?_
                    refine g_abs F dX5_cloth_167 (List.mem_of_getElem? (i := 5) rfl) (List.mem_of_getElem? (i := 6) rfl) (List.mem_of_getElem? (i := 7) rfl) (List.mem_of_getElem? (i := 8) rfl) (by decide) (Nat.le_of_ble_eq_true rfl) (by show 0 + 1 + 8 + 1 + 9 + i72 * 12 + i114 ≤ 115; omega) (by show 0 + 8 + 8 * 12 + 9 + 9 * 14 + i72 * 36 + i114 * 3 ≤ 527; omega) ?_
                    refine g_icmp_gt (tgt := 177) F dX5_cloth_170 (by decide) (fun k170 => ?_) (fun k170 => ?_)
                    · skip
                      refine g_iinc (L' := [(0, .ref y), (1, .ref pp), (2, .ref q4), (3, .ref q13), (4, .int (nI i72)), (5, .int 1), (6, .int (nI (i114 + 1))), (7, .int (nI (zNear pal ((zRowF pal b car i72 (zRows c pal b car tur i72) i114).2 i72 (i114 + 1)) b i135))), (8, .int (nI (b - (i135 + 1)) - 1))]) (v := nI (b - (i135 + 1)) - 1) F dX5_cloth_177 8 rfl ((add_neg1 _).trans (by rw [Nat.sub_sub])) (by decide) [1, 2, 3, 4, 5, 6, 7, 8, 0] rfl ?_
                      refine g_goto (tgt := 135) F dX5_cloth_180 (by decide) ?_
                      have q := ih135 (i135 + 1) (by omega)
                      simp only [zNear] at q
                      first
                        | rw [if_pos (Int32.not_lt.mp k170)] at q
                        | rw [if_neg (Int32.not_le.mpr k170)] at q
                      exact q
                    · skip
                      refine g_iload F dX5_cloth_173 8 rfl ?_
                      refine g_istore (L' := [(0, .ref y), (1, .ref pp), (2, .ref q4), (3, .ref q13), (4, .int (nI i72)), (5, .int 1), (6, .int (nI (i114 + 1))), (7, .int (nI (b - i135 - 1))), (8, .int (nI (b - i135 - 1)))]) F dX5_cloth_175 (by decide) [1, 2, 3, 4, 5, 6, 7, 0, 8] rfl ?_
                      refine g_iinc (L' := [(0, .ref y), (1, .ref pp), (2, .ref q4), (3, .ref q13), (4, .int (nI i72)), (5, .int 1), (6, .int (nI (i114 + 1))), (7, .int (nI (b - i135 - 1))), (8, .int (nI (b - (i135 + 1)) - 1))]) (v := nI (b - (i135 + 1)) - 1) F dX5_cloth_177 8 rfl ((add_neg1 _).trans (by rw [Nat.sub_sub])) (by decide) [1, 2, 3, 4, 5, 6, 7, 8, 0] rfl ?_
                      refine g_goto (tgt := 135) F dX5_cloth_180 (by decide) ?_
                      have q := ih135 (i135 + 1) (by omega)
                      simp only [zNear] at q
                      first
                        | rw [if_pos (Int32.not_lt.mp k170)] at q
                        | rw [if_neg (Int32.not_le.mpr k170)] at q
                      exact q
                exact lp135 b 0 (by omega)
            refine g_cs (cells' := (0 + 1 + 8 + 1 + 9 + i72 * 12 + 0)) (slots' := (0 + 8 + 8 * 12 + 9 + 9 * 14 + i72 * 36 + 0 * 3)) (by show 0 + 1 + 8 + 1 + 9 + i72 * 12 ≤ 0 + 1 + 8 + 1 + 9 + i72 * 12 + 0; omega) (by show 0 + 8 + 8 * 12 + 9 + 9 * 14 + i72 * 36 ≤ 0 + 8 + 8 * 12 + 9 + 9 * 14 + i72 * 36 + 0 * 3; omega) ?_
            exact lp114 12 0 (by omega)
          · skip
            refine g_iload F dX5_cloth_86 4 rfl ?_
            refine g_iconst (v := 2) F dX5_cloth_88 (by decide) ?_
            refine g_irem (v := nI (i72 % 2)) F dX5_cloth_89 (by decide) ((pk_rem (d := 2) (by omega) (by omega) (by omega)).symm) ?_
            refine g_iconst (v := 1) F dX5_cloth_90 (by decide) ?_
            refine g_icmp_ne (tgt := 98) F dX5_cloth_91 (by decide) (fun k91 => ?_) (fun k91 => ?_)
            · skip
              refine g_iconst (v := 1) F dX5_cloth_98 (by decide) ?_
              refine g_istore (L' := [(0, .ref y), (1, .ref pp), (2, .ref q4), (3, .ref q13), (4, .int (nI i72)), (5, .int 1)]) F dX5_cloth_99 (by decide) [1, 2, 3, 4, 5, 0] rfl ?_
              refine g_iload F dX5_cloth_101 5 rfl ?_
              refine g_if_le_f (tgt := 110) F dX5_cloth_103 (by decide) (by decide) ?_
              refine g_iconst (v := 1) F dX5_cloth_106 (by decide) ?_
              refine g_goto (tgt := 112) F dX5_cloth_107 (by decide) ?_
              refine g_istore (L' := [(0, .ref y), (1, .ref pp), (2, .ref q4), (3, .ref q13), (4, .int (nI i72)), (5, .int 1), (6, .int 1)]) F dX5_cloth_112 (by decide) [1, 2, 3, 4, 5, 6, 0] rfl ?_
              have lp114 : ∀ (n114 i114 : Nat), i114 + n114 = 12 → G E X (0 + 1 + 8 + 1 + 9 + i72 * 12 + i114) (0 + 8 + 8 * 12 + 9 + 9 * 14 + i72 * 36 + i114 * 3) 114 [(0, .ref y), (1, .ref pp), (2, .ref q4), (3, .ref q13), (4, .int (nI i72)), (5, .int 1), (6, .int (nI (i114 + 1)))] [] ([(q13, qE E 9 r13), (q4, qE E 8 r4), (y, .inr (5, [.ref pa, .int col, .int car, .int tur, .int pre, .ref sa, .int cl, .ref kp, .ref kk, .int ko])), (pa, qE E 8 r), (pp, .inl (E.2.2, b, .inl pal))] ++ (gW E r13 (fun _ => 14) ((zRowF pal b car i72 (zRows c pal b car tur i72) i114).2) 9 ++ (gW E r4 (fun _ => 12) ((zRowF pal b car i72 (zRows c pal b car tur i72) i114).1) 8 ++ (gW E r (fun _ => 12) c 8 ++ [])))) := by
                intro n114
                induction n114 with
                | zero =>
                  intro i114 hi114
                  have he114 : i114 = 12 := by omega
                  rw [he114]
                  refine g_iload F dX5_cloth_114 6 rfl ?_
                  refine g_if_le_f (tgt := 372) F dX5_cloth_116 (by decide) (by decide) ?_
                  refine g_iload F dX5_cloth_119 6 rfl ?_
                  refine g_bipush (v := 13) F dX5_cloth_121 (by decide) ?_
                  refine g_icmp_ge_t (tgt := 372) F dX5_cloth_123 (by decide) (by decide) ?_
                  refine g_iinc (L' := [(0, .ref y), (1, .ref pp), (2, .ref q4), (3, .ref q13), (4, .int (nI (i72 + 1))), (5, .int 1), (6, .int (nI (12 + 1)))]) (v := nI (i72 + 1)) F dX5_cloth_372 4 rfl (nI_1 _) (by decide) [1, 2, 3, 4, 0, 5, 6] rfl ?_
                  refine g_goto (tgt := 72) F dX5_cloth_375 (by decide) ?_
                  refine g_lv (L' := [(0, .ref y), (1, .ref pp), (2, .ref q4), (3, .ref q13), (4, .int (nI (i72 + 1)))]) [0, 1, 2, 3, 4] rfl ?_
                  refine g_cs (cells' := (0 + 1 + 8 + 1 + 9 + (i72 + 1) * 12)) (slots' := (0 + 8 + 8 * 12 + 9 + 9 * 14 + (i72 + 1) * 36)) (by show 0 + 1 + 8 + 1 + 9 + i72 * 12 + 12 ≤ 0 + 1 + 8 + 1 + 9 + (i72 + 1) * 12; omega) (by show 0 + 8 + 8 * 12 + 9 + 9 * 14 + i72 * 36 + 12 * 3 ≤ 0 + 8 + 8 * 12 + 9 + 9 * 14 + (i72 + 1) * 36; omega) ?_
                  have q := ih72 (i72 + 1) (by omega)
                  first
                    | rw [zRows_f (by unfold sBk; rw [if_pos k83])] at q
                    | rw [zRows_f (by unfold sBk; rw [if_neg k83, if_pos k91])] at q
                    | rw [zRows_b (by unfold sBk; rw [if_neg k83, if_neg k91]; decide)] at q
                  exact q
                | succ n114 ih114 =>
                  intro i114 hi114
                  have hl114 : i114 < 12 := by omega
                  refine g_iload F dX5_cloth_114 6 rfl ?_
                  refine g_if_le_f (tgt := 372) F dX5_cloth_116 (by decide) (fun h => absurd ((nI_le0 (by omega)).mp h) (by omega)) ?_
                  refine g_iload F dX5_cloth_119 6 rfl ?_
                  refine g_bipush (v := 13) F dX5_cloth_121 (by decide) ?_
                  refine g_icmp_ge_f (tgt := 372) F dX5_cloth_123 (by decide) (nle_nI (n := 13) (by omega) (by omega)) ?_
                  refine g_iconst (v := 0) F dX5_cloth_126 (by decide) ?_
                  refine g_istore (L' := [(0, .ref y), (1, .ref pp), (2, .ref q4), (3, .ref q13), (4, .int (nI i72)), (5, .int 1), (6, .int (nI (i114 + 1))), (7, .int 0)]) F dX5_cloth_127 (by decide) [1, 2, 3, 4, 5, 6, 7, 0] rfl ?_
                  refine g_aload_n F dX5_cloth_129 rfl 1 rfl ?_
                  refine g_alen (v := nI b) F dX5_cloth_130 4 rfl rfl ?_
                  refine g_iconst (v := 1) F dX5_cloth_131 (by decide) ?_
                  refine g_isub F dX5_cloth_132 ?_
                  refine g_istore (L' := [(0, .ref y), (1, .ref pp), (2, .ref q4), (3, .ref q13), (4, .int (nI i72)), (5, .int 1), (6, .int (nI (i114 + 1))), (7, .int 0), (8, .int ((nI b) - 1))]) F dX5_cloth_133 (by decide) [1, 2, 3, 4, 5, 6, 7, 8, 0] rfl ?_
                  have lp135 : ∀ (n135 i135 : Nat), i135 + n135 = b → G E X (0 + 1 + 8 + 1 + 9 + i72 * 12 + i114) (0 + 8 + 8 * 12 + 9 + 9 * 14 + i72 * 36 + i114 * 3) 135 [(0, .ref y), (1, .ref pp), (2, .ref q4), (3, .ref q13), (4, .int (nI i72)), (5, .int 1), (6, .int (nI (i114 + 1))), (7, .int (nI (zNear pal ((zRowF pal b car i72 (zRows c pal b car tur i72) i114).2 i72 (i114 + 1)) b i135))), (8, .int (nI (b - i135) - 1))] [] ([(q13, qE E 9 r13), (q4, qE E 8 r4), (y, .inr (5, [.ref pa, .int col, .int car, .int tur, .int pre, .ref sa, .int cl, .ref kp, .ref kk, .int ko])), (pa, qE E 8 r), (pp, .inl (E.2.2, b, .inl pal))] ++ (gW E r13 (fun _ => 14) ((zRowF pal b car i72 (zRows c pal b car tur i72) i114).2) 9 ++ (gW E r4 (fun _ => 12) ((zRowF pal b car i72 (zRows c pal b car tur i72) i114).1) 8 ++ (gW E r (fun _ => 12) c 8 ++ [])))) := by
                    intro n135
                    induction n135 with
                    | zero =>
                      intro i135 hi135
                      have he135 : i135 = b := by omega
                      rw [he135]
                      refine g_iload F dX5_cloth_135 8 rfl ?_
                      refine g_if_lt_t (tgt := 183) F dX5_cloth_137 (by decide) (by rw [Nat.sub_self]; decide) ?_
                      refine g_aload_n F dX5_cloth_183 rfl 2 rfl ?_
                      refine g_iload F dX5_cloth_184 4 rfl ?_
                      refine g_aald (k := i72) F dX5_cloth_186 1 rfl (by omega) (by first | decide | omega) rfl ?_
                      refine g_iload F dX5_cloth_187 6 rfl ?_
                      refine g_iconst (v := 1) F dX5_cloth_189 (by decide) ?_
                      refine g_isub F dX5_cloth_190 ?_
                      refine g_topr (y := nI (i114 + 1 - 1)) (pk_sub (b := 1) (by omega)) ?_
                      refine g_iload F dX5_cloth_191 7 rfl ?_
                      refine g_iastG1 (y := i72) (k := i114 + 1 - 1) F dX5_cloth_193 rfl (by omega) (by show _ < _; first | decide | omega) (by show _ < _; first | decide | omega) ?_
                      refine g_ws (ws' := ([(q13, qE E 9 r13), (q4, qE E 8 r4), (y, .inr (5, [.ref pa, .int col, .int car, .int tur, .int pre, .ref sa, .int cl, .ref kp, .ref kk, .int ko])), (pa, qE E 8 r), (pp, .inl (E.2.2, b, .inl pal))] ++ (gW E r13 (fun _ => 14) ((zRowF pal b car i72 (zRows c pal b car tur i72) i114).2) 9 ++ (gW E r4 (fun _ => 12) (va_up ((zRowF pal b car i72 (zRows c pal b car tur i72) i114).1) i72 (upd (((zRowF pal b car i72 (zRows c pal b car tur i72) i114).1) i72) (i114 + 1 - 1) (nI (zNear pal ((zRowF pal b car i72 (zRows c pal b car tur i72) i114).2 i72 (i114 + 1)) b b)))) 8 ++ (gW E r (fun _ => 12) c 8 ++ []))))) rfl ?_
                      refine g_aload_n F dX5_cloth_194 rfl 3 rfl ?_
                      refine g_iload F dX5_cloth_195 4 rfl ?_
                      refine g_aald (k := i72) F dX5_cloth_197 0 rfl (by omega) (by first | decide | omega) rfl ?_
                      refine g_iload F dX5_cloth_198 6 rfl ?_
                      refine g_ialdG0 (y := i72) (k := i114 + 1) F dX5_cloth_200 rfl (by omega) (by show _ < _; first | decide | omega) (by show _ < _; first | decide | omega) ?_
                      refine g_aload_n F dX5_cloth_201 rfl 1 rfl ?_
                      refine g_iload F dX5_cloth_202 7 rfl ?_
                      refine g_ialdN (k := zNear pal ((zRowF pal b car i72 (zRows c pal b car tur i72) i114).2 i72 (i114 + 1)) b b) F dX5_cloth_204 4 rfl (zNear_lt pal _ hb0 _) (by first | decide | omega) ?_
                      refine g_isub F dX5_cloth_205 ?_
                      refine g_istore (L' := [(0, .ref y), (1, .ref pp), (2, .ref q4), (3, .ref q13), (4, .int (nI i72)), (5, .int 1), (6, .int (nI (i114 + 1))), (7, .int (nI (zNear pal ((zRowF pal b car i72 (zRows c pal b car tur i72) i114).2 i72 (i114 + 1)) b b))), (8, .int ((((zRowF pal b car i72 (zRows c pal b car tur i72) i114).2) i72 (i114 + 1)) - (pal (zNear pal ((zRowF pal b car i72 (zRows c pal b car tur i72) i114).2 i72 (i114 + 1)) b b))))]) F dX5_cloth_206 (by decide) [1, 2, 3, 4, 5, 6, 7, 8, 0] rfl ?_
                      refine g_aload_n F dX5_cloth_208 rfl 0 rfl ?_
                      refine g_get F dX5_cloth_209 2 rfl rfl i5 2 (by decide) rfl (List.mem_of_getElem? (i := 9) rfl) ?_
                      refine g_iconst (v := 1) F dX5_cloth_212 (by decide) ?_
                      refine g_icmp_ne (tgt := 231) F dX5_cloth_213 (by decide) (fun k213 => ?_) (fun k213 => ?_)
                      · skip
                        refine g_aload_n F dX5_cloth_231 rfl 0 rfl ?_
                        refine g_get F dX5_cloth_232 2 rfl rfl i5 2 (by decide) rfl (List.mem_of_getElem? (i := 9) rfl) ?_
                        refine g_iconst (v := 2) F dX5_cloth_235 (by decide) ?_
                        refine g_icmp_eq (tgt := 242) F dX5_cloth_236 (by decide) (fun k236 => ?_) (fun k236 => ?_)
                        · skip
                          refine g_iconst (v := 3) F dX5_cloth_242 (by decide) ?_
                          refine g_newa (N' := 3) F dX5_cloth_243 (List.mem_of_getElem? (i := 2) rfl) (by decide) (rfl) (by omega) (by show 0 + 1 + 8 + 1 + 9 + i72 * 12 + i114 + 1 ≤ 115; omega) (by show 0 + 8 + 8 * 12 + 9 + 9 * 14 + i72 * 36 + i114 * 3 + 3 ≤ 527; omega) (fun q243 => g_front ?_)
                          refine g_ws (ws' := ([(q243, .inl (E.2.2, 3, .inl (fun _ => 0))), (q13, qE E 9 r13), (q4, qE E 8 r4), (y, .inr (5, [.ref pa, .int col, .int car, .int tur, .int pre, .ref sa, .int cl, .ref kp, .ref kk, .int ko])), (pa, qE E 8 r), (pp, .inl (E.2.2, b, .inl pal))] ++ (gW E r13 (fun _ => 14) ((zRowF pal b car i72 (zRows c pal b car tur i72) i114).2) 9 ++ (gW E r4 (fun _ => 12) (va_up ((zRowF pal b car i72 (zRows c pal b car tur i72) i114).1) i72 (upd (((zRowF pal b car i72 (zRows c pal b car tur i72) i114).1) i72) (i114 + 1 - 1) (nI (zNear pal ((zRowF pal b car i72 (zRows c pal b car tur i72) i114).2 i72 (i114 + 1)) b b)))) 8 ++ (gW E r (fun _ => 12) c 8 ++ []))))) rfl ?_
                          refine g_dup F dX5_cloth_245 rfl ?_
                          refine g_iconst (v := 0) F dX5_cloth_246 (by decide) ?_
                          refine g_iload F dX5_cloth_247 8 rfl ?_
                          refine g_bipush (v := 7) F dX5_cloth_249 (by decide) ?_
                          refine g_imul F dX5_cloth_251 ?_
                          refine g_bipush (v := 16) F dX5_cloth_252 (by decide) ?_
                          refine g_idiv F dX5_cloth_254 (by decide) ?_
                          refine g_iastN (k := 0) (ws' := ([(q243, .inl (E.2.2, 3, .inl (upd (fun _ => 0) 0 ((((((zRowF pal b car i72 (zRows c pal b car tur i72) i114).2) i72 (i114 + 1)) - (pal (zNear pal ((zRowF pal b car i72 (zRows c pal b car tur i72) i114).2 i72 (i114 + 1)) b b))) * 7) / 16)))), (q13, qE E 9 r13), (q4, qE E 8 r4), (y, .inr (5, [.ref pa, .int col, .int car, .int tur, .int pre, .ref sa, .int cl, .ref kp, .ref kk, .int ko])), (pa, qE E 8 r), (pp, .inl (E.2.2, b, .inl pal))] ++ (gW E r13 (fun _ => 14) ((zRowF pal b car i72 (zRows c pal b car tur i72) i114).2) 9 ++ (gW E r4 (fun _ => 12) (va_up ((zRowF pal b car i72 (zRows c pal b car tur i72) i114).1) i72 (upd (((zRowF pal b car i72 (zRows c pal b car tur i72) i114).1) i72) (i114 + 1 - 1) (nI (zNear pal ((zRowF pal b car i72 (zRows c pal b car tur i72) i114).2 i72 (i114 + 1)) b b)))) 8 ++ (gW E r (fun _ => 12) c 8 ++ []))))) F dX5_cloth_255 0 rfl (by omega) (by first | decide | omega) rfl ?_
                          refine g_dup F dX5_cloth_256 rfl ?_
                          refine g_iconst (v := 1) F dX5_cloth_257 (by decide) ?_
                          refine g_iload F dX5_cloth_258 8 rfl ?_
                          refine g_iconst (v := 3) F dX5_cloth_260 (by decide) ?_
                          refine g_imul F dX5_cloth_261 ?_
                          refine g_bipush (v := 16) F dX5_cloth_262 (by decide) ?_
                          refine g_idiv F dX5_cloth_264 (by decide) ?_
                          refine g_iastN (k := 1) (ws' := ([(q243, .inl (E.2.2, 3, .inl (upd (upd (fun _ => 0) 0 ((((((zRowF pal b car i72 (zRows c pal b car tur i72) i114).2) i72 (i114 + 1)) - (pal (zNear pal ((zRowF pal b car i72 (zRows c pal b car tur i72) i114).2 i72 (i114 + 1)) b b))) * 7) / 16)) 1 ((((((zRowF pal b car i72 (zRows c pal b car tur i72) i114).2) i72 (i114 + 1)) - (pal (zNear pal ((zRowF pal b car i72 (zRows c pal b car tur i72) i114).2 i72 (i114 + 1)) b b))) * 3) / 16)))), (q13, qE E 9 r13), (q4, qE E 8 r4), (y, .inr (5, [.ref pa, .int col, .int car, .int tur, .int pre, .ref sa, .int cl, .ref kp, .ref kk, .int ko])), (pa, qE E 8 r), (pp, .inl (E.2.2, b, .inl pal))] ++ (gW E r13 (fun _ => 14) ((zRowF pal b car i72 (zRows c pal b car tur i72) i114).2) 9 ++ (gW E r4 (fun _ => 12) (va_up ((zRowF pal b car i72 (zRows c pal b car tur i72) i114).1) i72 (upd (((zRowF pal b car i72 (zRows c pal b car tur i72) i114).1) i72) (i114 + 1 - 1) (nI (zNear pal ((zRowF pal b car i72 (zRows c pal b car tur i72) i114).2 i72 (i114 + 1)) b b)))) 8 ++ (gW E r (fun _ => 12) c 8 ++ []))))) F dX5_cloth_265 0 rfl (by omega) (by first | decide | omega) rfl ?_
                          refine g_dup F dX5_cloth_266 rfl ?_
                          refine g_iconst (v := 2) F dX5_cloth_267 (by decide) ?_
                          refine g_iload F dX5_cloth_268 8 rfl ?_
                          refine g_iconst (v := 5) F dX5_cloth_270 (by decide) ?_
                          refine g_imul F dX5_cloth_271 ?_
                          refine g_bipush (v := 16) F dX5_cloth_272 (by decide) ?_
                          refine g_idiv F dX5_cloth_274 (by decide) ?_
                          refine g_iastN (k := 2) (ws' := ([(q243, .inl (E.2.2, 3, .inl (upd (upd (upd (fun _ => 0) 0 ((((((zRowF pal b car i72 (zRows c pal b car tur i72) i114).2) i72 (i114 + 1)) - (pal (zNear pal ((zRowF pal b car i72 (zRows c pal b car tur i72) i114).2 i72 (i114 + 1)) b b))) * 7) / 16)) 1 ((((((zRowF pal b car i72 (zRows c pal b car tur i72) i114).2) i72 (i114 + 1)) - (pal (zNear pal ((zRowF pal b car i72 (zRows c pal b car tur i72) i114).2 i72 (i114 + 1)) b b))) * 3) / 16)) 2 ((((((zRowF pal b car i72 (zRows c pal b car tur i72) i114).2) i72 (i114 + 1)) - (pal (zNear pal ((zRowF pal b car i72 (zRows c pal b car tur i72) i114).2 i72 (i114 + 1)) b b))) * 5) / 16)))), (q13, qE E 9 r13), (q4, qE E 8 r4), (y, .inr (5, [.ref pa, .int col, .int car, .int tur, .int pre, .ref sa, .int cl, .ref kp, .ref kk, .int ko])), (pa, qE E 8 r), (pp, .inl (E.2.2, b, .inl pal))] ++ (gW E r13 (fun _ => 14) ((zRowF pal b car i72 (zRows c pal b car tur i72) i114).2) 9 ++ (gW E r4 (fun _ => 12) (va_up ((zRowF pal b car i72 (zRows c pal b car tur i72) i114).1) i72 (upd (((zRowF pal b car i72 (zRows c pal b car tur i72) i114).1) i72) (i114 + 1 - 1) (nI (zNear pal ((zRowF pal b car i72 (zRows c pal b car tur i72) i114).2 i72 (i114 + 1)) b b)))) 8 ++ (gW E r (fun _ => 12) c 8 ++ []))))) F dX5_cloth_275 0 rfl (by omega) (by first | decide | omega) rfl ?_
                          refine g_astore (L' := [(0, .ref y), (1, .ref pp), (2, .ref q4), (3, .ref q13), (4, .int (nI i72)), (5, .int 1), (6, .int (nI (i114 + 1))), (7, .int (nI (zNear pal ((zRowF pal b car i72 (zRows c pal b car tur i72) i114).2 i72 (i114 + 1)) b b))), (8, .int ((((zRowF pal b car i72 (zRows c pal b car tur i72) i114).2) i72 (i114 + 1)) - (pal (zNear pal ((zRowF pal b car i72 (zRows c pal b car tur i72) i114).2 i72 (i114 + 1)) b b)))), (9, .ref q243)]) F dX5_cloth_276 (by decide) [1, 2, 3, 4, 5, 6, 7, 8, 9, 0] rfl ?_
                          refine g_aload_n F dX5_cloth_278 rfl 3 rfl ?_
                          refine g_iload F dX5_cloth_279 4 rfl ?_
                          refine g_aald (k := i72) F dX5_cloth_281 1 rfl (by omega) (by first | decide | omega) rfl ?_
                          refine g_iload F dX5_cloth_282 6 rfl ?_
                          refine g_iload F dX5_cloth_284 5 rfl ?_
                          refine g_iadd F dX5_cloth_286 ?_
                          refine g_topr (y := nI (i114 + 1 + 1)) (nI_1 _) ?_
                          refine g_topr (y := nI (i114 + 2)) (rfl) ?_
                          refine g_dup2 F dX5_cloth_287 rfl rfl ?_
                          refine g_ialdG0 (y := i72) (k := i114 + 2) F dX5_cloth_288 rfl (by omega) (by show _ < _; first | decide | omega) (by show _ < _; first | decide | omega) ?_
                          refine g_aload F dX5_cloth_289 9 rfl ?_
                          refine g_iconst (v := 0) F dX5_cloth_291 (by decide) ?_
                          refine g_ialdN (k := 0) F dX5_cloth_292 0 rfl (by omega) (by first | decide | omega) ?_
                          refine g_iadd F dX5_cloth_293 ?_
                          refine g_iastG0 (y := i72) (k := i114 + 2) F dX5_cloth_294 rfl (by omega) (by show _ < _; first | decide | omega) (by show _ < _; first | decide | omega) ?_
                          refine g_ws (ws' := ([(q243, .inl (E.2.2, 3, .inl (upd (upd (upd (fun _ => 0) 0 ((((((zRowF pal b car i72 (zRows c pal b car tur i72) i114).2) i72 (i114 + 1)) - (pal (zNear pal ((zRowF pal b car i72 (zRows c pal b car tur i72) i114).2 i72 (i114 + 1)) b b))) * 7) / 16)) 1 ((((((zRowF pal b car i72 (zRows c pal b car tur i72) i114).2) i72 (i114 + 1)) - (pal (zNear pal ((zRowF pal b car i72 (zRows c pal b car tur i72) i114).2 i72 (i114 + 1)) b b))) * 3) / 16)) 2 ((((((zRowF pal b car i72 (zRows c pal b car tur i72) i114).2) i72 (i114 + 1)) - (pal (zNear pal ((zRowF pal b car i72 (zRows c pal b car tur i72) i114).2 i72 (i114 + 1)) b b))) * 5) / 16)))), (q13, qE E 9 r13), (q4, qE E 8 r4), (y, .inr (5, [.ref pa, .int col, .int car, .int tur, .int pre, .ref sa, .int cl, .ref kp, .ref kk, .int ko])), (pa, qE E 8 r), (pp, .inl (E.2.2, b, .inl pal))] ++ (gW E r13 (fun _ => 14) (zAdd ((zRowF pal b car i72 (zRows c pal b car tur i72) i114).2) i72 (i114 + 2) ((upd (upd (upd (fun _ => 0) 0 ((((((zRowF pal b car i72 (zRows c pal b car tur i72) i114).2) i72 (i114 + 1)) - (pal (zNear pal ((zRowF pal b car i72 (zRows c pal b car tur i72) i114).2 i72 (i114 + 1)) b b))) * 7) / 16)) 1 ((((((zRowF pal b car i72 (zRows c pal b car tur i72) i114).2) i72 (i114 + 1)) - (pal (zNear pal ((zRowF pal b car i72 (zRows c pal b car tur i72) i114).2 i72 (i114 + 1)) b b))) * 3) / 16)) 2 ((((((zRowF pal b car i72 (zRows c pal b car tur i72) i114).2) i72 (i114 + 1)) - (pal (zNear pal ((zRowF pal b car i72 (zRows c pal b car tur i72) i114).2 i72 (i114 + 1)) b b))) * 5) / 16)) 0)) 9 ++ (gW E r4 (fun _ => 12) (va_up ((zRowF pal b car i72 (zRows c pal b car tur i72) i114).1) i72 (upd (((zRowF pal b car i72 (zRows c pal b car tur i72) i114).1) i72) (i114 + 1 - 1) (nI (zNear pal ((zRowF pal b car i72 (zRows c pal b car tur i72) i114).2 i72 (i114 + 1)) b b)))) 8 ++ (gW E r (fun _ => 12) c 8 ++ []))))) rfl ?_
                          refine g_aload_n F dX5_cloth_295 rfl 3 rfl ?_
                          refine g_iload F dX5_cloth_296 4 rfl ?_
                          refine g_iconst (v := 1) F dX5_cloth_298 (by decide) ?_
                          refine g_iadd F dX5_cloth_299 ?_
                          refine g_topr (y := nI (i72 + 1)) (nI_1 _) ?_
                          refine g_aald (k := i72 + 1) F dX5_cloth_300 1 rfl (by omega) (by first | decide | omega) rfl ?_
                          refine g_iload F dX5_cloth_301 6 rfl ?_
                          refine g_iload F dX5_cloth_303 5 rfl ?_
                          refine g_isub F dX5_cloth_305 ?_
                          refine g_topr (y := nI i114) (nI_pred _) ?_
                          refine g_dup2 F dX5_cloth_306 rfl rfl ?_
                          refine g_ialdG0 (y := i72 + 1) (k := i114) F dX5_cloth_307 rfl (by omega) (by show _ < _; first | decide | omega) (by show _ < _; first | decide | omega) ?_
                          refine g_aload F dX5_cloth_308 9 rfl ?_
                          refine g_iconst (v := 1) F dX5_cloth_310 (by decide) ?_
                          refine g_ialdN (k := 1) F dX5_cloth_311 0 rfl (by omega) (by first | decide | omega) ?_
                          refine g_iadd F dX5_cloth_312 ?_
                          refine g_iastG0 (y := i72 + 1) (k := i114) F dX5_cloth_313 rfl (by omega) (by show _ < _; first | decide | omega) (by show _ < _; first | decide | omega) ?_
                          refine g_ws (ws' := ([(q243, .inl (E.2.2, 3, .inl (upd (upd (upd (fun _ => 0) 0 ((((((zRowF pal b car i72 (zRows c pal b car tur i72) i114).2) i72 (i114 + 1)) - (pal (zNear pal ((zRowF pal b car i72 (zRows c pal b car tur i72) i114).2 i72 (i114 + 1)) b b))) * 7) / 16)) 1 ((((((zRowF pal b car i72 (zRows c pal b car tur i72) i114).2) i72 (i114 + 1)) - (pal (zNear pal ((zRowF pal b car i72 (zRows c pal b car tur i72) i114).2 i72 (i114 + 1)) b b))) * 3) / 16)) 2 ((((((zRowF pal b car i72 (zRows c pal b car tur i72) i114).2) i72 (i114 + 1)) - (pal (zNear pal ((zRowF pal b car i72 (zRows c pal b car tur i72) i114).2 i72 (i114 + 1)) b b))) * 5) / 16)))), (q13, qE E 9 r13), (q4, qE E 8 r4), (y, .inr (5, [.ref pa, .int col, .int car, .int tur, .int pre, .ref sa, .int cl, .ref kp, .ref kk, .int ko])), (pa, qE E 8 r), (pp, .inl (E.2.2, b, .inl pal))] ++ (gW E r13 (fun _ => 14) (zAdd (zAdd ((zRowF pal b car i72 (zRows c pal b car tur i72) i114).2) i72 (i114 + 2) ((upd (upd (upd (fun _ => 0) 0 ((((((zRowF pal b car i72 (zRows c pal b car tur i72) i114).2) i72 (i114 + 1)) - (pal (zNear pal ((zRowF pal b car i72 (zRows c pal b car tur i72) i114).2 i72 (i114 + 1)) b b))) * 7) / 16)) 1 ((((((zRowF pal b car i72 (zRows c pal b car tur i72) i114).2) i72 (i114 + 1)) - (pal (zNear pal ((zRowF pal b car i72 (zRows c pal b car tur i72) i114).2 i72 (i114 + 1)) b b))) * 3) / 16)) 2 ((((((zRowF pal b car i72 (zRows c pal b car tur i72) i114).2) i72 (i114 + 1)) - (pal (zNear pal ((zRowF pal b car i72 (zRows c pal b car tur i72) i114).2 i72 (i114 + 1)) b b))) * 5) / 16)) 0)) (i72 + 1) i114 ((upd (upd (upd (fun _ => 0) 0 ((((((zRowF pal b car i72 (zRows c pal b car tur i72) i114).2) i72 (i114 + 1)) - (pal (zNear pal ((zRowF pal b car i72 (zRows c pal b car tur i72) i114).2 i72 (i114 + 1)) b b))) * 7) / 16)) 1 ((((((zRowF pal b car i72 (zRows c pal b car tur i72) i114).2) i72 (i114 + 1)) - (pal (zNear pal ((zRowF pal b car i72 (zRows c pal b car tur i72) i114).2 i72 (i114 + 1)) b b))) * 3) / 16)) 2 ((((((zRowF pal b car i72 (zRows c pal b car tur i72) i114).2) i72 (i114 + 1)) - (pal (zNear pal ((zRowF pal b car i72 (zRows c pal b car tur i72) i114).2 i72 (i114 + 1)) b b))) * 5) / 16)) 1)) 9 ++ (gW E r4 (fun _ => 12) (va_up ((zRowF pal b car i72 (zRows c pal b car tur i72) i114).1) i72 (upd (((zRowF pal b car i72 (zRows c pal b car tur i72) i114).1) i72) (i114 + 1 - 1) (nI (zNear pal ((zRowF pal b car i72 (zRows c pal b car tur i72) i114).2 i72 (i114 + 1)) b b)))) 8 ++ (gW E r (fun _ => 12) c 8 ++ []))))) rfl ?_
                          refine g_aload_n F dX5_cloth_314 rfl 3 rfl ?_
                          refine g_iload F dX5_cloth_315 4 rfl ?_
                          refine g_iconst (v := 1) F dX5_cloth_317 (by decide) ?_
                          refine g_iadd F dX5_cloth_318 ?_
                          refine g_topr (y := nI (i72 + 1)) (nI_1 _) ?_
                          refine g_aald (k := i72 + 1) F dX5_cloth_319 1 rfl (by omega) (by first | decide | omega) rfl ?_
                          refine g_iload F dX5_cloth_320 6 rfl ?_
                          refine g_dup2 F dX5_cloth_322 rfl rfl ?_
                          refine g_ialdG0 (y := i72 + 1) (k := i114 + 1) F dX5_cloth_323 rfl (by omega) (by show _ < _; first | decide | omega) (by show _ < _; first | decide | omega) ?_
                          refine g_aload F dX5_cloth_324 9 rfl ?_
                          refine g_iconst (v := 2) F dX5_cloth_326 (by decide) ?_
                          refine g_ialdN (k := 2) F dX5_cloth_327 0 rfl (by omega) (by first | decide | omega) ?_
                          refine g_iadd F dX5_cloth_328 ?_
                          refine g_iastG0 (y := i72 + 1) (k := i114 + 1) F dX5_cloth_329 rfl (by omega) (by show _ < _; first | decide | omega) (by show _ < _; first | decide | omega) ?_
                          refine g_ws (ws' := ([(q243, .inl (E.2.2, 3, .inl (upd (upd (upd (fun _ => 0) 0 ((((((zRowF pal b car i72 (zRows c pal b car tur i72) i114).2) i72 (i114 + 1)) - (pal (zNear pal ((zRowF pal b car i72 (zRows c pal b car tur i72) i114).2 i72 (i114 + 1)) b b))) * 7) / 16)) 1 ((((((zRowF pal b car i72 (zRows c pal b car tur i72) i114).2) i72 (i114 + 1)) - (pal (zNear pal ((zRowF pal b car i72 (zRows c pal b car tur i72) i114).2 i72 (i114 + 1)) b b))) * 3) / 16)) 2 ((((((zRowF pal b car i72 (zRows c pal b car tur i72) i114).2) i72 (i114 + 1)) - (pal (zNear pal ((zRowF pal b car i72 (zRows c pal b car tur i72) i114).2 i72 (i114 + 1)) b b))) * 5) / 16)))), (q13, qE E 9 r13), (q4, qE E 8 r4), (y, .inr (5, [.ref pa, .int col, .int car, .int tur, .int pre, .ref sa, .int cl, .ref kp, .ref kk, .int ko])), (pa, qE E 8 r), (pp, .inl (E.2.2, b, .inl pal))] ++ (gW E r13 (fun _ => 14) (zAdd (zAdd (zAdd ((zRowF pal b car i72 (zRows c pal b car tur i72) i114).2) i72 (i114 + 2) ((upd (upd (upd (fun _ => 0) 0 ((((((zRowF pal b car i72 (zRows c pal b car tur i72) i114).2) i72 (i114 + 1)) - (pal (zNear pal ((zRowF pal b car i72 (zRows c pal b car tur i72) i114).2 i72 (i114 + 1)) b b))) * 7) / 16)) 1 ((((((zRowF pal b car i72 (zRows c pal b car tur i72) i114).2) i72 (i114 + 1)) - (pal (zNear pal ((zRowF pal b car i72 (zRows c pal b car tur i72) i114).2 i72 (i114 + 1)) b b))) * 3) / 16)) 2 ((((((zRowF pal b car i72 (zRows c pal b car tur i72) i114).2) i72 (i114 + 1)) - (pal (zNear pal ((zRowF pal b car i72 (zRows c pal b car tur i72) i114).2 i72 (i114 + 1)) b b))) * 5) / 16)) 0)) (i72 + 1) i114 ((upd (upd (upd (fun _ => 0) 0 ((((((zRowF pal b car i72 (zRows c pal b car tur i72) i114).2) i72 (i114 + 1)) - (pal (zNear pal ((zRowF pal b car i72 (zRows c pal b car tur i72) i114).2 i72 (i114 + 1)) b b))) * 7) / 16)) 1 ((((((zRowF pal b car i72 (zRows c pal b car tur i72) i114).2) i72 (i114 + 1)) - (pal (zNear pal ((zRowF pal b car i72 (zRows c pal b car tur i72) i114).2 i72 (i114 + 1)) b b))) * 3) / 16)) 2 ((((((zRowF pal b car i72 (zRows c pal b car tur i72) i114).2) i72 (i114 + 1)) - (pal (zNear pal ((zRowF pal b car i72 (zRows c pal b car tur i72) i114).2 i72 (i114 + 1)) b b))) * 5) / 16)) 1)) (i72 + 1) (i114 + 1) ((upd (upd (upd (fun _ => 0) 0 ((((((zRowF pal b car i72 (zRows c pal b car tur i72) i114).2) i72 (i114 + 1)) - (pal (zNear pal ((zRowF pal b car i72 (zRows c pal b car tur i72) i114).2 i72 (i114 + 1)) b b))) * 7) / 16)) 1 ((((((zRowF pal b car i72 (zRows c pal b car tur i72) i114).2) i72 (i114 + 1)) - (pal (zNear pal ((zRowF pal b car i72 (zRows c pal b car tur i72) i114).2 i72 (i114 + 1)) b b))) * 3) / 16)) 2 ((((((zRowF pal b car i72 (zRows c pal b car tur i72) i114).2) i72 (i114 + 1)) - (pal (zNear pal ((zRowF pal b car i72 (zRows c pal b car tur i72) i114).2 i72 (i114 + 1)) b b))) * 5) / 16)) 2)) 9 ++ (gW E r4 (fun _ => 12) (va_up ((zRowF pal b car i72 (zRows c pal b car tur i72) i114).1) i72 (upd (((zRowF pal b car i72 (zRows c pal b car tur i72) i114).1) i72) (i114 + 1 - 1) (nI (zNear pal ((zRowF pal b car i72 (zRows c pal b car tur i72) i114).2 i72 (i114 + 1)) b b)))) 8 ++ (gW E r (fun _ => 12) c 8 ++ []))))) rfl ?_
                          refine g_aload_n F dX5_cloth_330 rfl 3 rfl ?_
                          refine g_iload F dX5_cloth_331 4 rfl ?_
                          refine g_iconst (v := 1) F dX5_cloth_333 (by decide) ?_
                          refine g_iadd F dX5_cloth_334 ?_
                          refine g_topr (y := nI (i72 + 1)) (nI_1 _) ?_
                          refine g_aald (k := i72 + 1) F dX5_cloth_335 1 rfl (by omega) (by first | decide | omega) rfl ?_
                          refine g_iload F dX5_cloth_336 6 rfl ?_
                          refine g_iload F dX5_cloth_338 5 rfl ?_
                          refine g_iadd F dX5_cloth_340 ?_
                          refine g_topr (y := nI (i114 + 1 + 1)) (nI_1 _) ?_
                          refine g_topr (y := nI (i114 + 2)) (rfl) ?_
                          refine g_dup2 F dX5_cloth_341 rfl rfl ?_
                          refine g_ialdG0 (y := i72 + 1) (k := i114 + 2) F dX5_cloth_342 rfl (by omega) (by show _ < _; first | decide | omega) (by show _ < _; first | decide | omega) ?_
                          refine g_iload F dX5_cloth_343 8 rfl ?_
                          refine g_aload F dX5_cloth_345 9 rfl ?_
                          refine g_iconst (v := 0) F dX5_cloth_347 (by decide) ?_
                          refine g_ialdN (k := 0) F dX5_cloth_348 0 rfl (by omega) (by first | decide | omega) ?_
                          refine g_isub F dX5_cloth_349 ?_
                          refine g_aload F dX5_cloth_350 9 rfl ?_
                          refine g_iconst (v := 1) F dX5_cloth_352 (by decide) ?_
                          refine g_ialdN (k := 1) F dX5_cloth_353 0 rfl (by omega) (by first | decide | omega) ?_
                          refine g_isub F dX5_cloth_354 ?_
                          refine g_aload F dX5_cloth_355 9 rfl ?_
                          refine g_iconst (v := 2) F dX5_cloth_357 (by decide) ?_
                          refine g_ialdN (k := 2) F dX5_cloth_358 0 rfl (by omega) (by first | decide | omega) ?_
                          refine g_isub F dX5_cloth_359 ?_
                          refine g_iadd F dX5_cloth_360 ?_
                          refine g_iastG0 (y := i72 + 1) (k := i114 + 2) F dX5_cloth_361 rfl (by omega) (by show _ < _; first | decide | omega) (by show _ < _; first | decide | omega) ?_
                          refine g_ws (ws' := ([(q243, .inl (E.2.2, 3, .inl (upd (upd (upd (fun _ => 0) 0 ((((((zRowF pal b car i72 (zRows c pal b car tur i72) i114).2) i72 (i114 + 1)) - (pal (zNear pal ((zRowF pal b car i72 (zRows c pal b car tur i72) i114).2 i72 (i114 + 1)) b b))) * 7) / 16)) 1 ((((((zRowF pal b car i72 (zRows c pal b car tur i72) i114).2) i72 (i114 + 1)) - (pal (zNear pal ((zRowF pal b car i72 (zRows c pal b car tur i72) i114).2 i72 (i114 + 1)) b b))) * 3) / 16)) 2 ((((((zRowF pal b car i72 (zRows c pal b car tur i72) i114).2) i72 (i114 + 1)) - (pal (zNear pal ((zRowF pal b car i72 (zRows c pal b car tur i72) i114).2 i72 (i114 + 1)) b b))) * 5) / 16)))), (q13, qE E 9 r13), (q4, qE E 8 r4), (y, .inr (5, [.ref pa, .int col, .int car, .int tur, .int pre, .ref sa, .int cl, .ref kp, .ref kk, .int ko])), (pa, qE E 8 r), (pp, .inl (E.2.2, b, .inl pal))] ++ (gW E r13 (fun _ => 14) (zAdd (zAdd (zAdd (zAdd ((zRowF pal b car i72 (zRows c pal b car tur i72) i114).2) i72 (i114 + 2) ((upd (upd (upd (fun _ => 0) 0 ((((((zRowF pal b car i72 (zRows c pal b car tur i72) i114).2) i72 (i114 + 1)) - (pal (zNear pal ((zRowF pal b car i72 (zRows c pal b car tur i72) i114).2 i72 (i114 + 1)) b b))) * 7) / 16)) 1 ((((((zRowF pal b car i72 (zRows c pal b car tur i72) i114).2) i72 (i114 + 1)) - (pal (zNear pal ((zRowF pal b car i72 (zRows c pal b car tur i72) i114).2 i72 (i114 + 1)) b b))) * 3) / 16)) 2 ((((((zRowF pal b car i72 (zRows c pal b car tur i72) i114).2) i72 (i114 + 1)) - (pal (zNear pal ((zRowF pal b car i72 (zRows c pal b car tur i72) i114).2 i72 (i114 + 1)) b b))) * 5) / 16)) 0)) (i72 + 1) i114 ((upd (upd (upd (fun _ => 0) 0 ((((((zRowF pal b car i72 (zRows c pal b car tur i72) i114).2) i72 (i114 + 1)) - (pal (zNear pal ((zRowF pal b car i72 (zRows c pal b car tur i72) i114).2 i72 (i114 + 1)) b b))) * 7) / 16)) 1 ((((((zRowF pal b car i72 (zRows c pal b car tur i72) i114).2) i72 (i114 + 1)) - (pal (zNear pal ((zRowF pal b car i72 (zRows c pal b car tur i72) i114).2 i72 (i114 + 1)) b b))) * 3) / 16)) 2 ((((((zRowF pal b car i72 (zRows c pal b car tur i72) i114).2) i72 (i114 + 1)) - (pal (zNear pal ((zRowF pal b car i72 (zRows c pal b car tur i72) i114).2 i72 (i114 + 1)) b b))) * 5) / 16)) 1)) (i72 + 1) (i114 + 1) ((upd (upd (upd (fun _ => 0) 0 ((((((zRowF pal b car i72 (zRows c pal b car tur i72) i114).2) i72 (i114 + 1)) - (pal (zNear pal ((zRowF pal b car i72 (zRows c pal b car tur i72) i114).2 i72 (i114 + 1)) b b))) * 7) / 16)) 1 ((((((zRowF pal b car i72 (zRows c pal b car tur i72) i114).2) i72 (i114 + 1)) - (pal (zNear pal ((zRowF pal b car i72 (zRows c pal b car tur i72) i114).2 i72 (i114 + 1)) b b))) * 3) / 16)) 2 ((((((zRowF pal b car i72 (zRows c pal b car tur i72) i114).2) i72 (i114 + 1)) - (pal (zNear pal ((zRowF pal b car i72 (zRows c pal b car tur i72) i114).2 i72 (i114 + 1)) b b))) * 5) / 16)) 2)) (i72 + 1) (i114 + 2) (((((((zRowF pal b car i72 (zRows c pal b car tur i72) i114).2) i72 (i114 + 1)) - (pal (zNear pal ((zRowF pal b car i72 (zRows c pal b car tur i72) i114).2 i72 (i114 + 1)) b b))) - ((upd (upd (upd (fun _ => 0) 0 ((((((zRowF pal b car i72 (zRows c pal b car tur i72) i114).2) i72 (i114 + 1)) - (pal (zNear pal ((zRowF pal b car i72 (zRows c pal b car tur i72) i114).2 i72 (i114 + 1)) b b))) * 7) / 16)) 1 ((((((zRowF pal b car i72 (zRows c pal b car tur i72) i114).2) i72 (i114 + 1)) - (pal (zNear pal ((zRowF pal b car i72 (zRows c pal b car tur i72) i114).2 i72 (i114 + 1)) b b))) * 3) / 16)) 2 ((((((zRowF pal b car i72 (zRows c pal b car tur i72) i114).2) i72 (i114 + 1)) - (pal (zNear pal ((zRowF pal b car i72 (zRows c pal b car tur i72) i114).2 i72 (i114 + 1)) b b))) * 5) / 16)) 0)) - ((upd (upd (upd (fun _ => 0) 0 ((((((zRowF pal b car i72 (zRows c pal b car tur i72) i114).2) i72 (i114 + 1)) - (pal (zNear pal ((zRowF pal b car i72 (zRows c pal b car tur i72) i114).2 i72 (i114 + 1)) b b))) * 7) / 16)) 1 ((((((zRowF pal b car i72 (zRows c pal b car tur i72) i114).2) i72 (i114 + 1)) - (pal (zNear pal ((zRowF pal b car i72 (zRows c pal b car tur i72) i114).2 i72 (i114 + 1)) b b))) * 3) / 16)) 2 ((((((zRowF pal b car i72 (zRows c pal b car tur i72) i114).2) i72 (i114 + 1)) - (pal (zNear pal ((zRowF pal b car i72 (zRows c pal b car tur i72) i114).2 i72 (i114 + 1)) b b))) * 5) / 16)) 1)) - ((upd (upd (upd (fun _ => 0) 0 ((((((zRowF pal b car i72 (zRows c pal b car tur i72) i114).2) i72 (i114 + 1)) - (pal (zNear pal ((zRowF pal b car i72 (zRows c pal b car tur i72) i114).2 i72 (i114 + 1)) b b))) * 7) / 16)) 1 ((((((zRowF pal b car i72 (zRows c pal b car tur i72) i114).2) i72 (i114 + 1)) - (pal (zNear pal ((zRowF pal b car i72 (zRows c pal b car tur i72) i114).2 i72 (i114 + 1)) b b))) * 3) / 16)) 2 ((((((zRowF pal b car i72 (zRows c pal b car tur i72) i114).2) i72 (i114 + 1)) - (pal (zNear pal ((zRowF pal b car i72 (zRows c pal b car tur i72) i114).2 i72 (i114 + 1)) b b))) * 5) / 16)) 2))) 9 ++ (gW E r4 (fun _ => 12) (va_up ((zRowF pal b car i72 (zRows c pal b car tur i72) i114).1) i72 (upd (((zRowF pal b car i72 (zRows c pal b car tur i72) i114).1) i72) (i114 + 1 - 1) (nI (zNear pal ((zRowF pal b car i72 (zRows c pal b car tur i72) i114).2 i72 (i114 + 1)) b b)))) 8 ++ (gW E r (fun _ => 12) c 8 ++ []))))) rfl ?_
                          refine g_perm (ws' := ([(q13, qE E 9 r13), (q4, qE E 8 r4), (y, .inr (5, [.ref pa, .int col, .int car, .int tur, .int pre, .ref sa, .int cl, .ref kp, .ref kk, .int ko])), (pa, qE E 8 r), (pp, .inl (E.2.2, b, .inl pal))] ++ (gW E r13 (fun _ => 14) (zAdd (zAdd (zAdd (zAdd ((zRowF pal b car i72 (zRows c pal b car tur i72) i114).2) i72 (i114 + 2) ((upd (upd (upd (fun _ => 0) 0 ((((((zRowF pal b car i72 (zRows c pal b car tur i72) i114).2) i72 (i114 + 1)) - (pal (zNear pal ((zRowF pal b car i72 (zRows c pal b car tur i72) i114).2 i72 (i114 + 1)) b b))) * 7) / 16)) 1 ((((((zRowF pal b car i72 (zRows c pal b car tur i72) i114).2) i72 (i114 + 1)) - (pal (zNear pal ((zRowF pal b car i72 (zRows c pal b car tur i72) i114).2 i72 (i114 + 1)) b b))) * 3) / 16)) 2 ((((((zRowF pal b car i72 (zRows c pal b car tur i72) i114).2) i72 (i114 + 1)) - (pal (zNear pal ((zRowF pal b car i72 (zRows c pal b car tur i72) i114).2 i72 (i114 + 1)) b b))) * 5) / 16)) 0)) (i72 + 1) i114 ((upd (upd (upd (fun _ => 0) 0 ((((((zRowF pal b car i72 (zRows c pal b car tur i72) i114).2) i72 (i114 + 1)) - (pal (zNear pal ((zRowF pal b car i72 (zRows c pal b car tur i72) i114).2 i72 (i114 + 1)) b b))) * 7) / 16)) 1 ((((((zRowF pal b car i72 (zRows c pal b car tur i72) i114).2) i72 (i114 + 1)) - (pal (zNear pal ((zRowF pal b car i72 (zRows c pal b car tur i72) i114).2 i72 (i114 + 1)) b b))) * 3) / 16)) 2 ((((((zRowF pal b car i72 (zRows c pal b car tur i72) i114).2) i72 (i114 + 1)) - (pal (zNear pal ((zRowF pal b car i72 (zRows c pal b car tur i72) i114).2 i72 (i114 + 1)) b b))) * 5) / 16)) 1)) (i72 + 1) (i114 + 1) ((upd (upd (upd (fun _ => 0) 0 ((((((zRowF pal b car i72 (zRows c pal b car tur i72) i114).2) i72 (i114 + 1)) - (pal (zNear pal ((zRowF pal b car i72 (zRows c pal b car tur i72) i114).2 i72 (i114 + 1)) b b))) * 7) / 16)) 1 ((((((zRowF pal b car i72 (zRows c pal b car tur i72) i114).2) i72 (i114 + 1)) - (pal (zNear pal ((zRowF pal b car i72 (zRows c pal b car tur i72) i114).2 i72 (i114 + 1)) b b))) * 3) / 16)) 2 ((((((zRowF pal b car i72 (zRows c pal b car tur i72) i114).2) i72 (i114 + 1)) - (pal (zNear pal ((zRowF pal b car i72 (zRows c pal b car tur i72) i114).2 i72 (i114 + 1)) b b))) * 5) / 16)) 2)) (i72 + 1) (i114 + 2) (((((((zRowF pal b car i72 (zRows c pal b car tur i72) i114).2) i72 (i114 + 1)) - (pal (zNear pal ((zRowF pal b car i72 (zRows c pal b car tur i72) i114).2 i72 (i114 + 1)) b b))) - ((upd (upd (upd (fun _ => 0) 0 ((((((zRowF pal b car i72 (zRows c pal b car tur i72) i114).2) i72 (i114 + 1)) - (pal (zNear pal ((zRowF pal b car i72 (zRows c pal b car tur i72) i114).2 i72 (i114 + 1)) b b))) * 7) / 16)) 1 ((((((zRowF pal b car i72 (zRows c pal b car tur i72) i114).2) i72 (i114 + 1)) - (pal (zNear pal ((zRowF pal b car i72 (zRows c pal b car tur i72) i114).2 i72 (i114 + 1)) b b))) * 3) / 16)) 2 ((((((zRowF pal b car i72 (zRows c pal b car tur i72) i114).2) i72 (i114 + 1)) - (pal (zNear pal ((zRowF pal b car i72 (zRows c pal b car tur i72) i114).2 i72 (i114 + 1)) b b))) * 5) / 16)) 0)) - ((upd (upd (upd (fun _ => 0) 0 ((((((zRowF pal b car i72 (zRows c pal b car tur i72) i114).2) i72 (i114 + 1)) - (pal (zNear pal ((zRowF pal b car i72 (zRows c pal b car tur i72) i114).2 i72 (i114 + 1)) b b))) * 7) / 16)) 1 ((((((zRowF pal b car i72 (zRows c pal b car tur i72) i114).2) i72 (i114 + 1)) - (pal (zNear pal ((zRowF pal b car i72 (zRows c pal b car tur i72) i114).2 i72 (i114 + 1)) b b))) * 3) / 16)) 2 ((((((zRowF pal b car i72 (zRows c pal b car tur i72) i114).2) i72 (i114 + 1)) - (pal (zNear pal ((zRowF pal b car i72 (zRows c pal b car tur i72) i114).2 i72 (i114 + 1)) b b))) * 5) / 16)) 1)) - ((upd (upd (upd (fun _ => 0) 0 ((((((zRowF pal b car i72 (zRows c pal b car tur i72) i114).2) i72 (i114 + 1)) - (pal (zNear pal ((zRowF pal b car i72 (zRows c pal b car tur i72) i114).2 i72 (i114 + 1)) b b))) * 7) / 16)) 1 ((((((zRowF pal b car i72 (zRows c pal b car tur i72) i114).2) i72 (i114 + 1)) - (pal (zNear pal ((zRowF pal b car i72 (zRows c pal b car tur i72) i114).2 i72 (i114 + 1)) b b))) * 3) / 16)) 2 ((((((zRowF pal b car i72 (zRows c pal b car tur i72) i114).2) i72 (i114 + 1)) - (pal (zNear pal ((zRowF pal b car i72 (zRows c pal b car tur i72) i114).2 i72 (i114 + 1)) b b))) * 5) / 16)) 2))) 9 ++ (gW E r4 (fun _ => 12) (va_up ((zRowF pal b car i72 (zRows c pal b car tur i72) i114).1) i72 (upd (((zRowF pal b car i72 (zRows c pal b car tur i72) i114).1) i72) (i114 + 1 - 1) (nI (zNear pal ((zRowF pal b car i72 (zRows c pal b car tur i72) i114).2 i72 (i114 + 1)) b b)))) 8 ++ (gW E r (fun _ => 12) c 8 ++ [])))) ++ ([(q243, .inl (E.2.2, 3, .inl (upd (upd (upd (fun _ => 0) 0 ((((((zRowF pal b car i72 (zRows c pal b car tur i72) i114).2) i72 (i114 + 1)) - (pal (zNear pal ((zRowF pal b car i72 (zRows c pal b car tur i72) i114).2 i72 (i114 + 1)) b b))) * 7) / 16)) 1 ((((((zRowF pal b car i72 (zRows c pal b car tur i72) i114).2) i72 (i114 + 1)) - (pal (zNear pal ((zRowF pal b car i72 (zRows c pal b car tur i72) i114).2 i72 (i114 + 1)) b b))) * 3) / 16)) 2 ((((((zRowF pal b car i72 (zRows c pal b car tur i72) i114).2) i72 (i114 + 1)) - (pal (zNear pal ((zRowF pal b car i72 (zRows c pal b car tur i72) i114).2 i72 (i114 + 1)) b b))) * 5) / 16))))] ++ [])) (ps4 (pmc (A := [_, _, _, _, _]) (pmc (A := []) (pmc (A := []) (pmc (A := []) (pmc (A := []) (pmc (A := []) (List.Perm.nil))))))) (by simp only [List.append_assoc, List.nil_append, List.append_nil]; exact List.Perm.refl _)) (g_drop ?_)
                          refine g_iload F dX5_cloth_362 6 rfl ?_
                          refine g_iload F dX5_cloth_364 5 rfl ?_
                          refine g_iadd F dX5_cloth_366 ?_
                          refine g_topr (y := nI (i114 + 1 + 1)) (nI_1 _) ?_
                          refine g_istore (L' := [(0, .ref y), (1, .ref pp), (2, .ref q4), (3, .ref q13), (4, .int (nI i72)), (5, .int 1), (6, .int (nI (i114 + 1 + 1))), (7, .int (nI (zNear pal ((zRowF pal b car i72 (zRows c pal b car tur i72) i114).2 i72 (i114 + 1)) b b))), (8, .int ((((zRowF pal b car i72 (zRows c pal b car tur i72) i114).2) i72 (i114 + 1)) - (pal (zNear pal ((zRowF pal b car i72 (zRows c pal b car tur i72) i114).2 i72 (i114 + 1)) b b)))), (9, .ref q243)]) F dX5_cloth_367 (by decide) [1, 2, 3, 4, 5, 6, 0, 7, 8, 9] rfl ?_
                          refine g_goto (tgt := 114) F dX5_cloth_369 (by decide) ?_
                          refine g_lv (L' := [(0, .ref y), (1, .ref pp), (2, .ref q4), (3, .ref q13), (4, .int (nI i72)), (5, .int 1), (6, .int (nI (i114 + 1 + 1)))]) [0, 1, 2, 3, 4, 5, 6] rfl ?_
                          refine g_cs (cells' := (0 + 1 + 8 + 1 + 9 + i72 * 12 + (i114 + 1))) (slots' := (0 + 8 + 8 * 12 + 9 + 9 * 14 + i72 * 36 + (i114 + 1) * 3)) (by show 0 + 1 + 8 + 1 + 9 + i72 * 12 + i114 + 1 ≤ 0 + 1 + 8 + 1 + 9 + i72 * 12 + (i114 + 1); omega) (by show 0 + 8 + 8 * 12 + 9 + 9 * 14 + i72 * 36 + i114 * 3 + 3 ≤ 0 + 8 + 8 * 12 + 9 + 9 * 14 + i72 * 36 + (i114 + 1) * 3; omega) ?_
                          have q := ih114 (i114 + 1) (by omega)
                          simp only [zRowF, zCell1] at q
                          first
                            | (rw [zG1 (Classical.not_not.mp k213)] at q)
                            | (rw [zG2 k213 k236] at q)
                            | (rw [zG0 k213 k236] at q)
                          exact q
                        · skip
                          refine g_goto (tgt := 362) F dX5_cloth_239 (by decide) ?_
                          refine g_iload F dX5_cloth_362 6 rfl ?_
                          refine g_iload F dX5_cloth_364 5 rfl ?_
                          refine g_iadd F dX5_cloth_366 ?_
                          refine g_topr (y := nI (i114 + 1 + 1)) (nI_1 _) ?_
                          refine g_istore (L' := [(0, .ref y), (1, .ref pp), (2, .ref q4), (3, .ref q13), (4, .int (nI i72)), (5, .int 1), (6, .int (nI (i114 + 1 + 1))), (7, .int (nI (zNear pal ((zRowF pal b car i72 (zRows c pal b car tur i72) i114).2 i72 (i114 + 1)) b b))), (8, .int ((((zRowF pal b car i72 (zRows c pal b car tur i72) i114).2) i72 (i114 + 1)) - (pal (zNear pal ((zRowF pal b car i72 (zRows c pal b car tur i72) i114).2 i72 (i114 + 1)) b b))))]) F dX5_cloth_367 (by decide) [1, 2, 3, 4, 5, 6, 0, 7, 8] rfl ?_
                          refine g_goto (tgt := 114) F dX5_cloth_369 (by decide) ?_
                          refine g_lv (L' := [(0, .ref y), (1, .ref pp), (2, .ref q4), (3, .ref q13), (4, .int (nI i72)), (5, .int 1), (6, .int (nI (i114 + 1 + 1)))]) [0, 1, 2, 3, 4, 5, 6] rfl ?_
                          refine g_cs (cells' := (0 + 1 + 8 + 1 + 9 + i72 * 12 + (i114 + 1))) (slots' := (0 + 8 + 8 * 12 + 9 + 9 * 14 + i72 * 36 + (i114 + 1) * 3)) (by show 0 + 1 + 8 + 1 + 9 + i72 * 12 + i114 ≤ 0 + 1 + 8 + 1 + 9 + i72 * 12 + (i114 + 1); omega) (by show 0 + 8 + 8 * 12 + 9 + 9 * 14 + i72 * 36 + i114 * 3 ≤ 0 + 8 + 8 * 12 + 9 + 9 * 14 + i72 * 36 + (i114 + 1) * 3; omega) ?_
                          have q := ih114 (i114 + 1) (by omega)
                          simp only [zRowF, zCell1] at q
                          first
                            | (rw [zG1 (Classical.not_not.mp k213)] at q)
                            | (rw [zG2 k213 k236] at q)
                            | (rw [zG0 k213 k236] at q)
                          exact q
                      · skip
                        refine g_aload_n F dX5_cloth_216 rfl 3 rfl ?_
                        refine g_iload F dX5_cloth_217 4 rfl ?_
                        refine g_aald (k := i72) F dX5_cloth_219 0 rfl (by omega) (by first | decide | omega) rfl ?_
                        refine g_iload F dX5_cloth_220 6 rfl ?_
                        refine g_iload F dX5_cloth_222 5 rfl ?_
                        refine g_iadd F dX5_cloth_224 ?_
                        refine g_topr (y := nI (i114 + 1 + 1)) (nI_1 _) ?_
                        refine g_topr (y := nI (i114 + 2)) (rfl) ?_
                        refine g_dup2 F dX5_cloth_225 rfl rfl ?_
                        refine g_ialdG0 (y := i72) (k := i114 + 2) F dX5_cloth_226 rfl (by omega) (by show _ < _; first | decide | omega) (by show _ < _; first | decide | omega) ?_
                        refine g_iload F dX5_cloth_227 8 rfl ?_
                        refine g_iadd F dX5_cloth_229 ?_
                        refine g_iastG0 (y := i72) (k := i114 + 2) F dX5_cloth_230 rfl (by omega) (by show _ < _; first | decide | omega) (by show _ < _; first | decide | omega) ?_
                        refine g_ws (ws' := ([(q13, qE E 9 r13), (q4, qE E 8 r4), (y, .inr (5, [.ref pa, .int col, .int car, .int tur, .int pre, .ref sa, .int cl, .ref kp, .ref kk, .int ko])), (pa, qE E 8 r), (pp, .inl (E.2.2, b, .inl pal))] ++ (gW E r13 (fun _ => 14) (zAdd ((zRowF pal b car i72 (zRows c pal b car tur i72) i114).2) i72 (i114 + 2) ((((zRowF pal b car i72 (zRows c pal b car tur i72) i114).2) i72 (i114 + 1)) - (pal (zNear pal ((zRowF pal b car i72 (zRows c pal b car tur i72) i114).2 i72 (i114 + 1)) b b)))) 9 ++ (gW E r4 (fun _ => 12) (va_up ((zRowF pal b car i72 (zRows c pal b car tur i72) i114).1) i72 (upd (((zRowF pal b car i72 (zRows c pal b car tur i72) i114).1) i72) (i114 + 1 - 1) (nI (zNear pal ((zRowF pal b car i72 (zRows c pal b car tur i72) i114).2 i72 (i114 + 1)) b b)))) 8 ++ (gW E r (fun _ => 12) c 8 ++ []))))) rfl ?_
                        refine g_aload_n F dX5_cloth_231 rfl 0 rfl ?_
                        refine g_get F dX5_cloth_232 2 rfl rfl i5 2 (by decide) rfl (List.mem_of_getElem? (i := 9) rfl) ?_
                        refine g_iconst (v := 2) F dX5_cloth_235 (by decide) ?_
                        refine g_icmp_eq_f (tgt := 242) F dX5_cloth_236 (by decide) (fun h => absurd ((Classical.not_not.mp k213).symm.trans h) (by decide)) ?_
                        refine g_goto (tgt := 362) F dX5_cloth_239 (by decide) ?_
                        refine g_iload F dX5_cloth_362 6 rfl ?_
                        refine g_iload F dX5_cloth_364 5 rfl ?_
                        refine g_iadd F dX5_cloth_366 ?_
                        refine g_topr (y := nI (i114 + 1 + 1)) (nI_1 _) ?_
                        refine g_istore (L' := [(0, .ref y), (1, .ref pp), (2, .ref q4), (3, .ref q13), (4, .int (nI i72)), (5, .int 1), (6, .int (nI (i114 + 1 + 1))), (7, .int (nI (zNear pal ((zRowF pal b car i72 (zRows c pal b car tur i72) i114).2 i72 (i114 + 1)) b b))), (8, .int ((((zRowF pal b car i72 (zRows c pal b car tur i72) i114).2) i72 (i114 + 1)) - (pal (zNear pal ((zRowF pal b car i72 (zRows c pal b car tur i72) i114).2 i72 (i114 + 1)) b b))))]) F dX5_cloth_367 (by decide) [1, 2, 3, 4, 5, 6, 0, 7, 8] rfl ?_
                        refine g_goto (tgt := 114) F dX5_cloth_369 (by decide) ?_
                        refine g_lv (L' := [(0, .ref y), (1, .ref pp), (2, .ref q4), (3, .ref q13), (4, .int (nI i72)), (5, .int 1), (6, .int (nI (i114 + 1 + 1)))]) [0, 1, 2, 3, 4, 5, 6] rfl ?_
                        refine g_cs (cells' := (0 + 1 + 8 + 1 + 9 + i72 * 12 + (i114 + 1))) (slots' := (0 + 8 + 8 * 12 + 9 + 9 * 14 + i72 * 36 + (i114 + 1) * 3)) (by show 0 + 1 + 8 + 1 + 9 + i72 * 12 + i114 ≤ 0 + 1 + 8 + 1 + 9 + i72 * 12 + (i114 + 1); omega) (by show 0 + 8 + 8 * 12 + 9 + 9 * 14 + i72 * 36 + i114 * 3 ≤ 0 + 8 + 8 * 12 + 9 + 9 * 14 + i72 * 36 + (i114 + 1) * 3; omega) ?_
                        have q := ih114 (i114 + 1) (by omega)
                        simp only [zRowF, zCell1] at q
                        first
                          | (rw [zG1 (Classical.not_not.mp k213)] at q)
                          | (rw [zG2 k213 k236] at q)
                          | (rw [zG0 k213 k236] at q)
                        exact q
                    | succ n135 ih135 =>
                      intro i135 hi135
                      have hl135 : i135 < b := by omega
                      refine g_iload F dX5_cloth_135 8 rfl ?_
                      refine g_if_lt_f (tgt := 183) F dX5_cloth_137 (by decide) (by rw [nI_dn hl135]; exact nI_pos (by omega)) ?_
                      rw [nI_dn hl135]
                      refine g_aload_n F dX5_cloth_140 rfl 3 rfl ?_
                      refine g_iload F dX5_cloth_141 4 rfl ?_
                      refine g_aald (k := i72) F dX5_cloth_143 0 rfl (by omega) (by first | decide | omega) rfl ?_
                      refine g_iload F dX5_cloth_144 6 rfl ?_
                      refine g_ialdG0 (y := i72) (k := i114 + 1) F dX5_cloth_146 rfl (by omega) (by show _ < _; first | decide | omega) (by show _ < _; first | decide | omega) ?_
                      refine g_aload_n F dX5_cloth_147 rfl 1 rfl ?_
                      refine g_iload F dX5_cloth_148 8 rfl ?_
                      refine g_ialdN (k := b - i135 - 1) F dX5_cloth_150 4 rfl (by omega) (by first | decide | omega) ?_
                      refine g_isub F dX5_cloth_151 ?_
                      refine g_abs F dX5_cloth_152 (List.mem_of_getElem? (i := 5) rfl) (List.mem_of_getElem? (i := 6) rfl) (List.mem_of_getElem? (i := 7) rfl) (List.mem_of_getElem? (i := 8) rfl) (by decide) (Nat.le_of_ble_eq_true rfl) (by show 0 + 1 + 8 + 1 + 9 + i72 * 12 + i114 ≤ 115; omega) (by show 0 + 8 + 8 * 12 + 9 + 9 * 14 + i72 * 36 + i114 * 3 ≤ 527; omega) ?_
                      refine g_aload_n F dX5_cloth_155 rfl 3 rfl ?_
                      refine g_iload F dX5_cloth_156 4 rfl ?_
                      refine g_aald (k := i72) F dX5_cloth_158 0 rfl (by omega) (by first | decide | omega) rfl ?_
                      refine g_iload F dX5_cloth_159 6 rfl ?_
                      refine g_ialdG0 (y := i72) (k := i114 + 1) F dX5_cloth_161 rfl (by omega) (by show _ < _; first | decide | omega) (by show _ < _; first | decide | omega) ?_
                      refine g_aload_n F dX5_cloth_162 rfl 1 rfl ?_
                      refine g_iload F dX5_cloth_163 7 rfl ?_
                      refine g_ialdN (k := zNear pal ((zRowF pal b car i72 (zRows c pal b car tur i72) i114).2 i72 (i114 + 1)) b i135) F dX5_cloth_165 4 rfl (zNear_lt pal _ hb0 _) (by first | decide | omega) ?_
                      refine g_isub F dX5_cloth_166 ?_
                      refine g_abs F dX5_cloth_167 (List.mem_of_getElem? (i := 5) rfl) (List.mem_of_getElem? (i := 6) rfl) (List.mem_of_getElem? (i := 7) rfl) (List.mem_of_getElem? (i := 8) rfl) (by decide) (Nat.le_of_ble_eq_true rfl) (by show 0 + 1 + 8 + 1 + 9 + i72 * 12 + i114 ≤ 115; omega) (by show 0 + 8 + 8 * 12 + 9 + 9 * 14 + i72 * 36 + i114 * 3 ≤ 527; omega) ?_
                      refine g_icmp_gt (tgt := 177) F dX5_cloth_170 (by decide) (fun k170 => ?_) (fun k170 => ?_)
                      · skip
                        refine g_iinc (L' := [(0, .ref y), (1, .ref pp), (2, .ref q4), (3, .ref q13), (4, .int (nI i72)), (5, .int 1), (6, .int (nI (i114 + 1))), (7, .int (nI (zNear pal ((zRowF pal b car i72 (zRows c pal b car tur i72) i114).2 i72 (i114 + 1)) b i135))), (8, .int (nI (b - (i135 + 1)) - 1))]) (v := nI (b - (i135 + 1)) - 1) F dX5_cloth_177 8 rfl ((add_neg1 _).trans (by rw [Nat.sub_sub])) (by decide) [1, 2, 3, 4, 5, 6, 7, 8, 0] rfl ?_
                        refine g_goto (tgt := 135) F dX5_cloth_180 (by decide) ?_
                        have q := ih135 (i135 + 1) (by omega)
                        simp only [zNear] at q
                        first
                          | rw [if_pos (Int32.not_lt.mp k170)] at q
                          | rw [if_neg (Int32.not_le.mpr k170)] at q
                        exact q
                      · skip
                        refine g_iload F dX5_cloth_173 8 rfl ?_
                        refine g_istore (L' := [(0, .ref y), (1, .ref pp), (2, .ref q4), (3, .ref q13), (4, .int (nI i72)), (5, .int 1), (6, .int (nI (i114 + 1))), (7, .int (nI (b - i135 - 1))), (8, .int (nI (b - i135 - 1)))]) F dX5_cloth_175 (by decide) [1, 2, 3, 4, 5, 6, 7, 0, 8] rfl ?_
                        refine g_iinc (L' := [(0, .ref y), (1, .ref pp), (2, .ref q4), (3, .ref q13), (4, .int (nI i72)), (5, .int 1), (6, .int (nI (i114 + 1))), (7, .int (nI (b - i135 - 1))), (8, .int (nI (b - (i135 + 1)) - 1))]) (v := nI (b - (i135 + 1)) - 1) F dX5_cloth_177 8 rfl ((add_neg1 _).trans (by rw [Nat.sub_sub])) (by decide) [1, 2, 3, 4, 5, 6, 7, 8, 0] rfl ?_
                        refine g_goto (tgt := 135) F dX5_cloth_180 (by decide) ?_
                        have q := ih135 (i135 + 1) (by omega)
                        simp only [zNear] at q
                        first
                          | rw [if_pos (Int32.not_lt.mp k170)] at q
                          | rw [if_neg (Int32.not_le.mpr k170)] at q
                        exact q
                  exact lp135 b 0 (by omega)
              refine g_cs (cells' := (0 + 1 + 8 + 1 + 9 + i72 * 12 + 0)) (slots' := (0 + 8 + 8 * 12 + 9 + 9 * 14 + i72 * 36 + 0 * 3)) (by show 0 + 1 + 8 + 1 + 9 + i72 * 12 ≤ 0 + 1 + 8 + 1 + 9 + i72 * 12 + 0; omega) (by show 0 + 8 + 8 * 12 + 9 + 9 * 14 + i72 * 36 ≤ 0 + 8 + 8 * 12 + 9 + 9 * 14 + i72 * 36 + 0 * 3; omega) ?_
              exact lp114 12 0 (by omega)
            · skip
              refine g_iconst (v := (-1)) F dX5_cloth_94 (by decide) ?_
              refine g_goto (tgt := 99) F dX5_cloth_95 (by decide) ?_
              refine g_istore (L' := [(0, .ref y), (1, .ref pp), (2, .ref q4), (3, .ref q13), (4, .int (nI i72)), (5, .int (-1))]) F dX5_cloth_99 (by decide) [1, 2, 3, 4, 5, 0] rfl ?_
              refine g_iload F dX5_cloth_101 5 rfl ?_
              refine g_if_le_t (tgt := 110) F dX5_cloth_103 (by decide) (by decide) ?_
              refine g_bipush (v := 12) F dX5_cloth_110 (by decide) ?_
              refine g_istore (L' := [(0, .ref y), (1, .ref pp), (2, .ref q4), (3, .ref q13), (4, .int (nI i72)), (5, .int (-1)), (6, .int 12)]) F dX5_cloth_112 (by decide) [1, 2, 3, 4, 5, 6, 0] rfl ?_
              have lp114 : ∀ (n114 i114 : Nat), i114 + n114 = 12 → G E X (0 + 1 + 8 + 1 + 9 + i72 * 12 + i114) (0 + 8 + 8 * 12 + 9 + 9 * 14 + i72 * 36 + i114 * 3) 114 [(0, .ref y), (1, .ref pp), (2, .ref q4), (3, .ref q13), (4, .int (nI i72)), (5, .int (-1)), (6, .int (nI (12 - i114)))] [] ([(q13, qE E 9 r13), (q4, qE E 8 r4), (y, .inr (5, [.ref pa, .int col, .int car, .int tur, .int pre, .ref sa, .int cl, .ref kp, .ref kk, .int ko])), (pa, qE E 8 r), (pp, .inl (E.2.2, b, .inl pal))] ++ (gW E r13 (fun _ => 14) ((zRowB pal b car i72 (zRows c pal b car tur i72) i114).2) 9 ++ (gW E r4 (fun _ => 12) ((zRowB pal b car i72 (zRows c pal b car tur i72) i114).1) 8 ++ (gW E r (fun _ => 12) c 8 ++ [])))) := by
                intro n114
                induction n114 with
                | zero =>
                  intro i114 hi114
                  have he114 : i114 = 12 := by omega
                  rw [he114]
                  refine g_iload F dX5_cloth_114 6 rfl ?_
                  refine g_if_le_t (tgt := 372) F dX5_cloth_116 (by decide) (by decide) ?_
                  refine g_iinc (L' := [(0, .ref y), (1, .ref pp), (2, .ref q4), (3, .ref q13), (4, .int (nI (i72 + 1))), (5, .int (-1)), (6, .int (nI (12 - 12)))]) (v := nI (i72 + 1)) F dX5_cloth_372 4 rfl (nI_1 _) (by decide) [1, 2, 3, 4, 0, 5, 6] rfl ?_
                  refine g_goto (tgt := 72) F dX5_cloth_375 (by decide) ?_
                  refine g_lv (L' := [(0, .ref y), (1, .ref pp), (2, .ref q4), (3, .ref q13), (4, .int (nI (i72 + 1)))]) [0, 1, 2, 3, 4] rfl ?_
                  refine g_cs (cells' := (0 + 1 + 8 + 1 + 9 + (i72 + 1) * 12)) (slots' := (0 + 8 + 8 * 12 + 9 + 9 * 14 + (i72 + 1) * 36)) (by show 0 + 1 + 8 + 1 + 9 + i72 * 12 + 12 ≤ 0 + 1 + 8 + 1 + 9 + (i72 + 1) * 12; omega) (by show 0 + 8 + 8 * 12 + 9 + 9 * 14 + i72 * 36 + 12 * 3 ≤ 0 + 8 + 8 * 12 + 9 + 9 * 14 + (i72 + 1) * 36; omega) ?_
                  have q := ih72 (i72 + 1) (by omega)
                  first
                    | rw [zRows_f (by unfold sBk; rw [if_pos k83])] at q
                    | rw [zRows_f (by unfold sBk; rw [if_neg k83, if_pos k91])] at q
                    | rw [zRows_b (by unfold sBk; rw [if_neg k83, if_neg k91]; decide)] at q
                  exact q
                | succ n114 ih114 =>
                  intro i114 hi114
                  have hl114 : i114 < 12 := by omega
                  refine g_iload F dX5_cloth_114 6 rfl ?_
                  refine g_if_le_f (tgt := 372) F dX5_cloth_116 (by decide) (fun h => absurd ((nI_le0 (by omega)).mp h) (by omega)) ?_
                  refine g_iload F dX5_cloth_119 6 rfl ?_
                  refine g_bipush (v := 13) F dX5_cloth_121 (by decide) ?_
                  refine g_icmp_ge_f (tgt := 372) F dX5_cloth_123 (by decide) (nle_nI (n := 13) (by omega) (by omega)) ?_
                  refine g_iconst (v := 0) F dX5_cloth_126 (by decide) ?_
                  refine g_istore (L' := [(0, .ref y), (1, .ref pp), (2, .ref q4), (3, .ref q13), (4, .int (nI i72)), (5, .int (-1)), (6, .int (nI (12 - i114))), (7, .int 0)]) F dX5_cloth_127 (by decide) [1, 2, 3, 4, 5, 6, 7, 0] rfl ?_
                  refine g_aload_n F dX5_cloth_129 rfl 1 rfl ?_
                  refine g_alen (v := nI b) F dX5_cloth_130 4 rfl rfl ?_
                  refine g_iconst (v := 1) F dX5_cloth_131 (by decide) ?_
                  refine g_isub F dX5_cloth_132 ?_
                  refine g_istore (L' := [(0, .ref y), (1, .ref pp), (2, .ref q4), (3, .ref q13), (4, .int (nI i72)), (5, .int (-1)), (6, .int (nI (12 - i114))), (7, .int 0), (8, .int ((nI b) - 1))]) F dX5_cloth_133 (by decide) [1, 2, 3, 4, 5, 6, 7, 8, 0] rfl ?_
                  have lp135 : ∀ (n135 i135 : Nat), i135 + n135 = b → G E X (0 + 1 + 8 + 1 + 9 + i72 * 12 + i114) (0 + 8 + 8 * 12 + 9 + 9 * 14 + i72 * 36 + i114 * 3) 135 [(0, .ref y), (1, .ref pp), (2, .ref q4), (3, .ref q13), (4, .int (nI i72)), (5, .int (-1)), (6, .int (nI (12 - i114))), (7, .int (nI (zNear pal ((zRowB pal b car i72 (zRows c pal b car tur i72) i114).2 i72 (12 - i114)) b i135))), (8, .int (nI (b - i135) - 1))] [] ([(q13, qE E 9 r13), (q4, qE E 8 r4), (y, .inr (5, [.ref pa, .int col, .int car, .int tur, .int pre, .ref sa, .int cl, .ref kp, .ref kk, .int ko])), (pa, qE E 8 r), (pp, .inl (E.2.2, b, .inl pal))] ++ (gW E r13 (fun _ => 14) ((zRowB pal b car i72 (zRows c pal b car tur i72) i114).2) 9 ++ (gW E r4 (fun _ => 12) ((zRowB pal b car i72 (zRows c pal b car tur i72) i114).1) 8 ++ (gW E r (fun _ => 12) c 8 ++ [])))) := by
                    intro n135
                    induction n135 with
                    | zero =>
                      intro i135 hi135
                      have he135 : i135 = b := by omega
                      rw [he135]
                      refine g_iload F dX5_cloth_135 8 rfl ?_
                      refine g_if_lt_t (tgt := 183) F dX5_cloth_137 (by decide) (by rw [Nat.sub_self]; decide) ?_
                      refine g_aload_n F dX5_cloth_183 rfl 2 rfl ?_
                      refine g_iload F dX5_cloth_184 4 rfl ?_
                      refine g_aald (k := i72) F dX5_cloth_186 1 rfl (by omega) (by first | decide | omega) rfl ?_
                      refine g_iload F dX5_cloth_187 6 rfl ?_
                      refine g_iconst (v := 1) F dX5_cloth_189 (by decide) ?_
                      refine g_isub F dX5_cloth_190 ?_
                      refine g_topr (y := nI (12 - i114 - 1)) (pk_sub (b := 1) (by omega)) ?_
                      refine g_iload F dX5_cloth_191 7 rfl ?_
                      refine g_iastG1 (y := i72) (k := 12 - i114 - 1) F dX5_cloth_193 rfl (by omega) (by show _ < _; first | decide | omega) (by show _ < _; first | decide | omega) ?_
                      refine g_ws (ws' := ([(q13, qE E 9 r13), (q4, qE E 8 r4), (y, .inr (5, [.ref pa, .int col, .int car, .int tur, .int pre, .ref sa, .int cl, .ref kp, .ref kk, .int ko])), (pa, qE E 8 r), (pp, .inl (E.2.2, b, .inl pal))] ++ (gW E r13 (fun _ => 14) ((zRowB pal b car i72 (zRows c pal b car tur i72) i114).2) 9 ++ (gW E r4 (fun _ => 12) (va_up ((zRowB pal b car i72 (zRows c pal b car tur i72) i114).1) i72 (upd (((zRowB pal b car i72 (zRows c pal b car tur i72) i114).1) i72) (12 - i114 - 1) (nI (zNear pal ((zRowB pal b car i72 (zRows c pal b car tur i72) i114).2 i72 (12 - i114)) b b)))) 8 ++ (gW E r (fun _ => 12) c 8 ++ []))))) rfl ?_
                      refine g_aload_n F dX5_cloth_194 rfl 3 rfl ?_
                      refine g_iload F dX5_cloth_195 4 rfl ?_
                      refine g_aald (k := i72) F dX5_cloth_197 0 rfl (by omega) (by first | decide | omega) rfl ?_
                      refine g_iload F dX5_cloth_198 6 rfl ?_
                      refine g_ialdG0 (y := i72) (k := 12 - i114) F dX5_cloth_200 rfl (by omega) (by show _ < _; first | decide | omega) (by show _ < _; first | decide | omega) ?_
                      refine g_aload_n F dX5_cloth_201 rfl 1 rfl ?_
                      refine g_iload F dX5_cloth_202 7 rfl ?_
                      refine g_ialdN (k := zNear pal ((zRowB pal b car i72 (zRows c pal b car tur i72) i114).2 i72 (12 - i114)) b b) F dX5_cloth_204 4 rfl (zNear_lt pal _ hb0 _) (by first | decide | omega) ?_
                      refine g_isub F dX5_cloth_205 ?_
                      refine g_istore (L' := [(0, .ref y), (1, .ref pp), (2, .ref q4), (3, .ref q13), (4, .int (nI i72)), (5, .int (-1)), (6, .int (nI (12 - i114))), (7, .int (nI (zNear pal ((zRowB pal b car i72 (zRows c pal b car tur i72) i114).2 i72 (12 - i114)) b b))), (8, .int ((((zRowB pal b car i72 (zRows c pal b car tur i72) i114).2) i72 (12 - i114)) - (pal (zNear pal ((zRowB pal b car i72 (zRows c pal b car tur i72) i114).2 i72 (12 - i114)) b b))))]) F dX5_cloth_206 (by decide) [1, 2, 3, 4, 5, 6, 7, 8, 0] rfl ?_
                      refine g_aload_n F dX5_cloth_208 rfl 0 rfl ?_
                      refine g_get F dX5_cloth_209 2 rfl rfl i5 2 (by decide) rfl (List.mem_of_getElem? (i := 9) rfl) ?_
                      refine g_iconst (v := 1) F dX5_cloth_212 (by decide) ?_
                      refine g_icmp_ne (tgt := 231) F dX5_cloth_213 (by decide) (fun k213 => ?_) (fun k213 => ?_)
                      · skip
                        refine g_aload_n F dX5_cloth_231 rfl 0 rfl ?_
                        refine g_get F dX5_cloth_232 2 rfl rfl i5 2 (by decide) rfl (List.mem_of_getElem? (i := 9) rfl) ?_
                        refine g_iconst (v := 2) F dX5_cloth_235 (by decide) ?_
                        refine g_icmp_eq (tgt := 242) F dX5_cloth_236 (by decide) (fun k236 => ?_) (fun k236 => ?_)
                        · skip
                          refine g_iconst (v := 3) F dX5_cloth_242 (by decide) ?_
                          refine g_newa (N' := 3) F dX5_cloth_243 (List.mem_of_getElem? (i := 2) rfl) (by decide) (rfl) (by omega) (by show 0 + 1 + 8 + 1 + 9 + i72 * 12 + i114 + 1 ≤ 115; omega) (by show 0 + 8 + 8 * 12 + 9 + 9 * 14 + i72 * 36 + i114 * 3 + 3 ≤ 527; omega) (fun q243 => g_front ?_)
                          refine g_ws (ws' := ([(q243, .inl (E.2.2, 3, .inl (fun _ => 0))), (q13, qE E 9 r13), (q4, qE E 8 r4), (y, .inr (5, [.ref pa, .int col, .int car, .int tur, .int pre, .ref sa, .int cl, .ref kp, .ref kk, .int ko])), (pa, qE E 8 r), (pp, .inl (E.2.2, b, .inl pal))] ++ (gW E r13 (fun _ => 14) ((zRowB pal b car i72 (zRows c pal b car tur i72) i114).2) 9 ++ (gW E r4 (fun _ => 12) (va_up ((zRowB pal b car i72 (zRows c pal b car tur i72) i114).1) i72 (upd (((zRowB pal b car i72 (zRows c pal b car tur i72) i114).1) i72) (12 - i114 - 1) (nI (zNear pal ((zRowB pal b car i72 (zRows c pal b car tur i72) i114).2 i72 (12 - i114)) b b)))) 8 ++ (gW E r (fun _ => 12) c 8 ++ []))))) rfl ?_
                          refine g_dup F dX5_cloth_245 rfl ?_
                          refine g_iconst (v := 0) F dX5_cloth_246 (by decide) ?_
                          refine g_iload F dX5_cloth_247 8 rfl ?_
                          refine g_bipush (v := 7) F dX5_cloth_249 (by decide) ?_
                          refine g_imul F dX5_cloth_251 ?_
                          refine g_bipush (v := 16) F dX5_cloth_252 (by decide) ?_
                          refine g_idiv F dX5_cloth_254 (by decide) ?_
                          refine g_iastN (k := 0) (ws' := ([(q243, .inl (E.2.2, 3, .inl (upd (fun _ => 0) 0 ((((((zRowB pal b car i72 (zRows c pal b car tur i72) i114).2) i72 (12 - i114)) - (pal (zNear pal ((zRowB pal b car i72 (zRows c pal b car tur i72) i114).2 i72 (12 - i114)) b b))) * 7) / 16)))), (q13, qE E 9 r13), (q4, qE E 8 r4), (y, .inr (5, [.ref pa, .int col, .int car, .int tur, .int pre, .ref sa, .int cl, .ref kp, .ref kk, .int ko])), (pa, qE E 8 r), (pp, .inl (E.2.2, b, .inl pal))] ++ (gW E r13 (fun _ => 14) ((zRowB pal b car i72 (zRows c pal b car tur i72) i114).2) 9 ++ (gW E r4 (fun _ => 12) (va_up ((zRowB pal b car i72 (zRows c pal b car tur i72) i114).1) i72 (upd (((zRowB pal b car i72 (zRows c pal b car tur i72) i114).1) i72) (12 - i114 - 1) (nI (zNear pal ((zRowB pal b car i72 (zRows c pal b car tur i72) i114).2 i72 (12 - i114)) b b)))) 8 ++ (gW E r (fun _ => 12) c 8 ++ []))))) F dX5_cloth_255 0 rfl (by omega) (by first | decide | omega) rfl ?_
                          refine g_dup F dX5_cloth_256 rfl ?_
                          refine g_iconst (v := 1) F dX5_cloth_257 (by decide) ?_
                          refine g_iload F dX5_cloth_258 8 rfl ?_
                          refine g_iconst (v := 3) F dX5_cloth_260 (by decide) ?_
                          refine g_imul F dX5_cloth_261 ?_
                          refine g_bipush (v := 16) F dX5_cloth_262 (by decide) ?_
                          refine g_idiv F dX5_cloth_264 (by decide) ?_
                          refine g_iastN (k := 1) (ws' := ([(q243, .inl (E.2.2, 3, .inl (upd (upd (fun _ => 0) 0 ((((((zRowB pal b car i72 (zRows c pal b car tur i72) i114).2) i72 (12 - i114)) - (pal (zNear pal ((zRowB pal b car i72 (zRows c pal b car tur i72) i114).2 i72 (12 - i114)) b b))) * 7) / 16)) 1 ((((((zRowB pal b car i72 (zRows c pal b car tur i72) i114).2) i72 (12 - i114)) - (pal (zNear pal ((zRowB pal b car i72 (zRows c pal b car tur i72) i114).2 i72 (12 - i114)) b b))) * 3) / 16)))), (q13, qE E 9 r13), (q4, qE E 8 r4), (y, .inr (5, [.ref pa, .int col, .int car, .int tur, .int pre, .ref sa, .int cl, .ref kp, .ref kk, .int ko])), (pa, qE E 8 r), (pp, .inl (E.2.2, b, .inl pal))] ++ (gW E r13 (fun _ => 14) ((zRowB pal b car i72 (zRows c pal b car tur i72) i114).2) 9 ++ (gW E r4 (fun _ => 12) (va_up ((zRowB pal b car i72 (zRows c pal b car tur i72) i114).1) i72 (upd (((zRowB pal b car i72 (zRows c pal b car tur i72) i114).1) i72) (12 - i114 - 1) (nI (zNear pal ((zRowB pal b car i72 (zRows c pal b car tur i72) i114).2 i72 (12 - i114)) b b)))) 8 ++ (gW E r (fun _ => 12) c 8 ++ []))))) F dX5_cloth_265 0 rfl (by omega) (by first | decide | omega) rfl ?_
                          refine g_dup F dX5_cloth_266 rfl ?_
                          refine g_iconst (v := 2) F dX5_cloth_267 (by decide) ?_
                          refine g_iload F dX5_cloth_268 8 rfl ?_
                          refine g_iconst (v := 5) F dX5_cloth_270 (by decide) ?_
                          refine g_imul F dX5_cloth_271 ?_
                          refine g_bipush (v := 16) F dX5_cloth_272 (by decide) ?_
                          refine g_idiv F dX5_cloth_274 (by decide) ?_
                          refine g_iastN (k := 2) (ws' := ([(q243, .inl (E.2.2, 3, .inl (upd (upd (upd (fun _ => 0) 0 ((((((zRowB pal b car i72 (zRows c pal b car tur i72) i114).2) i72 (12 - i114)) - (pal (zNear pal ((zRowB pal b car i72 (zRows c pal b car tur i72) i114).2 i72 (12 - i114)) b b))) * 7) / 16)) 1 ((((((zRowB pal b car i72 (zRows c pal b car tur i72) i114).2) i72 (12 - i114)) - (pal (zNear pal ((zRowB pal b car i72 (zRows c pal b car tur i72) i114).2 i72 (12 - i114)) b b))) * 3) / 16)) 2 ((((((zRowB pal b car i72 (zRows c pal b car tur i72) i114).2) i72 (12 - i114)) - (pal (zNear pal ((zRowB pal b car i72 (zRows c pal b car tur i72) i114).2 i72 (12 - i114)) b b))) * 5) / 16)))), (q13, qE E 9 r13), (q4, qE E 8 r4), (y, .inr (5, [.ref pa, .int col, .int car, .int tur, .int pre, .ref sa, .int cl, .ref kp, .ref kk, .int ko])), (pa, qE E 8 r), (pp, .inl (E.2.2, b, .inl pal))] ++ (gW E r13 (fun _ => 14) ((zRowB pal b car i72 (zRows c pal b car tur i72) i114).2) 9 ++ (gW E r4 (fun _ => 12) (va_up ((zRowB pal b car i72 (zRows c pal b car tur i72) i114).1) i72 (upd (((zRowB pal b car i72 (zRows c pal b car tur i72) i114).1) i72) (12 - i114 - 1) (nI (zNear pal ((zRowB pal b car i72 (zRows c pal b car tur i72) i114).2 i72 (12 - i114)) b b)))) 8 ++ (gW E r (fun _ => 12) c 8 ++ []))))) F dX5_cloth_275 0 rfl (by omega) (by first | decide | omega) rfl ?_
                          refine g_astore (L' := [(0, .ref y), (1, .ref pp), (2, .ref q4), (3, .ref q13), (4, .int (nI i72)), (5, .int (-1)), (6, .int (nI (12 - i114))), (7, .int (nI (zNear pal ((zRowB pal b car i72 (zRows c pal b car tur i72) i114).2 i72 (12 - i114)) b b))), (8, .int ((((zRowB pal b car i72 (zRows c pal b car tur i72) i114).2) i72 (12 - i114)) - (pal (zNear pal ((zRowB pal b car i72 (zRows c pal b car tur i72) i114).2 i72 (12 - i114)) b b)))), (9, .ref q243)]) F dX5_cloth_276 (by decide) [1, 2, 3, 4, 5, 6, 7, 8, 9, 0] rfl ?_
                          refine g_aload_n F dX5_cloth_278 rfl 3 rfl ?_
                          refine g_iload F dX5_cloth_279 4 rfl ?_
                          refine g_aald (k := i72) F dX5_cloth_281 1 rfl (by omega) (by first | decide | omega) rfl ?_
                          refine g_iload F dX5_cloth_282 6 rfl ?_
                          refine g_iload F dX5_cloth_284 5 rfl ?_
                          refine g_iadd F dX5_cloth_286 ?_
                          refine g_topr (y := nI (11 - i114)) ((add_neg1 _).trans ((pk_sub (b := 1) (by omega)).trans (congrArg nI (by omega)))) ?_
                          refine g_dup2 F dX5_cloth_287 rfl rfl ?_
                          refine g_ialdG0 (y := i72) (k := 11 - i114) F dX5_cloth_288 rfl (by omega) (by show _ < _; first | decide | omega) (by show _ < _; first | decide | omega) ?_
                          refine g_aload F dX5_cloth_289 9 rfl ?_
                          refine g_iconst (v := 0) F dX5_cloth_291 (by decide) ?_
                          refine g_ialdN (k := 0) F dX5_cloth_292 0 rfl (by omega) (by first | decide | omega) ?_
                          refine g_iadd F dX5_cloth_293 ?_
                          refine g_iastG0 (y := i72) (k := 11 - i114) F dX5_cloth_294 rfl (by omega) (by show _ < _; first | decide | omega) (by show _ < _; first | decide | omega) ?_
                          refine g_ws (ws' := ([(q243, .inl (E.2.2, 3, .inl (upd (upd (upd (fun _ => 0) 0 ((((((zRowB pal b car i72 (zRows c pal b car tur i72) i114).2) i72 (12 - i114)) - (pal (zNear pal ((zRowB pal b car i72 (zRows c pal b car tur i72) i114).2 i72 (12 - i114)) b b))) * 7) / 16)) 1 ((((((zRowB pal b car i72 (zRows c pal b car tur i72) i114).2) i72 (12 - i114)) - (pal (zNear pal ((zRowB pal b car i72 (zRows c pal b car tur i72) i114).2 i72 (12 - i114)) b b))) * 3) / 16)) 2 ((((((zRowB pal b car i72 (zRows c pal b car tur i72) i114).2) i72 (12 - i114)) - (pal (zNear pal ((zRowB pal b car i72 (zRows c pal b car tur i72) i114).2 i72 (12 - i114)) b b))) * 5) / 16)))), (q13, qE E 9 r13), (q4, qE E 8 r4), (y, .inr (5, [.ref pa, .int col, .int car, .int tur, .int pre, .ref sa, .int cl, .ref kp, .ref kk, .int ko])), (pa, qE E 8 r), (pp, .inl (E.2.2, b, .inl pal))] ++ (gW E r13 (fun _ => 14) (zAdd ((zRowB pal b car i72 (zRows c pal b car tur i72) i114).2) i72 (11 - i114) ((upd (upd (upd (fun _ => 0) 0 ((((((zRowB pal b car i72 (zRows c pal b car tur i72) i114).2) i72 (12 - i114)) - (pal (zNear pal ((zRowB pal b car i72 (zRows c pal b car tur i72) i114).2 i72 (12 - i114)) b b))) * 7) / 16)) 1 ((((((zRowB pal b car i72 (zRows c pal b car tur i72) i114).2) i72 (12 - i114)) - (pal (zNear pal ((zRowB pal b car i72 (zRows c pal b car tur i72) i114).2 i72 (12 - i114)) b b))) * 3) / 16)) 2 ((((((zRowB pal b car i72 (zRows c pal b car tur i72) i114).2) i72 (12 - i114)) - (pal (zNear pal ((zRowB pal b car i72 (zRows c pal b car tur i72) i114).2 i72 (12 - i114)) b b))) * 5) / 16)) 0)) 9 ++ (gW E r4 (fun _ => 12) (va_up ((zRowB pal b car i72 (zRows c pal b car tur i72) i114).1) i72 (upd (((zRowB pal b car i72 (zRows c pal b car tur i72) i114).1) i72) (12 - i114 - 1) (nI (zNear pal ((zRowB pal b car i72 (zRows c pal b car tur i72) i114).2 i72 (12 - i114)) b b)))) 8 ++ (gW E r (fun _ => 12) c 8 ++ []))))) rfl ?_
                          refine g_aload_n F dX5_cloth_295 rfl 3 rfl ?_
                          refine g_iload F dX5_cloth_296 4 rfl ?_
                          refine g_iconst (v := 1) F dX5_cloth_298 (by decide) ?_
                          refine g_iadd F dX5_cloth_299 ?_
                          refine g_topr (y := nI (i72 + 1)) (nI_1 _) ?_
                          refine g_aald (k := i72 + 1) F dX5_cloth_300 1 rfl (by omega) (by first | decide | omega) rfl ?_
                          refine g_iload F dX5_cloth_301 6 rfl ?_
                          refine g_iload F dX5_cloth_303 5 rfl ?_
                          refine g_isub F dX5_cloth_305 ?_
                          refine g_topr (y := nI (13 - i114)) ((sub_neg1 _).trans ((nI_1 _).trans (congrArg nI (by omega)))) ?_
                          refine g_dup2 F dX5_cloth_306 rfl rfl ?_
                          refine g_ialdG0 (y := i72 + 1) (k := 13 - i114) F dX5_cloth_307 rfl (by omega) (by show _ < _; first | decide | omega) (by show _ < _; first | decide | omega) ?_
                          refine g_aload F dX5_cloth_308 9 rfl ?_
                          refine g_iconst (v := 1) F dX5_cloth_310 (by decide) ?_
                          refine g_ialdN (k := 1) F dX5_cloth_311 0 rfl (by omega) (by first | decide | omega) ?_
                          refine g_iadd F dX5_cloth_312 ?_
                          refine g_iastG0 (y := i72 + 1) (k := 13 - i114) F dX5_cloth_313 rfl (by omega) (by show _ < _; first | decide | omega) (by show _ < _; first | decide | omega) ?_
                          refine g_ws (ws' := ([(q243, .inl (E.2.2, 3, .inl (upd (upd (upd (fun _ => 0) 0 ((((((zRowB pal b car i72 (zRows c pal b car tur i72) i114).2) i72 (12 - i114)) - (pal (zNear pal ((zRowB pal b car i72 (zRows c pal b car tur i72) i114).2 i72 (12 - i114)) b b))) * 7) / 16)) 1 ((((((zRowB pal b car i72 (zRows c pal b car tur i72) i114).2) i72 (12 - i114)) - (pal (zNear pal ((zRowB pal b car i72 (zRows c pal b car tur i72) i114).2 i72 (12 - i114)) b b))) * 3) / 16)) 2 ((((((zRowB pal b car i72 (zRows c pal b car tur i72) i114).2) i72 (12 - i114)) - (pal (zNear pal ((zRowB pal b car i72 (zRows c pal b car tur i72) i114).2 i72 (12 - i114)) b b))) * 5) / 16)))), (q13, qE E 9 r13), (q4, qE E 8 r4), (y, .inr (5, [.ref pa, .int col, .int car, .int tur, .int pre, .ref sa, .int cl, .ref kp, .ref kk, .int ko])), (pa, qE E 8 r), (pp, .inl (E.2.2, b, .inl pal))] ++ (gW E r13 (fun _ => 14) (zAdd (zAdd ((zRowB pal b car i72 (zRows c pal b car tur i72) i114).2) i72 (11 - i114) ((upd (upd (upd (fun _ => 0) 0 ((((((zRowB pal b car i72 (zRows c pal b car tur i72) i114).2) i72 (12 - i114)) - (pal (zNear pal ((zRowB pal b car i72 (zRows c pal b car tur i72) i114).2 i72 (12 - i114)) b b))) * 7) / 16)) 1 ((((((zRowB pal b car i72 (zRows c pal b car tur i72) i114).2) i72 (12 - i114)) - (pal (zNear pal ((zRowB pal b car i72 (zRows c pal b car tur i72) i114).2 i72 (12 - i114)) b b))) * 3) / 16)) 2 ((((((zRowB pal b car i72 (zRows c pal b car tur i72) i114).2) i72 (12 - i114)) - (pal (zNear pal ((zRowB pal b car i72 (zRows c pal b car tur i72) i114).2 i72 (12 - i114)) b b))) * 5) / 16)) 0)) (i72 + 1) (13 - i114) ((upd (upd (upd (fun _ => 0) 0 ((((((zRowB pal b car i72 (zRows c pal b car tur i72) i114).2) i72 (12 - i114)) - (pal (zNear pal ((zRowB pal b car i72 (zRows c pal b car tur i72) i114).2 i72 (12 - i114)) b b))) * 7) / 16)) 1 ((((((zRowB pal b car i72 (zRows c pal b car tur i72) i114).2) i72 (12 - i114)) - (pal (zNear pal ((zRowB pal b car i72 (zRows c pal b car tur i72) i114).2 i72 (12 - i114)) b b))) * 3) / 16)) 2 ((((((zRowB pal b car i72 (zRows c pal b car tur i72) i114).2) i72 (12 - i114)) - (pal (zNear pal ((zRowB pal b car i72 (zRows c pal b car tur i72) i114).2 i72 (12 - i114)) b b))) * 5) / 16)) 1)) 9 ++ (gW E r4 (fun _ => 12) (va_up ((zRowB pal b car i72 (zRows c pal b car tur i72) i114).1) i72 (upd (((zRowB pal b car i72 (zRows c pal b car tur i72) i114).1) i72) (12 - i114 - 1) (nI (zNear pal ((zRowB pal b car i72 (zRows c pal b car tur i72) i114).2 i72 (12 - i114)) b b)))) 8 ++ (gW E r (fun _ => 12) c 8 ++ []))))) rfl ?_
                          refine g_aload_n F dX5_cloth_314 rfl 3 rfl ?_
                          refine g_iload F dX5_cloth_315 4 rfl ?_
                          refine g_iconst (v := 1) F dX5_cloth_317 (by decide) ?_
                          refine g_iadd F dX5_cloth_318 ?_
                          refine g_topr (y := nI (i72 + 1)) (nI_1 _) ?_
                          refine g_aald (k := i72 + 1) F dX5_cloth_319 1 rfl (by omega) (by first | decide | omega) rfl ?_
                          refine g_iload F dX5_cloth_320 6 rfl ?_
                          refine g_dup2 F dX5_cloth_322 rfl rfl ?_
                          refine g_ialdG0 (y := i72 + 1) (k := 12 - i114) F dX5_cloth_323 rfl (by omega) (by show _ < _; first | decide | omega) (by show _ < _; first | decide | omega) ?_
                          refine g_aload F dX5_cloth_324 9 rfl ?_
                          refine g_iconst (v := 2) F dX5_cloth_326 (by decide) ?_
                          refine g_ialdN (k := 2) F dX5_cloth_327 0 rfl (by omega) (by first | decide | omega) ?_
                          refine g_iadd F dX5_cloth_328 ?_
                          refine g_iastG0 (y := i72 + 1) (k := 12 - i114) F dX5_cloth_329 rfl (by omega) (by show _ < _; first | decide | omega) (by show _ < _; first | decide | omega) ?_
                          refine g_ws (ws' := ([(q243, .inl (E.2.2, 3, .inl (upd (upd (upd (fun _ => 0) 0 ((((((zRowB pal b car i72 (zRows c pal b car tur i72) i114).2) i72 (12 - i114)) - (pal (zNear pal ((zRowB pal b car i72 (zRows c pal b car tur i72) i114).2 i72 (12 - i114)) b b))) * 7) / 16)) 1 ((((((zRowB pal b car i72 (zRows c pal b car tur i72) i114).2) i72 (12 - i114)) - (pal (zNear pal ((zRowB pal b car i72 (zRows c pal b car tur i72) i114).2 i72 (12 - i114)) b b))) * 3) / 16)) 2 ((((((zRowB pal b car i72 (zRows c pal b car tur i72) i114).2) i72 (12 - i114)) - (pal (zNear pal ((zRowB pal b car i72 (zRows c pal b car tur i72) i114).2 i72 (12 - i114)) b b))) * 5) / 16)))), (q13, qE E 9 r13), (q4, qE E 8 r4), (y, .inr (5, [.ref pa, .int col, .int car, .int tur, .int pre, .ref sa, .int cl, .ref kp, .ref kk, .int ko])), (pa, qE E 8 r), (pp, .inl (E.2.2, b, .inl pal))] ++ (gW E r13 (fun _ => 14) (zAdd (zAdd (zAdd ((zRowB pal b car i72 (zRows c pal b car tur i72) i114).2) i72 (11 - i114) ((upd (upd (upd (fun _ => 0) 0 ((((((zRowB pal b car i72 (zRows c pal b car tur i72) i114).2) i72 (12 - i114)) - (pal (zNear pal ((zRowB pal b car i72 (zRows c pal b car tur i72) i114).2 i72 (12 - i114)) b b))) * 7) / 16)) 1 ((((((zRowB pal b car i72 (zRows c pal b car tur i72) i114).2) i72 (12 - i114)) - (pal (zNear pal ((zRowB pal b car i72 (zRows c pal b car tur i72) i114).2 i72 (12 - i114)) b b))) * 3) / 16)) 2 ((((((zRowB pal b car i72 (zRows c pal b car tur i72) i114).2) i72 (12 - i114)) - (pal (zNear pal ((zRowB pal b car i72 (zRows c pal b car tur i72) i114).2 i72 (12 - i114)) b b))) * 5) / 16)) 0)) (i72 + 1) (13 - i114) ((upd (upd (upd (fun _ => 0) 0 ((((((zRowB pal b car i72 (zRows c pal b car tur i72) i114).2) i72 (12 - i114)) - (pal (zNear pal ((zRowB pal b car i72 (zRows c pal b car tur i72) i114).2 i72 (12 - i114)) b b))) * 7) / 16)) 1 ((((((zRowB pal b car i72 (zRows c pal b car tur i72) i114).2) i72 (12 - i114)) - (pal (zNear pal ((zRowB pal b car i72 (zRows c pal b car tur i72) i114).2 i72 (12 - i114)) b b))) * 3) / 16)) 2 ((((((zRowB pal b car i72 (zRows c pal b car tur i72) i114).2) i72 (12 - i114)) - (pal (zNear pal ((zRowB pal b car i72 (zRows c pal b car tur i72) i114).2 i72 (12 - i114)) b b))) * 5) / 16)) 1)) (i72 + 1) (12 - i114) ((upd (upd (upd (fun _ => 0) 0 ((((((zRowB pal b car i72 (zRows c pal b car tur i72) i114).2) i72 (12 - i114)) - (pal (zNear pal ((zRowB pal b car i72 (zRows c pal b car tur i72) i114).2 i72 (12 - i114)) b b))) * 7) / 16)) 1 ((((((zRowB pal b car i72 (zRows c pal b car tur i72) i114).2) i72 (12 - i114)) - (pal (zNear pal ((zRowB pal b car i72 (zRows c pal b car tur i72) i114).2 i72 (12 - i114)) b b))) * 3) / 16)) 2 ((((((zRowB pal b car i72 (zRows c pal b car tur i72) i114).2) i72 (12 - i114)) - (pal (zNear pal ((zRowB pal b car i72 (zRows c pal b car tur i72) i114).2 i72 (12 - i114)) b b))) * 5) / 16)) 2)) 9 ++ (gW E r4 (fun _ => 12) (va_up ((zRowB pal b car i72 (zRows c pal b car tur i72) i114).1) i72 (upd (((zRowB pal b car i72 (zRows c pal b car tur i72) i114).1) i72) (12 - i114 - 1) (nI (zNear pal ((zRowB pal b car i72 (zRows c pal b car tur i72) i114).2 i72 (12 - i114)) b b)))) 8 ++ (gW E r (fun _ => 12) c 8 ++ []))))) rfl ?_
                          refine g_aload_n F dX5_cloth_330 rfl 3 rfl ?_
                          refine g_iload F dX5_cloth_331 4 rfl ?_
                          refine g_iconst (v := 1) F dX5_cloth_333 (by decide) ?_
                          refine g_iadd F dX5_cloth_334 ?_
                          refine g_topr (y := nI (i72 + 1)) (nI_1 _) ?_
                          refine g_aald (k := i72 + 1) F dX5_cloth_335 1 rfl (by omega) (by first | decide | omega) rfl ?_
                          refine g_iload F dX5_cloth_336 6 rfl ?_
                          refine g_iload F dX5_cloth_338 5 rfl ?_
                          refine g_iadd F dX5_cloth_340 ?_
                          refine g_topr (y := nI (11 - i114)) ((add_neg1 _).trans ((pk_sub (b := 1) (by omega)).trans (congrArg nI (by omega)))) ?_
                          refine g_dup2 F dX5_cloth_341 rfl rfl ?_
                          refine g_ialdG0 (y := i72 + 1) (k := 11 - i114) F dX5_cloth_342 rfl (by omega) (by show _ < _; first | decide | omega) (by show _ < _; first | decide | omega) ?_
                          refine g_iload F dX5_cloth_343 8 rfl ?_
                          refine g_aload F dX5_cloth_345 9 rfl ?_
                          refine g_iconst (v := 0) F dX5_cloth_347 (by decide) ?_
                          refine g_ialdN (k := 0) F dX5_cloth_348 0 rfl (by omega) (by first | decide | omega) ?_
                          refine g_isub F dX5_cloth_349 ?_
                          refine g_aload F dX5_cloth_350 9 rfl ?_
                          refine g_iconst (v := 1) F dX5_cloth_352 (by decide) ?_
                          refine g_ialdN (k := 1) F dX5_cloth_353 0 rfl (by omega) (by first | decide | omega) ?_
                          refine g_isub F dX5_cloth_354 ?_
                          refine g_aload F dX5_cloth_355 9 rfl ?_
                          refine g_iconst (v := 2) F dX5_cloth_357 (by decide) ?_
                          refine g_ialdN (k := 2) F dX5_cloth_358 0 rfl (by omega) (by first | decide | omega) ?_
                          refine g_isub F dX5_cloth_359 ?_
                          refine g_iadd F dX5_cloth_360 ?_
                          refine g_iastG0 (y := i72 + 1) (k := 11 - i114) F dX5_cloth_361 rfl (by omega) (by show _ < _; first | decide | omega) (by show _ < _; first | decide | omega) ?_
                          refine g_ws (ws' := ([(q243, .inl (E.2.2, 3, .inl (upd (upd (upd (fun _ => 0) 0 ((((((zRowB pal b car i72 (zRows c pal b car tur i72) i114).2) i72 (12 - i114)) - (pal (zNear pal ((zRowB pal b car i72 (zRows c pal b car tur i72) i114).2 i72 (12 - i114)) b b))) * 7) / 16)) 1 ((((((zRowB pal b car i72 (zRows c pal b car tur i72) i114).2) i72 (12 - i114)) - (pal (zNear pal ((zRowB pal b car i72 (zRows c pal b car tur i72) i114).2 i72 (12 - i114)) b b))) * 3) / 16)) 2 ((((((zRowB pal b car i72 (zRows c pal b car tur i72) i114).2) i72 (12 - i114)) - (pal (zNear pal ((zRowB pal b car i72 (zRows c pal b car tur i72) i114).2 i72 (12 - i114)) b b))) * 5) / 16)))), (q13, qE E 9 r13), (q4, qE E 8 r4), (y, .inr (5, [.ref pa, .int col, .int car, .int tur, .int pre, .ref sa, .int cl, .ref kp, .ref kk, .int ko])), (pa, qE E 8 r), (pp, .inl (E.2.2, b, .inl pal))] ++ (gW E r13 (fun _ => 14) (zAdd (zAdd (zAdd (zAdd ((zRowB pal b car i72 (zRows c pal b car tur i72) i114).2) i72 (11 - i114) ((upd (upd (upd (fun _ => 0) 0 ((((((zRowB pal b car i72 (zRows c pal b car tur i72) i114).2) i72 (12 - i114)) - (pal (zNear pal ((zRowB pal b car i72 (zRows c pal b car tur i72) i114).2 i72 (12 - i114)) b b))) * 7) / 16)) 1 ((((((zRowB pal b car i72 (zRows c pal b car tur i72) i114).2) i72 (12 - i114)) - (pal (zNear pal ((zRowB pal b car i72 (zRows c pal b car tur i72) i114).2 i72 (12 - i114)) b b))) * 3) / 16)) 2 ((((((zRowB pal b car i72 (zRows c pal b car tur i72) i114).2) i72 (12 - i114)) - (pal (zNear pal ((zRowB pal b car i72 (zRows c pal b car tur i72) i114).2 i72 (12 - i114)) b b))) * 5) / 16)) 0)) (i72 + 1) (13 - i114) ((upd (upd (upd (fun _ => 0) 0 ((((((zRowB pal b car i72 (zRows c pal b car tur i72) i114).2) i72 (12 - i114)) - (pal (zNear pal ((zRowB pal b car i72 (zRows c pal b car tur i72) i114).2 i72 (12 - i114)) b b))) * 7) / 16)) 1 ((((((zRowB pal b car i72 (zRows c pal b car tur i72) i114).2) i72 (12 - i114)) - (pal (zNear pal ((zRowB pal b car i72 (zRows c pal b car tur i72) i114).2 i72 (12 - i114)) b b))) * 3) / 16)) 2 ((((((zRowB pal b car i72 (zRows c pal b car tur i72) i114).2) i72 (12 - i114)) - (pal (zNear pal ((zRowB pal b car i72 (zRows c pal b car tur i72) i114).2 i72 (12 - i114)) b b))) * 5) / 16)) 1)) (i72 + 1) (12 - i114) ((upd (upd (upd (fun _ => 0) 0 ((((((zRowB pal b car i72 (zRows c pal b car tur i72) i114).2) i72 (12 - i114)) - (pal (zNear pal ((zRowB pal b car i72 (zRows c pal b car tur i72) i114).2 i72 (12 - i114)) b b))) * 7) / 16)) 1 ((((((zRowB pal b car i72 (zRows c pal b car tur i72) i114).2) i72 (12 - i114)) - (pal (zNear pal ((zRowB pal b car i72 (zRows c pal b car tur i72) i114).2 i72 (12 - i114)) b b))) * 3) / 16)) 2 ((((((zRowB pal b car i72 (zRows c pal b car tur i72) i114).2) i72 (12 - i114)) - (pal (zNear pal ((zRowB pal b car i72 (zRows c pal b car tur i72) i114).2 i72 (12 - i114)) b b))) * 5) / 16)) 2)) (i72 + 1) (11 - i114) (((((((zRowB pal b car i72 (zRows c pal b car tur i72) i114).2) i72 (12 - i114)) - (pal (zNear pal ((zRowB pal b car i72 (zRows c pal b car tur i72) i114).2 i72 (12 - i114)) b b))) - ((upd (upd (upd (fun _ => 0) 0 ((((((zRowB pal b car i72 (zRows c pal b car tur i72) i114).2) i72 (12 - i114)) - (pal (zNear pal ((zRowB pal b car i72 (zRows c pal b car tur i72) i114).2 i72 (12 - i114)) b b))) * 7) / 16)) 1 ((((((zRowB pal b car i72 (zRows c pal b car tur i72) i114).2) i72 (12 - i114)) - (pal (zNear pal ((zRowB pal b car i72 (zRows c pal b car tur i72) i114).2 i72 (12 - i114)) b b))) * 3) / 16)) 2 ((((((zRowB pal b car i72 (zRows c pal b car tur i72) i114).2) i72 (12 - i114)) - (pal (zNear pal ((zRowB pal b car i72 (zRows c pal b car tur i72) i114).2 i72 (12 - i114)) b b))) * 5) / 16)) 0)) - ((upd (upd (upd (fun _ => 0) 0 ((((((zRowB pal b car i72 (zRows c pal b car tur i72) i114).2) i72 (12 - i114)) - (pal (zNear pal ((zRowB pal b car i72 (zRows c pal b car tur i72) i114).2 i72 (12 - i114)) b b))) * 7) / 16)) 1 ((((((zRowB pal b car i72 (zRows c pal b car tur i72) i114).2) i72 (12 - i114)) - (pal (zNear pal ((zRowB pal b car i72 (zRows c pal b car tur i72) i114).2 i72 (12 - i114)) b b))) * 3) / 16)) 2 ((((((zRowB pal b car i72 (zRows c pal b car tur i72) i114).2) i72 (12 - i114)) - (pal (zNear pal ((zRowB pal b car i72 (zRows c pal b car tur i72) i114).2 i72 (12 - i114)) b b))) * 5) / 16)) 1)) - ((upd (upd (upd (fun _ => 0) 0 ((((((zRowB pal b car i72 (zRows c pal b car tur i72) i114).2) i72 (12 - i114)) - (pal (zNear pal ((zRowB pal b car i72 (zRows c pal b car tur i72) i114).2 i72 (12 - i114)) b b))) * 7) / 16)) 1 ((((((zRowB pal b car i72 (zRows c pal b car tur i72) i114).2) i72 (12 - i114)) - (pal (zNear pal ((zRowB pal b car i72 (zRows c pal b car tur i72) i114).2 i72 (12 - i114)) b b))) * 3) / 16)) 2 ((((((zRowB pal b car i72 (zRows c pal b car tur i72) i114).2) i72 (12 - i114)) - (pal (zNear pal ((zRowB pal b car i72 (zRows c pal b car tur i72) i114).2 i72 (12 - i114)) b b))) * 5) / 16)) 2))) 9 ++ (gW E r4 (fun _ => 12) (va_up ((zRowB pal b car i72 (zRows c pal b car tur i72) i114).1) i72 (upd (((zRowB pal b car i72 (zRows c pal b car tur i72) i114).1) i72) (12 - i114 - 1) (nI (zNear pal ((zRowB pal b car i72 (zRows c pal b car tur i72) i114).2 i72 (12 - i114)) b b)))) 8 ++ (gW E r (fun _ => 12) c 8 ++ []))))) rfl ?_
                          refine g_perm (ws' := ([(q13, qE E 9 r13), (q4, qE E 8 r4), (y, .inr (5, [.ref pa, .int col, .int car, .int tur, .int pre, .ref sa, .int cl, .ref kp, .ref kk, .int ko])), (pa, qE E 8 r), (pp, .inl (E.2.2, b, .inl pal))] ++ (gW E r13 (fun _ => 14) (zAdd (zAdd (zAdd (zAdd ((zRowB pal b car i72 (zRows c pal b car tur i72) i114).2) i72 (11 - i114) ((upd (upd (upd (fun _ => 0) 0 ((((((zRowB pal b car i72 (zRows c pal b car tur i72) i114).2) i72 (12 - i114)) - (pal (zNear pal ((zRowB pal b car i72 (zRows c pal b car tur i72) i114).2 i72 (12 - i114)) b b))) * 7) / 16)) 1 ((((((zRowB pal b car i72 (zRows c pal b car tur i72) i114).2) i72 (12 - i114)) - (pal (zNear pal ((zRowB pal b car i72 (zRows c pal b car tur i72) i114).2 i72 (12 - i114)) b b))) * 3) / 16)) 2 ((((((zRowB pal b car i72 (zRows c pal b car tur i72) i114).2) i72 (12 - i114)) - (pal (zNear pal ((zRowB pal b car i72 (zRows c pal b car tur i72) i114).2 i72 (12 - i114)) b b))) * 5) / 16)) 0)) (i72 + 1) (13 - i114) ((upd (upd (upd (fun _ => 0) 0 ((((((zRowB pal b car i72 (zRows c pal b car tur i72) i114).2) i72 (12 - i114)) - (pal (zNear pal ((zRowB pal b car i72 (zRows c pal b car tur i72) i114).2 i72 (12 - i114)) b b))) * 7) / 16)) 1 ((((((zRowB pal b car i72 (zRows c pal b car tur i72) i114).2) i72 (12 - i114)) - (pal (zNear pal ((zRowB pal b car i72 (zRows c pal b car tur i72) i114).2 i72 (12 - i114)) b b))) * 3) / 16)) 2 ((((((zRowB pal b car i72 (zRows c pal b car tur i72) i114).2) i72 (12 - i114)) - (pal (zNear pal ((zRowB pal b car i72 (zRows c pal b car tur i72) i114).2 i72 (12 - i114)) b b))) * 5) / 16)) 1)) (i72 + 1) (12 - i114) ((upd (upd (upd (fun _ => 0) 0 ((((((zRowB pal b car i72 (zRows c pal b car tur i72) i114).2) i72 (12 - i114)) - (pal (zNear pal ((zRowB pal b car i72 (zRows c pal b car tur i72) i114).2 i72 (12 - i114)) b b))) * 7) / 16)) 1 ((((((zRowB pal b car i72 (zRows c pal b car tur i72) i114).2) i72 (12 - i114)) - (pal (zNear pal ((zRowB pal b car i72 (zRows c pal b car tur i72) i114).2 i72 (12 - i114)) b b))) * 3) / 16)) 2 ((((((zRowB pal b car i72 (zRows c pal b car tur i72) i114).2) i72 (12 - i114)) - (pal (zNear pal ((zRowB pal b car i72 (zRows c pal b car tur i72) i114).2 i72 (12 - i114)) b b))) * 5) / 16)) 2)) (i72 + 1) (11 - i114) (((((((zRowB pal b car i72 (zRows c pal b car tur i72) i114).2) i72 (12 - i114)) - (pal (zNear pal ((zRowB pal b car i72 (zRows c pal b car tur i72) i114).2 i72 (12 - i114)) b b))) - ((upd (upd (upd (fun _ => 0) 0 ((((((zRowB pal b car i72 (zRows c pal b car tur i72) i114).2) i72 (12 - i114)) - (pal (zNear pal ((zRowB pal b car i72 (zRows c pal b car tur i72) i114).2 i72 (12 - i114)) b b))) * 7) / 16)) 1 ((((((zRowB pal b car i72 (zRows c pal b car tur i72) i114).2) i72 (12 - i114)) - (pal (zNear pal ((zRowB pal b car i72 (zRows c pal b car tur i72) i114).2 i72 (12 - i114)) b b))) * 3) / 16)) 2 ((((((zRowB pal b car i72 (zRows c pal b car tur i72) i114).2) i72 (12 - i114)) - (pal (zNear pal ((zRowB pal b car i72 (zRows c pal b car tur i72) i114).2 i72 (12 - i114)) b b))) * 5) / 16)) 0)) - ((upd (upd (upd (fun _ => 0) 0 ((((((zRowB pal b car i72 (zRows c pal b car tur i72) i114).2) i72 (12 - i114)) - (pal (zNear pal ((zRowB pal b car i72 (zRows c pal b car tur i72) i114).2 i72 (12 - i114)) b b))) * 7) / 16)) 1 ((((((zRowB pal b car i72 (zRows c pal b car tur i72) i114).2) i72 (12 - i114)) - (pal (zNear pal ((zRowB pal b car i72 (zRows c pal b car tur i72) i114).2 i72 (12 - i114)) b b))) * 3) / 16)) 2 ((((((zRowB pal b car i72 (zRows c pal b car tur i72) i114).2) i72 (12 - i114)) - (pal (zNear pal ((zRowB pal b car i72 (zRows c pal b car tur i72) i114).2 i72 (12 - i114)) b b))) * 5) / 16)) 1)) - ((upd (upd (upd (fun _ => 0) 0 ((((((zRowB pal b car i72 (zRows c pal b car tur i72) i114).2) i72 (12 - i114)) - (pal (zNear pal ((zRowB pal b car i72 (zRows c pal b car tur i72) i114).2 i72 (12 - i114)) b b))) * 7) / 16)) 1 ((((((zRowB pal b car i72 (zRows c pal b car tur i72) i114).2) i72 (12 - i114)) - (pal (zNear pal ((zRowB pal b car i72 (zRows c pal b car tur i72) i114).2 i72 (12 - i114)) b b))) * 3) / 16)) 2 ((((((zRowB pal b car i72 (zRows c pal b car tur i72) i114).2) i72 (12 - i114)) - (pal (zNear pal ((zRowB pal b car i72 (zRows c pal b car tur i72) i114).2 i72 (12 - i114)) b b))) * 5) / 16)) 2))) 9 ++ (gW E r4 (fun _ => 12) (va_up ((zRowB pal b car i72 (zRows c pal b car tur i72) i114).1) i72 (upd (((zRowB pal b car i72 (zRows c pal b car tur i72) i114).1) i72) (12 - i114 - 1) (nI (zNear pal ((zRowB pal b car i72 (zRows c pal b car tur i72) i114).2 i72 (12 - i114)) b b)))) 8 ++ (gW E r (fun _ => 12) c 8 ++ [])))) ++ ([(q243, .inl (E.2.2, 3, .inl (upd (upd (upd (fun _ => 0) 0 ((((((zRowB pal b car i72 (zRows c pal b car tur i72) i114).2) i72 (12 - i114)) - (pal (zNear pal ((zRowB pal b car i72 (zRows c pal b car tur i72) i114).2 i72 (12 - i114)) b b))) * 7) / 16)) 1 ((((((zRowB pal b car i72 (zRows c pal b car tur i72) i114).2) i72 (12 - i114)) - (pal (zNear pal ((zRowB pal b car i72 (zRows c pal b car tur i72) i114).2 i72 (12 - i114)) b b))) * 3) / 16)) 2 ((((((zRowB pal b car i72 (zRows c pal b car tur i72) i114).2) i72 (12 - i114)) - (pal (zNear pal ((zRowB pal b car i72 (zRows c pal b car tur i72) i114).2 i72 (12 - i114)) b b))) * 5) / 16))))] ++ [])) (ps4 (pmc (A := [_, _, _, _, _]) (pmc (A := []) (pmc (A := []) (pmc (A := []) (pmc (A := []) (pmc (A := []) (List.Perm.nil))))))) (by simp only [List.append_assoc, List.nil_append, List.append_nil]; exact List.Perm.refl _)) (g_drop ?_)
                          refine g_iload F dX5_cloth_362 6 rfl ?_
                          refine g_iload F dX5_cloth_364 5 rfl ?_
                          refine g_iadd F dX5_cloth_366 ?_
                          refine g_topr (y := nI (12 - (i114 + 1))) ((add_neg1 _).trans ((pk_sub (b := 1) (by omega)).trans (congrArg nI (by omega)))) ?_
                          refine g_istore (L' := [(0, .ref y), (1, .ref pp), (2, .ref q4), (3, .ref q13), (4, .int (nI i72)), (5, .int (-1)), (6, .int (nI (12 - (i114 + 1)))), (7, .int (nI (zNear pal ((zRowB pal b car i72 (zRows c pal b car tur i72) i114).2 i72 (12 - i114)) b b))), (8, .int ((((zRowB pal b car i72 (zRows c pal b car tur i72) i114).2) i72 (12 - i114)) - (pal (zNear pal ((zRowB pal b car i72 (zRows c pal b car tur i72) i114).2 i72 (12 - i114)) b b)))), (9, .ref q243)]) F dX5_cloth_367 (by decide) [1, 2, 3, 4, 5, 6, 0, 7, 8, 9] rfl ?_
                          refine g_goto (tgt := 114) F dX5_cloth_369 (by decide) ?_
                          refine g_lv (L' := [(0, .ref y), (1, .ref pp), (2, .ref q4), (3, .ref q13), (4, .int (nI i72)), (5, .int (-1)), (6, .int (nI (12 - (i114 + 1))))]) [0, 1, 2, 3, 4, 5, 6] rfl ?_
                          refine g_cs (cells' := (0 + 1 + 8 + 1 + 9 + i72 * 12 + (i114 + 1))) (slots' := (0 + 8 + 8 * 12 + 9 + 9 * 14 + i72 * 36 + (i114 + 1) * 3)) (by show 0 + 1 + 8 + 1 + 9 + i72 * 12 + i114 + 1 ≤ 0 + 1 + 8 + 1 + 9 + i72 * 12 + (i114 + 1); omega) (by show 0 + 8 + 8 * 12 + 9 + 9 * 14 + i72 * 36 + i114 * 3 + 3 ≤ 0 + 8 + 8 * 12 + 9 + 9 * 14 + i72 * 36 + (i114 + 1) * 3; omega) ?_
                          have q := ih114 (i114 + 1) (by omega)
                          simp only [zRowB, zCell1] at q
                          first
                            | (rw [zG1 (Classical.not_not.mp k213)] at q)
                            | (rw [zG2 k213 k236] at q)
                            | (rw [zG0 k213 k236] at q)
                          exact q
                        · skip
                          refine g_goto (tgt := 362) F dX5_cloth_239 (by decide) ?_
                          refine g_iload F dX5_cloth_362 6 rfl ?_
                          refine g_iload F dX5_cloth_364 5 rfl ?_
                          refine g_iadd F dX5_cloth_366 ?_
                          refine g_topr (y := nI (12 - (i114 + 1))) ((add_neg1 _).trans ((pk_sub (b := 1) (by omega)).trans (congrArg nI (by omega)))) ?_
                          refine g_istore (L' := [(0, .ref y), (1, .ref pp), (2, .ref q4), (3, .ref q13), (4, .int (nI i72)), (5, .int (-1)), (6, .int (nI (12 - (i114 + 1)))), (7, .int (nI (zNear pal ((zRowB pal b car i72 (zRows c pal b car tur i72) i114).2 i72 (12 - i114)) b b))), (8, .int ((((zRowB pal b car i72 (zRows c pal b car tur i72) i114).2) i72 (12 - i114)) - (pal (zNear pal ((zRowB pal b car i72 (zRows c pal b car tur i72) i114).2 i72 (12 - i114)) b b))))]) F dX5_cloth_367 (by decide) [1, 2, 3, 4, 5, 6, 0, 7, 8] rfl ?_
                          refine g_goto (tgt := 114) F dX5_cloth_369 (by decide) ?_
                          refine g_lv (L' := [(0, .ref y), (1, .ref pp), (2, .ref q4), (3, .ref q13), (4, .int (nI i72)), (5, .int (-1)), (6, .int (nI (12 - (i114 + 1))))]) [0, 1, 2, 3, 4, 5, 6] rfl ?_
                          refine g_cs (cells' := (0 + 1 + 8 + 1 + 9 + i72 * 12 + (i114 + 1))) (slots' := (0 + 8 + 8 * 12 + 9 + 9 * 14 + i72 * 36 + (i114 + 1) * 3)) (by show 0 + 1 + 8 + 1 + 9 + i72 * 12 + i114 ≤ 0 + 1 + 8 + 1 + 9 + i72 * 12 + (i114 + 1); omega) (by show 0 + 8 + 8 * 12 + 9 + 9 * 14 + i72 * 36 + i114 * 3 ≤ 0 + 8 + 8 * 12 + 9 + 9 * 14 + i72 * 36 + (i114 + 1) * 3; omega) ?_
                          have q := ih114 (i114 + 1) (by omega)
                          simp only [zRowB, zCell1] at q
                          first
                            | (rw [zG1 (Classical.not_not.mp k213)] at q)
                            | (rw [zG2 k213 k236] at q)
                            | (rw [zG0 k213 k236] at q)
                          exact q
                      · skip
                        refine g_aload_n F dX5_cloth_216 rfl 3 rfl ?_
                        refine g_iload F dX5_cloth_217 4 rfl ?_
                        refine g_aald (k := i72) F dX5_cloth_219 0 rfl (by omega) (by first | decide | omega) rfl ?_
                        refine g_iload F dX5_cloth_220 6 rfl ?_
                        refine g_iload F dX5_cloth_222 5 rfl ?_
                        refine g_iadd F dX5_cloth_224 ?_
                        refine g_topr (y := nI (11 - i114)) ((add_neg1 _).trans ((pk_sub (b := 1) (by omega)).trans (congrArg nI (by omega)))) ?_
                        refine g_dup2 F dX5_cloth_225 rfl rfl ?_
                        refine g_ialdG0 (y := i72) (k := 11 - i114) F dX5_cloth_226 rfl (by omega) (by show _ < _; first | decide | omega) (by show _ < _; first | decide | omega) ?_
                        refine g_iload F dX5_cloth_227 8 rfl ?_
                        refine g_iadd F dX5_cloth_229 ?_
                        refine g_iastG0 (y := i72) (k := 11 - i114) F dX5_cloth_230 rfl (by omega) (by show _ < _; first | decide | omega) (by show _ < _; first | decide | omega) ?_
                        refine g_ws (ws' := ([(q13, qE E 9 r13), (q4, qE E 8 r4), (y, .inr (5, [.ref pa, .int col, .int car, .int tur, .int pre, .ref sa, .int cl, .ref kp, .ref kk, .int ko])), (pa, qE E 8 r), (pp, .inl (E.2.2, b, .inl pal))] ++ (gW E r13 (fun _ => 14) (zAdd ((zRowB pal b car i72 (zRows c pal b car tur i72) i114).2) i72 (11 - i114) ((((zRowB pal b car i72 (zRows c pal b car tur i72) i114).2) i72 (12 - i114)) - (pal (zNear pal ((zRowB pal b car i72 (zRows c pal b car tur i72) i114).2 i72 (12 - i114)) b b)))) 9 ++ (gW E r4 (fun _ => 12) (va_up ((zRowB pal b car i72 (zRows c pal b car tur i72) i114).1) i72 (upd (((zRowB pal b car i72 (zRows c pal b car tur i72) i114).1) i72) (12 - i114 - 1) (nI (zNear pal ((zRowB pal b car i72 (zRows c pal b car tur i72) i114).2 i72 (12 - i114)) b b)))) 8 ++ (gW E r (fun _ => 12) c 8 ++ []))))) rfl ?_
                        refine g_aload_n F dX5_cloth_231 rfl 0 rfl ?_
                        refine g_get F dX5_cloth_232 2 rfl rfl i5 2 (by decide) rfl (List.mem_of_getElem? (i := 9) rfl) ?_
                        refine g_iconst (v := 2) F dX5_cloth_235 (by decide) ?_
                        refine g_icmp_eq_f (tgt := 242) F dX5_cloth_236 (by decide) (fun h => absurd ((Classical.not_not.mp k213).symm.trans h) (by decide)) ?_
                        refine g_goto (tgt := 362) F dX5_cloth_239 (by decide) ?_
                        refine g_iload F dX5_cloth_362 6 rfl ?_
                        refine g_iload F dX5_cloth_364 5 rfl ?_
                        refine g_iadd F dX5_cloth_366 ?_
                        refine g_topr (y := nI (12 - (i114 + 1))) ((add_neg1 _).trans ((pk_sub (b := 1) (by omega)).trans (congrArg nI (by omega)))) ?_
                        refine g_istore (L' := [(0, .ref y), (1, .ref pp), (2, .ref q4), (3, .ref q13), (4, .int (nI i72)), (5, .int (-1)), (6, .int (nI (12 - (i114 + 1)))), (7, .int (nI (zNear pal ((zRowB pal b car i72 (zRows c pal b car tur i72) i114).2 i72 (12 - i114)) b b))), (8, .int ((((zRowB pal b car i72 (zRows c pal b car tur i72) i114).2) i72 (12 - i114)) - (pal (zNear pal ((zRowB pal b car i72 (zRows c pal b car tur i72) i114).2 i72 (12 - i114)) b b))))]) F dX5_cloth_367 (by decide) [1, 2, 3, 4, 5, 6, 0, 7, 8] rfl ?_
                        refine g_goto (tgt := 114) F dX5_cloth_369 (by decide) ?_
                        refine g_lv (L' := [(0, .ref y), (1, .ref pp), (2, .ref q4), (3, .ref q13), (4, .int (nI i72)), (5, .int (-1)), (6, .int (nI (12 - (i114 + 1))))]) [0, 1, 2, 3, 4, 5, 6] rfl ?_
                        refine g_cs (cells' := (0 + 1 + 8 + 1 + 9 + i72 * 12 + (i114 + 1))) (slots' := (0 + 8 + 8 * 12 + 9 + 9 * 14 + i72 * 36 + (i114 + 1) * 3)) (by show 0 + 1 + 8 + 1 + 9 + i72 * 12 + i114 ≤ 0 + 1 + 8 + 1 + 9 + i72 * 12 + (i114 + 1); omega) (by show 0 + 8 + 8 * 12 + 9 + 9 * 14 + i72 * 36 + i114 * 3 ≤ 0 + 8 + 8 * 12 + 9 + 9 * 14 + i72 * 36 + (i114 + 1) * 3; omega) ?_
                        have q := ih114 (i114 + 1) (by omega)
                        simp only [zRowB, zCell1] at q
                        first
                          | (rw [zG1 (Classical.not_not.mp k213)] at q)
                          | (rw [zG2 k213 k236] at q)
                          | (rw [zG0 k213 k236] at q)
                        exact q
                    | succ n135 ih135 =>
                      intro i135 hi135
                      have hl135 : i135 < b := by omega
                      refine g_iload F dX5_cloth_135 8 rfl ?_
                      refine g_if_lt_f (tgt := 183) F dX5_cloth_137 (by decide) (by rw [nI_dn hl135]; exact nI_pos (by omega)) ?_
                      rw [nI_dn hl135]
                      refine g_aload_n F dX5_cloth_140 rfl 3 rfl ?_
                      refine g_iload F dX5_cloth_141 4 rfl ?_
                      refine g_aald (k := i72) F dX5_cloth_143 0 rfl (by omega) (by first | decide | omega) rfl ?_
                      refine g_iload F dX5_cloth_144 6 rfl ?_
                      refine g_ialdG0 (y := i72) (k := 12 - i114) F dX5_cloth_146 rfl (by omega) (by show _ < _; first | decide | omega) (by show _ < _; first | decide | omega) ?_
                      refine g_aload_n F dX5_cloth_147 rfl 1 rfl ?_
                      refine g_iload F dX5_cloth_148 8 rfl ?_
                      refine g_ialdN (k := b - i135 - 1) F dX5_cloth_150 4 rfl (by omega) (by first | decide | omega) ?_
                      refine g_isub F dX5_cloth_151 ?_
                      refine g_abs F dX5_cloth_152 (List.mem_of_getElem? (i := 5) rfl) (List.mem_of_getElem? (i := 6) rfl) (List.mem_of_getElem? (i := 7) rfl) (List.mem_of_getElem? (i := 8) rfl) (by decide) (Nat.le_of_ble_eq_true rfl) (by show 0 + 1 + 8 + 1 + 9 + i72 * 12 + i114 ≤ 115; omega) (by show 0 + 8 + 8 * 12 + 9 + 9 * 14 + i72 * 36 + i114 * 3 ≤ 527; omega) ?_
                      refine g_aload_n F dX5_cloth_155 rfl 3 rfl ?_
                      refine g_iload F dX5_cloth_156 4 rfl ?_
                      refine g_aald (k := i72) F dX5_cloth_158 0 rfl (by omega) (by first | decide | omega) rfl ?_
                      refine g_iload F dX5_cloth_159 6 rfl ?_
                      refine g_ialdG0 (y := i72) (k := 12 - i114) F dX5_cloth_161 rfl (by omega) (by show _ < _; first | decide | omega) (by show _ < _; first | decide | omega) ?_
                      refine g_aload_n F dX5_cloth_162 rfl 1 rfl ?_
                      refine g_iload F dX5_cloth_163 7 rfl ?_
                      refine g_ialdN (k := zNear pal ((zRowB pal b car i72 (zRows c pal b car tur i72) i114).2 i72 (12 - i114)) b i135) F dX5_cloth_165 4 rfl (zNear_lt pal _ hb0 _) (by first | decide | omega) ?_
                      refine g_isub F dX5_cloth_166 ?_
                      refine g_abs F dX5_cloth_167 (List.mem_of_getElem? (i := 5) rfl) (List.mem_of_getElem? (i := 6) rfl) (List.mem_of_getElem? (i := 7) rfl) (List.mem_of_getElem? (i := 8) rfl) (by decide) (Nat.le_of_ble_eq_true rfl) (by show 0 + 1 + 8 + 1 + 9 + i72 * 12 + i114 ≤ 115; omega) (by show 0 + 8 + 8 * 12 + 9 + 9 * 14 + i72 * 36 + i114 * 3 ≤ 527; omega) ?_
                      refine g_icmp_gt (tgt := 177) F dX5_cloth_170 (by decide) (fun k170 => ?_) (fun k170 => ?_)
                      · skip
                        refine g_iinc (L' := [(0, .ref y), (1, .ref pp), (2, .ref q4), (3, .ref q13), (4, .int (nI i72)), (5, .int (-1)), (6, .int (nI (12 - i114))), (7, .int (nI (zNear pal ((zRowB pal b car i72 (zRows c pal b car tur i72) i114).2 i72 (12 - i114)) b i135))), (8, .int (nI (b - (i135 + 1)) - 1))]) (v := nI (b - (i135 + 1)) - 1) F dX5_cloth_177 8 rfl ((add_neg1 _).trans (by rw [Nat.sub_sub])) (by decide) [1, 2, 3, 4, 5, 6, 7, 8, 0] rfl ?_
                        refine g_goto (tgt := 135) F dX5_cloth_180 (by decide) ?_
                        have q := ih135 (i135 + 1) (by omega)
                        simp only [zNear] at q
                        first
                          | rw [if_pos (Int32.not_lt.mp k170)] at q
                          | rw [if_neg (Int32.not_le.mpr k170)] at q
                        exact q
                      · skip
                        refine g_iload F dX5_cloth_173 8 rfl ?_
                        refine g_istore (L' := [(0, .ref y), (1, .ref pp), (2, .ref q4), (3, .ref q13), (4, .int (nI i72)), (5, .int (-1)), (6, .int (nI (12 - i114))), (7, .int (nI (b - i135 - 1))), (8, .int (nI (b - i135 - 1)))]) F dX5_cloth_175 (by decide) [1, 2, 3, 4, 5, 6, 7, 0, 8] rfl ?_
                        refine g_iinc (L' := [(0, .ref y), (1, .ref pp), (2, .ref q4), (3, .ref q13), (4, .int (nI i72)), (5, .int (-1)), (6, .int (nI (12 - i114))), (7, .int (nI (b - i135 - 1))), (8, .int (nI (b - (i135 + 1)) - 1))]) (v := nI (b - (i135 + 1)) - 1) F dX5_cloth_177 8 rfl ((add_neg1 _).trans (by rw [Nat.sub_sub])) (by decide) [1, 2, 3, 4, 5, 6, 7, 8, 0] rfl ?_
                        refine g_goto (tgt := 135) F dX5_cloth_180 (by decide) ?_
                        have q := ih135 (i135 + 1) (by omega)
                        simp only [zNear] at q
                        first
                          | rw [if_pos (Int32.not_lt.mp k170)] at q
                          | rw [if_neg (Int32.not_le.mpr k170)] at q
                        exact q
                  exact lp135 b 0 (by omega)
              refine g_cs (cells' := (0 + 1 + 8 + 1 + 9 + i72 * 12 + 0)) (slots' := (0 + 8 + 8 * 12 + 9 + 9 * 14 + i72 * 36 + 0 * 3)) (by show 0 + 1 + 8 + 1 + 9 + i72 * 12 ≤ 0 + 1 + 8 + 1 + 9 + i72 * 12 + 0; omega) (by show 0 + 8 + 8 * 12 + 9 + 9 * 14 + i72 * 36 ≤ 0 + 8 + 8 * 12 + 9 + 9 * 14 + i72 * 36 + 0 * 3; omega) ?_
              exact lp114 12 0 (by omega)
      refine g_cs (cells' := (0 + 1 + 8 + 1 + 9 + 0 * 12)) (slots' := (0 + 8 + 8 * 12 + 9 + 9 * 14 + 0 * 36)) (by show 0 + 1 + 8 + 1 + 9 ≤ 0 + 1 + 8 + 1 + 9 + 0 * 12; omega) (by show 0 + 8 + 8 * 12 + 9 + 9 * 14 ≤ 0 + 8 + 8 * 12 + 9 + 9 * 14 + 0 * 36; omega) ?_
      exact lp72 8 0 (by omega)
    | succ n21 ih21 =>
      intro i21 hi21
      have hl21 : i21 < 8 := by omega
      refine g_iload F dX5_cloth_21 4 rfl ?_
      refine g_bipush (v := 8) F dX5_cloth_23 (by decide) ?_
      refine g_icmp_ge_f (tgt := 69) F dX5_cloth_25 (by decide) (nle_nI (n := 8) hl21 (by omega)) ?_
      refine g_iconst (v := 0) F dX5_cloth_28 (by decide) ?_
      refine g_istore (L' := [(0, .ref y), (1, .ref pp), (2, .ref q4), (3, .ref q13), (4, .int (nI i21)), (5, .int 0)]) F dX5_cloth_29 (by decide) [1, 2, 3, 4, 5, 0] rfl ?_
      have lp31 : ∀ (n31 i31 : Nat), i31 + n31 = 12 → G E X (0 + 1 + 8 + 1 + 9) (0 + 8 + 8 * 12 + 9 + 9 * 14) 31 [(0, .ref y), (1, .ref pp), (2, .ref q4), (3, .ref q13), (4, .int (nI i21)), (5, .int (nI i31))] [] ([(q13, qE E 9 r13), (q4, qE E 8 r4), (y, .inr (5, [.ref pa, .int col, .int car, .int tur, .int pre, .ref sa, .int cl, .ref kp, .ref kk, .int ko])), (pa, qE E 8 r), (pp, .inl (E.2.2, b, .inl pal))] ++ (gW E r13 (fun _ => 14) (zIniX c i21 (zIni c i21) i31) 9 ++ (gW E r4 (fun _ => 12) (fun _ _ => 0) 8 ++ (gW E r (fun _ => 12) c 8 ++ [])))) := by
        intro n31
        induction n31 with
        | zero =>
          intro i31 hi31
          have he31 : i31 = 12 := by omega
          rw [he31]
          refine g_iload F dX5_cloth_31 5 rfl ?_
          refine g_bipush (v := 12) F dX5_cloth_33 (by decide) ?_
          refine g_icmp_ge_t (tgt := 63) F dX5_cloth_35 (by decide) (by decide) ?_
          refine g_iinc (L' := [(0, .ref y), (1, .ref pp), (2, .ref q4), (3, .ref q13), (4, .int (nI (i21 + 1))), (5, .int (nI 12))]) (v := nI (i21 + 1)) F dX5_cloth_63 4 rfl (nI_1 _) (by decide) [1, 2, 3, 4, 0, 5] rfl ?_
          refine g_goto (tgt := 21) F dX5_cloth_66 (by decide) ?_
          refine g_lv (L' := [(0, .ref y), (1, .ref pp), (2, .ref q4), (3, .ref q13), (4, .int (nI (i21 + 1)))]) [0, 1, 2, 3, 4] rfl ?_
          exact ih21 (i21 + 1) (by omega)
        | succ n31 ih31 =>
          intro i31 hi31
          have hl31 : i31 < 12 := by omega
          refine g_iload F dX5_cloth_31 5 rfl ?_
          refine g_bipush (v := 12) F dX5_cloth_33 (by decide) ?_
          refine g_icmp_ge_f (tgt := 63) F dX5_cloth_35 (by decide) (nle_nI (n := 12) hl31 (by omega)) ?_
          refine g_aload_n F dX5_cloth_38 rfl 3 rfl ?_
          refine g_iload F dX5_cloth_39 4 rfl ?_
          refine g_aald (k := i21) F dX5_cloth_41 0 rfl (by omega) (by first | decide | omega) rfl ?_
          refine g_iload F dX5_cloth_42 5 rfl ?_
          refine g_iconst (v := 1) F dX5_cloth_44 (by decide) ?_
          refine g_iadd F dX5_cloth_45 ?_
          refine g_topr (y := nI (i31 + 1)) (nI_1 _) ?_
          refine g_aload_n F dX5_cloth_46 rfl 0 rfl ?_
          refine g_get F dX5_cloth_47 2 rfl rfl i5 0 (by decide) rfl (List.mem_of_getElem? (i := 3) rfl) ?_
          refine g_iload F dX5_cloth_50 4 rfl ?_
          refine g_aald (k := i21) F dX5_cloth_52 3 rfl (by omega) (by first | decide | omega) rfl ?_
          refine g_iload F dX5_cloth_53 5 rfl ?_
          refine g_ialdG2 (y := i21) (k := i31) F dX5_cloth_55 rfl (by omega) (by show _ < _; first | decide | omega) (by show _ < _; first | decide | omega) ?_
          refine g_iastG0 (y := i21) (k := i31 + 1) F dX5_cloth_56 rfl (by omega) (by show _ < _; first | decide | omega) (by show _ < _; first | decide | omega) ?_
          refine g_ws (ws' := ([(q13, qE E 9 r13), (q4, qE E 8 r4), (y, .inr (5, [.ref pa, .int col, .int car, .int tur, .int pre, .ref sa, .int cl, .ref kp, .ref kk, .int ko])), (pa, qE E 8 r), (pp, .inl (E.2.2, b, .inl pal))] ++ (gW E r13 (fun _ => 14) (va_up (zIniX c i21 (zIni c i21) i31) i21 (upd ((zIniX c i21 (zIni c i21) i31) i21) (i31 + 1) (c i21 i31))) 9 ++ (gW E r4 (fun _ => 12) (fun _ _ => 0) 8 ++ (gW E r (fun _ => 12) c 8 ++ []))))) rfl ?_
          refine g_iinc (L' := [(0, .ref y), (1, .ref pp), (2, .ref q4), (3, .ref q13), (4, .int (nI i21)), (5, .int (nI (i31 + 1)))]) (v := nI (i31 + 1)) F dX5_cloth_57 5 rfl (nI_1 _) (by decide) [1, 2, 3, 4, 5, 0] rfl ?_
          refine g_goto (tgt := 31) F dX5_cloth_60 (by decide) ?_
          exact ih31 (i31 + 1) (by omega)
      exact lp31 12 0 (by omega)
  exact lp21 8 0 (by omega)
end SIMB
