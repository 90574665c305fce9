/-! Sim: weaving; a new one -/
section SIMD
theorem zFit_q (so : AF) : ∀ (n q : Nat) (e : Nat → Nat), q ≤ (zFit so n q e).2 ∧ (zFit so n q e).2 ≤ q + n
  | 0, q, e => ⟨Nat.le_refl _, Nat.le_refl _⟩
  | n + 1, q, e => by
    rw [zFit]
    split
    · have := zFit_q so n (q + 1) (aSpl e (zBest so e q).1.toNatClampNeg)
      omega
    · exact ⟨Nat.le_refl _, by omega⟩
def zB (c : Nat → AF) (m : Nat) : Nat := (zFit (zSo c 96) (m - 1) 1 aE0).2
def zPal (c : Nat → AF) (m : Nat) : AF := zMd (zSo c 96) (zFit (zSo c 96) (m - 1) 1 aE0).1 (zFit (zSo c 96) (m - 1) 1 aE0).2
def zM (c : Nat → AF) (m : Nat) (car tur : Int32) : Nat → AF := (zRows c (zPal c m) (zB c m) car tur 8).1
theorem zB_1 (c : Nat → AF) (m : Nat) : 1 ≤ zB c m := (zFit_q _ _ _ _).1
theorem zB_m (c : Nat → AF) {m : Nat} (h : 1 ≤ m) : zB c m ≤ m := by
  have := (zFit_q (zSo c 96) (m - 1) 1 aE0).2
  unfold zB
  omega
/-- every cell of a row woven has one of the colours -/
def zIn (b : Nat) (f : Nat → AF) (y x : Nat) : Prop := ∃ k, k < b ∧ f y x = nI k
theorem zRowF_in {pal : AF} {b : Nat} {car : Int32} {y : Nat} {s : ZS} (hb : 0 < b) : ∀ i, i ≤ 12 → (∀ x, x < i → zIn b (zRowF pal b car y s i).1 y x) ∧ ∀ y', y' ≠ y → (zRowF pal b car y s i).1 y' = s.1 y'
  | 0, _ => ⟨fun x hx => absurd hx (Nat.not_lt_zero x), fun _ _ => rfl⟩
  | i + 1, hi => by
    obtain ⟨h1, h2⟩ := zRowF_in hb i (by omega)
    refine ⟨fun x hx => ?_, fun y' hy' => ?_⟩
    · show ∃ k, k < b ∧ (va_up _ y _ y : AF) x = nI k
      rw [va_up_self]
      by_cases e : x = i
      · subst e
        exact ⟨_, zNear_lt _ _ hb _, by rw [Nat.add_sub_cancel, pk_us]⟩
      · rw [pk_un (by omega)]
        exact h1 x (by omega)
    · show va_up _ y _ y' = _
      rw [va_up_ne _ _ hy']
      exact h2 y' hy'
theorem zRowB_in {pal : AF} {b : Nat} {car : Int32} {y : Nat} {s : ZS} (hb : 0 < b) : ∀ i, i ≤ 12 → (∀ x, 12 - i ≤ x → x < 12 → zIn b (zRowB pal b car y s i).1 y x) ∧ ∀ y', y' ≠ y → (zRowB pal b car y s i).1 y' = s.1 y'
  | 0, _ => ⟨fun x hx hx2 => absurd hx (by omega), fun _ _ => rfl⟩
  | i + 1, hi => by
    obtain ⟨h1, h2⟩ := zRowB_in hb i (by omega)
    refine ⟨fun x hx hx2 => ?_, fun y' hy' => ?_⟩
    · show ∃ k, k < b ∧ (va_up _ y _ y : AF) x = nI k
      rw [va_up_self]
      by_cases e : x = 12 - i - 1
      · subst e
        exact ⟨_, zNear_lt _ _ hb _, by rw [pk_us]⟩
      · rw [pk_un e]
        exact h1 x (by omega) hx2
    · show va_up _ y _ y' = _
      rw [va_up_ne _ _ hy']
      exact h2 y' hy'
theorem zRows_in {c : Nat → AF} {pal : AF} {b : Nat} {car tur : Int32} (hb : 0 < b) : ∀ y, y ≤ 8 → ∀ y', y' < y → ∀ x, x < 12 → zIn b (zRows c pal b car tur y).1 y' x
  | 0, _, y', h, _, _ => absurd h (Nat.not_lt_zero _)
  | y + 1, hy, y', h, x, hx => by
    by_cases hk : sBk tur y = 0
    · rw [zRows_f hk]
      obtain ⟨h1, h2⟩ := zRowF_in (pal := pal) (car := car) (y := y) (s := zRows c pal b car tur y) hb 12 (Nat.le_refl _)
      by_cases e : y' = y
      · subst e; exact h1 x hx
      · unfold zIn
        rw [h2 y' e]
        exact zRows_in hb y (by omega) y' (by omega) x hx
    · rw [zRows_b hk]
      obtain ⟨h1, h2⟩ := zRowB_in (pal := pal) (car := car) (y := y) (s := zRows c pal b car tur y) hb 12 (Nat.le_refl _)
      by_cases e : y' = y
      · subst e; exact h1 x (by omega) hx
      · unfold zIn
        rw [h2 y' e]
        exact zRows_in hb y (by omega) y' (by omega) x hx
theorem zM_in {c : Nat → AF} {m : Nat} {car tur : Int32} {y x : Nat} (hy : y < 8) (hx : x < 12) : ∃ k, k < zB c m ∧ zM c m car tur y x = nI k := zRows_in (zB_1 c m) 8 (Nat.le_refl _) y hy x hx
theorem zM_vp {c : Nat → AF} {m : Nat} (h1 : 1 ≤ m) (h6 : m ≤ 6) {car tur : Int32} : ∀ y, y < 8 → ∀ x, x < 12 → vp_in (zM c m car tur y x) (zB c m) := by
  intro y hy x hx
  obtain ⟨k, hk, e⟩ := zM_in (c := c) (m := m) (car := car) (tur := tur) hy hx
  rw [e]
  have := zB_m c h1
  exact vp_in_nI hk (by omega)
def zTk (th : AF) (d : Nat → AF) : Nat → AF
  | 0 => th
  | c + 1 => upd (zTk th d c) c (zTk th d c c - zCel d (nI c) 8)
def zFlX (v : Nat → AF) (y : Nat) : Nat → Nat → AF
  | 0 => v
  | x + 1 => va_up (zFlX v y x) y (upd (zFlX v y x y) x 128)
def zFl : Nat → Nat → AF
  | 0 => fun _ _ => 0
  | y + 1 => zFlX (zFl y) y 12
theorem zFlX_at (v : Nat → AF) (y : Nat) : ∀ n y' x, zFlX v y n y' x = if y' = y ∧ x < n then 128 else v y' x
  | 0, y', x => by rw [if_neg (by omega)]; rfl
  | n + 1, y', x => by
    have ih := zFlX_at v y n
    show (va_up _ y _ y' : AF) x = _
    by_cases e : y' = y
    · subst e
      rw [va_up_self]
      by_cases e2 : x = n
      · subst e2; rw [pk_us, if_pos (by omega)]
      · rw [pk_un e2, ih]
        by_cases h : x < n
        · rw [if_pos ⟨rfl, h⟩, if_pos (by omega)]
        · rw [if_neg (by omega), if_neg (by omega)]
    · rw [va_up_ne _ _ e, ih, if_neg (fun h => e h.1), if_neg (fun h => e h.1)]
theorem zFl_at : ∀ n y x, y < n → x < 12 → zFl n y x = 128
  | n + 1, y, x, hy, hx => by
    show zFlX (zFl n) n 12 y x = _
    rw [zFlX_at]
    by_cases e : y = n
    · rw [if_pos ⟨e, hx⟩]
    · rw [if_neg (fun h => e h.1)]
      exact zFl_at n y x (by omega) hx
theorem c_X5_pal (E : gE) (y : Nat) (pa : Nat) (sa : Nat) (kp : Nat) (kk : Nat) (col : Int32) (car : Int32) (tur : Int32) (pre : Int32) (cl : Int32) (ko : Int32) (m : Nat) (r : Nat → Nat) (c : Nat → AF) (hm1 : 1 ≤ m) (hm : m ≤ 6) : CtA E yX5_palette wsX5_palette ({ frames := 1, cells := 18, slots := 1093, locals := 24 }) [.ref y, .int (nI m)] ([(y, .inr (5, [.ref pa, .int col, .int car, .int tur, .int pre, .ref sa, .int cl, .ref kp, .ref kk, .int ko])), (pa, qE E 8 r)] ++ (gW E r (fun _ => 12) c 8 ++ [])) (fun a => some (.ref (a 0))) (fun a => [((a 0), .inl (E.2.2, zB c m, .inl (zPal c m)))]) := (c_X5_palette E y pa sa kp kk col car tur pre cl ko m r c hm1 hm).weaken (fun ov V h => by
  obtain ⟨q, rfl, rfl⟩ := h
  exact ⟨fun _ => q, rfl, rfl⟩)

set_option maxHeartbeats 4000000 in
set_option maxRecDepth 100000 in
theorem c_X5_weave (E : gE) (y : Nat) (pa : Nat) (sa : Nat) (kp : Nat) (kk : Nat) (car : Int32) (tur : Int32) (pre : Int32) (cl : Int32) (ko : Int32) (m : Nat) (r : Nat → Nat) (c : Nat → AF) (th : AF) (hm1 : 1 ≤ m) (hm : m ≤ 6) : CtP E yX5_weave wsX5_weave ({ frames := 4, cells := 149, slots := 2580, locals := 92 }) [.ref y] ([(y, .inr (5, [.ref pa, .int (nI m), .int car, .int tur, .int pre, .ref sa, .int cl, .ref kp, .ref kk, .int ko])), (pa, qE E 8 r), (sa, .inl (E.2.2, 6, .inl th))] ++ (gW E r (fun _ => 12) c 8 ++ [])) (fun o V => (¬ (∀ k, k < 6 → zCel (zM c m car tur) (nI k) 8 ≤ th k) ∧ o = some (.int (-1)) ∧ V = ([(y, .inr (5, [.ref pa, .int (nI m), .int car, .int tur, .int pre, .ref sa, .int cl, .ref kp, .ref kk, .int ko])), (pa, qE E 8 r), (sa, .inl (E.2.2, 6, .inl th))] ++ (gW E r (fun _ => 12) c 8 ++ []))) ∨ ((∀ k, k < 6 → zCel (zM c m car tur) (nI k) 8 ≤ th k) ∧ ∃ (q1 q2 : Nat) (r2 : Nat → Nat), o = some (.int (zAK (zM c m car tur) pre 8)) ∧ V = ([(y, .inr (5, [.ref pa, .int (nI m), .int car, .int tur, .int pre, .ref sa, .int (cl + 1), .ref q1, .ref q2, .int (zOff c (zM c m car tur) (zPal c m) 8)])), (pa, qE E 8 r), (sa, .inl (E.2.2, 6, .inl (zTk th (zM c m car tur) 6))), (q1, .inl (E.2.2, zB c m, .inl (zPal c m))), (q2, qE E 8 r2)] ++ (gW E r2 (fun _ => 12) (zM c m car tur) 8 ++ (gW E r (fun _ => 12) c 8 ++ []))))) := by
  refine CtP.of (cc := cX5_weave) (maxL := 4) (ret := (some .int)) (own := RX5) (L := [(0, .ref y)]) (by decide) rfl rfl (Nat.le_of_ble_eq_true rfl) rfl ?_
  intro X F hQ
  have i5 : ∀ w ∈ u_ws RX5 TX5 10, w ∈ wsX5_weave := gsub [51, 52, 53, 54, 55, 56, 57, 58, 59, 60] rfl
  refine g_aload_n F dX5_weave_0 rfl 0 rfl ?_
  refine g_aload_n F dX5_weave_1 rfl 0 rfl ?_
  refine g_get F dX5_weave_2 0 rfl rfl i5 1 (by decide) rfl (List.mem_of_getElem? (i := 1) rfl) ?_
  refine g_callVA (R := ([(sa, .inl (E.2.2, 6, .inl th))] ++ [])) F dX5_weave_5 (c_X5_pal E y pa sa kp kk (nI m) car tur pre cl ko m r c (by first | assumption | decide | omega) (by first | assumption | decide | omega)) rfl gX5_weave_X5_palette (List.mem_of_getElem? (i := 0) rfl) rfl kV_X5_palette ⟨by decide, by decide⟩ (ps4 (pmc (A := []) (pmc (A := []) (pmc (A := []) (List.Perm.nil)))) (by simp only [List.append_assoc, List.nil_append, List.append_nil]; exact List.Perm.refl _)) rfl (Nat.le_of_ble_eq_true rfl) ⟨by show 0 + 18 ≤ 149; omega, by show 0 + 1093 ≤ 2580; omega⟩ (fun a5 => ?_)
  refine g_ws (ws' := ([((a5 0), .inl (E.2.2, zB c m, .inl (zPal c m))), (y, .inr (5, [.ref pa, .int (nI m), .int car, .int tur, .int pre, .ref sa, .int cl, .ref kp, .ref kk, .int ko])), (pa, qE E 8 r), (sa, .inl (E.2.2, 6, .inl th))] ++ (gW E r (fun _ => 12) c 8 ++ []))) rfl ?_
  refine g_astore_n (L' := [(0, .ref y), (1, .ref (a5 0))]) F dX5_weave_8 rfl (by decide) [1, 0] rfl ?_
  refine g_aload_n F dX5_weave_9 rfl 0 rfl ?_
  refine g_aload_n F dX5_weave_10 rfl 1 rfl ?_
  refine g_callVP (R := ([(sa, .inl (E.2.2, 6, .inl th))] ++ [])) F dX5_weave_11 (c_X5_cloth E y pa sa kp kk (nI m) car tur pre cl ko (a5 0) (zB c m) r c (zPal c m) (zB_1 c m) (Nat.le_trans (zB_m c hm1) hm)) rfl gX5_weave_X5_cloth (List.mem_of_getElem? (i := 1) rfl) rfl kV_X5_cloth ⟨by decide, by decide⟩ (ps4 (pmc (A := [_, _]) (pmc (A := []) (pmc (A := []) (pmc (A := []) (List.Perm.nil))))) (by simp only [List.append_assoc, List.nil_append, List.append_nil]; exact List.Perm.refl _)) rfl (Nat.le_of_ble_eq_true rfl) ⟨by show 0 + 18 + 115 ≤ 149; omega, by show 0 + 1093 + 527 ≤ 2580; omega⟩ (fun ov11 V11 hV11 => ?_)
  obtain ⟨q11, r11, rfl, rfl⟩ := hV11
  refine g_perm (ws' := ([(q11, qE E 8 r11), (y, .inr (5, [.ref pa, .int (nI m), .int car, .int tur, .int pre, .ref sa, .int cl, .ref kp, .ref kk, .int ko])), (pa, qE E 8 r), ((a5 0), .inl (E.2.2, zB c m, .inl (zPal c m))), (sa, .inl (E.2.2, 6, .inl th))] ++ (gW E r11 (fun _ => 12) (zM c m car tur) 8 ++ (gW E r (fun _ => 12) c 8 ++ [])))) ((ps4 (Ws := [(q11, qE E 8 r11), (y, .inr (5, [.ref pa, .int (nI m), .int car, .int tur, .int pre, .ref sa, .int cl, .ref kp, .ref kk, .int ko])), (pa, qE E 8 r), ((a5 0), .inl (E.2.2, zB c m, .inl (zPal c m)))]) (Wg := (gW E r11 (fun _ => 12) (zM c m car tur) 8 ++ (gW E r (fun _ => 12) c 8 ++ []))) (Rs := [(sa, .inl (E.2.2, 6, .inl th))]) (Rg := []) (List.Perm.refl _) (List.Perm.of_eq (by simp))).symm) ?_
  refine g_astore_n (L' := [(0, .ref y), (1, .ref (a5 0)), (2, .ref q11)]) F dX5_weave_14 rfl (by decide) [1, 2, 0] rfl ?_
  refine g_iconst (v := 0) F dX5_weave_15 (by decide) ?_
  refine g_istore_n (L' := [(0, .ref y), (1, .ref (a5 0)), (2, .ref q11), (3, .int 0)]) F dX5_weave_16 rfl (by decide) [1, 2, 3, 0] rfl ?_
  have lp17 : ∀ (n17 i17 : Nat), i17 + n17 = 6 → (∀ k, k < i17 → zCel (zM c m car tur) (nI k) 8 ≤ th k) → G E X (0 + 18 + 115) (0 + 1093 + 527) 17 [(0, .ref y), (1, .ref (a5 0)), (2, .ref q11), (3, .int (nI i17))] [] ([(q11, qE E 8 r11), (y, .inr (5, [.ref pa, .int (nI m), .int car, .int tur, .int pre, .ref sa, .int cl, .ref kp, .ref kk, .int ko])), (pa, qE E 8 r), ((a5 0), .inl (E.2.2, zB c m, .inl (zPal c m))), (sa, .inl (E.2.2, 6, .inl th))] ++ (gW E r11 (fun _ => 12) (zM c m car tur) 8 ++ (gW E r (fun _ => 12) c 8 ++ []))) := by
    intro n17
    induction n17 with
    | zero =>
      intro i17 hi17  hs
      have he17 : i17 = 6 := by omega
      rw [he17] at hs
      rw [he17]
      refine g_iload_n F dX5_weave_17 rfl 3 rfl ?_
      refine g_bipush (v := 6) F dX5_weave_18 (by decide) ?_
      refine g_icmp_ge_t (tgt := 45) F dX5_weave_20 (by decide) (by decide) ?_
      refine g_iconst (v := 0) F dX5_weave_45 (by decide) ?_
      refine g_istore_n (L' := [(0, .ref y), (1, .ref (a5 0)), (2, .ref q11), (3, .int 0)]) F dX5_weave_46 rfl (by decide) [1, 2, 3, 0] rfl ?_
      have lp47 : ∀ (n47 i47 : Nat), i47 + n47 = 6 → G E X (0 + 18 + 115) (0 + 1093 + 527) 47 [(0, .ref y), (1, .ref (a5 0)), (2, .ref q11), (3, .int (nI i47))] [] ([(q11, qE E 8 r11), (y, .inr (5, [.ref pa, .int (nI m), .int car, .int tur, .int pre, .ref sa, .int cl, .ref kp, .ref kk, .int ko])), (pa, qE E 8 r), ((a5 0), .inl (E.2.2, zB c m, .inl (zPal c m))), (sa, .inl (E.2.2, 6, .inl (zTk th (zM c m car tur) i47)))] ++ (gW E r11 (fun _ => 12) (zM c m car tur) 8 ++ (gW E r (fun _ => 12) c 8 ++ []))) := by
        intro n47
        induction n47 with
        | zero =>
          intro i47 hi47
          have he47 : i47 = 6 := by omega
          rw [he47]
          refine g_iload_n F dX5_weave_47 rfl 3 rfl ?_
          refine g_bipush (v := 6) F dX5_weave_48 (by decide) ?_
          refine g_icmp_ge_t (tgt := 73) F dX5_weave_50 (by decide) (by decide) ?_
          refine g_aload_n F dX5_weave_73 rfl 0 rfl ?_
          refine g_dup F dX5_weave_74 rfl ?_
          refine g_get F dX5_weave_75 1 rfl rfl i5 6 (by decide) rfl (List.mem_of_getElem? (i := 3) rfl) ?_
          refine g_iconst (v := 1) F dX5_weave_78 (by decide) ?_
          refine g_iadd F dX5_weave_79 ?_
          refine g_put (ws' := ([(q11, qE E 8 r11), (y, .inr (5, [.ref pa, .int (nI m), .int car, .int tur, .int pre, .ref sa, .int (cl + 1), .ref kp, .ref kk, .int ko])), (pa, qE E 8 r), ((a5 0), .inl (E.2.2, zB c m, .inl (zPal c m))), (sa, .inl (E.2.2, 6, .inl (zTk th (zM c m car tur) 6)))] ++ (gW E r11 (fun _ => 12) (zM c m car tur) 8 ++ (gW E r (fun _ => 12) c 8 ++ [])))) F dX5_weave_80 1 rfl rfl i5 tyX5 tyX5_ok nmX5 6 (by decide) rfl (rfl) (rfl) (Nat.le_of_ble_eq_true rfl) (List.mem_of_getElem? (i := 3) rfl) rfl ?_
          refine g_aload_n F dX5_weave_83 rfl 0 rfl ?_
          refine g_aload_n F dX5_weave_84 rfl 1 rfl ?_
          refine g_put (ws' := ([(q11, qE E 8 r11), (y, .inr (5, [.ref pa, .int (nI m), .int car, .int tur, .int pre, .ref sa, .int (cl + 1), .ref (a5 0), .ref kk, .int ko])), (pa, qE E 8 r), ((a5 0), .inl (E.2.2, zB c m, .inl (zPal c m))), (sa, .inl (E.2.2, 6, .inl (zTk th (zM c m car tur) 6)))] ++ (gW E r11 (fun _ => 12) (zM c m car tur) 8 ++ (gW E r (fun _ => 12) c 8 ++ [])))) F dX5_weave_85 1 rfl rfl i5 tyX5 tyX5_ok nmX5 7 (by decide) rfl (rfl) (rfl) (Nat.le_of_ble_eq_true rfl) (List.mem_of_getElem? (i := 4) rfl) rfl ?_
          refine g_aload_n F dX5_weave_88 rfl 0 rfl ?_
          refine g_aload_n F dX5_weave_89 rfl 2 rfl ?_
          refine g_put (ws' := ([(q11, qE E 8 r11), (y, .inr (5, [.ref pa, .int (nI m), .int car, .int tur, .int pre, .ref sa, .int (cl + 1), .ref (a5 0), .ref q11, .int ko])), (pa, qE E 8 r), ((a5 0), .inl (E.2.2, zB c m, .inl (zPal c m))), (sa, .inl (E.2.2, 6, .inl (zTk th (zM c m car tur) 6)))] ++ (gW E r11 (fun _ => 12) (zM c m car tur) 8 ++ (gW E r (fun _ => 12) c 8 ++ [])))) F dX5_weave_90 1 rfl rfl i5 tyX5 tyX5_ok nmX5 8 (by decide) rfl (rfl) (rfl) (Nat.le_of_ble_eq_true rfl) (List.mem_of_getElem? (i := 5) rfl) rfl ?_
          refine g_aload_n F dX5_weave_93 rfl 0 rfl ?_
          refine g_aload_n F dX5_weave_94 rfl 0 rfl ?_
          refine g_aload_n F dX5_weave_95 rfl 1 rfl ?_
          refine g_aload_n F dX5_weave_96 rfl 2 rfl ?_
          refine g_callVA (R := ([(sa, .inl (E.2.2, 6, .inl (zTk th (zM c m car tur) 6)))] ++ [])) F dX5_weave_97 (c_X5_off E y pa sa (a5 0) q11 (nI m) car tur pre (cl + 1) ko (a5 0) q11 (zB c m) r r11 c (zM c m car tur) (zPal c m) (by have := zB_m c hm1; omega) (zM_vp hm1 hm)) rfl gX5_weave_X5_off (List.mem_of_getElem? (i := 1) rfl) rfl kV_X5_off ⟨by decide, by decide⟩ (ps4 (pmc (A := [_, _, _]) (pmc (A := []) (pmc (A := []) (pmc (A := []) (pmc (A := []) (List.Perm.nil)))))) (by simp only [List.append_assoc, List.nil_append, List.append_nil]; exact List.perm_append_comm)) rfl (Nat.le_of_ble_eq_true rfl) ⟨by show 0 + 18 + 115 + 0 ≤ 149; omega, by show 0 + 1093 + 527 + 0 ≤ 2580; omega⟩ (fun a97 => ?_)
          refine g_ws (ws' := ([(q11, qE E 8 r11), (y, .inr (5, [.ref pa, .int (nI m), .int car, .int tur, .int pre, .ref sa, .int (cl + 1), .ref (a5 0), .ref q11, .int ko])), (pa, qE E 8 r), ((a5 0), .inl (E.2.2, zB c m, .inl (zPal c m))), (sa, .inl (E.2.2, 6, .inl (zTk th (zM c m car tur) 6)))] ++ (gW E r11 (fun _ => 12) (zM c m car tur) 8 ++ (gW E r (fun _ => 12) c 8 ++ [])))) rfl ?_
          refine g_put (ws' := ([(q11, qE E 8 r11), (y, .inr (5, [.ref pa, .int (nI m), .int car, .int tur, .int pre, .ref sa, .int (cl + 1), .ref (a5 0), .ref q11, .int (zOff c (zM c m car tur) (zPal c m) 8)])), (pa, qE E 8 r), ((a5 0), .inl (E.2.2, zB c m, .inl (zPal c m))), (sa, .inl (E.2.2, 6, .inl (zTk th (zM c m car tur) 6)))] ++ (gW E r11 (fun _ => 12) (zM c m car tur) 8 ++ (gW E r (fun _ => 12) c 8 ++ [])))) F dX5_weave_100 1 rfl rfl i5 tyX5 tyX5_ok nmX5 9 (by decide) rfl (rfl) (rfl) (Nat.le_of_ble_eq_true rfl) (List.mem_of_getElem? (i := 6) rfl) rfl ?_
          refine g_aload_n F dX5_weave_103 rfl 0 rfl ?_
          refine g_aload_n F dX5_weave_104 rfl 0 rfl ?_
          refine g_get F dX5_weave_105 1 rfl rfl i5 8 (by decide) rfl (List.mem_of_getElem? (i := 5) rfl) ?_
          refine g_callVA (R := ([(pa, qE E 8 r), ((a5 0), .inl (E.2.2, zB c m, .inl (zPal c m))), (sa, .inl (E.2.2, 6, .inl (zTk th (zM c m car tur) 6)))] ++ (gW E r (fun _ => 12) c 8 ++ []))) F dX5_weave_108 (c_X5_knots_ E y pa sa (a5 0) q11 (nI m) car tur pre (cl + 1) (zOff c (zM c m car tur) (zPal c m) 8) q11 r11 (zM c m car tur) ) rfl gX5_weave_X5_knots_ (List.mem_of_getElem? (i := 1) rfl) rfl kV_X5_knots_ ⟨by decide, by decide⟩ (ps4 (pmc (A := [_]) (pmc (A := []) (pmc (A := []) (pmc (A := []) (pmc (A := []) (List.Perm.nil)))))) (by simp only [List.append_assoc, List.nil_append, List.append_nil]; exact List.Perm.refl _)) rfl (Nat.le_of_ble_eq_true rfl) ⟨by show 0 + 18 + 115 + 0 + 16 ≤ 149; omega, by show 0 + 1093 + 527 + 0 + 960 ≤ 2580; omega⟩ (fun a108 => ?_)
          refine g_ws (ws' := ([(q11, qE E 8 r11), (y, .inr (5, [.ref pa, .int (nI m), .int car, .int tur, .int pre, .ref sa, .int (cl + 1), .ref (a5 0), .ref q11, .int (zOff c (zM c m car tur) (zPal c m) 8)])), (pa, qE E 8 r), ((a5 0), .inl (E.2.2, zB c m, .inl (zPal c m))), (sa, .inl (E.2.2, 6, .inl (zTk th (zM c m car tur) 6)))] ++ (gW E r11 (fun _ => 12) (zM c m car tur) 8 ++ (gW E r (fun _ => 12) c 8 ++ [])))) rfl ?_
          refine g_perm (ws' := ([(y, .inr (5, [.ref pa, .int (nI m), .int car, .int tur, .int pre, .ref sa, .int (cl + 1), .ref (a5 0), .ref q11, .int (zOff c (zM c m car tur) (zPal c m) 8)])), (pa, qE E 8 r), (sa, .inl (E.2.2, 6, .inl (zTk th (zM c m car tur) 6))), ((a5 0), .inl (E.2.2, zB c m, .inl (zPal c m))), (q11, qE E 8 r11)] ++ (gW E r11 (fun _ => 12) (zM c m car tur) 8 ++ (gW E r (fun _ => 12) c 8 ++ [])))) (List.Perm.append_right _ (pmc (A := [_, _, _, _]) (pmc (A := []) (pmc (A := []) (pmc (A := [_]) (pmc (A := []) (List.Perm.nil))))))) ?_
          refine g_cs (cells' := 149) (slots' := 2580) (by show 0 + 18 + 115 + 0 + 16 ≤ 149; omega) (by show 0 + 1093 + 527 + 0 + 960 ≤ 2580; omega) ?_
          exact g_iretP F hQ dX5_weave_111 (Or.inr ⟨hs, a5 0, q11, r11, rfl, rfl⟩)
        | succ n47 ih47 =>
          intro i47 hi47
          have hl47 : i47 < 6 := by omega
          refine g_iload_n F dX5_weave_47 rfl 3 rfl ?_
          refine g_bipush (v := 6) F dX5_weave_48 (by decide) ?_
          refine g_icmp_ge_f (tgt := 73) F dX5_weave_50 (by decide) (nle_nI (n := 6) hl47 (by omega)) ?_
          refine g_aload_n F dX5_weave_53 rfl 0 rfl ?_
          refine g_get F dX5_weave_54 1 rfl rfl i5 5 (by decide) rfl (List.mem_of_getElem? (i := 2) rfl) ?_
          refine g_iload_n F dX5_weave_57 rfl 3 rfl ?_
          refine g_dup2 F dX5_weave_58 rfl rfl ?_
          refine g_ialdN (k := i47) F dX5_weave_59 4 rfl (by omega) (by first | decide | omega) ?_
          refine g_aload_n F dX5_weave_60 rfl 2 rfl ?_
          refine g_iload_n F dX5_weave_61 rfl 3 rfl ?_
          refine g_callSA (R := ([(y, .inr (5, [.ref pa, .int (nI m), .int car, .int tur, .int pre, .ref sa, .int cl, .ref kp, .ref kk, .int ko])), (pa, qE E 8 r), ((a5 0), .inl (E.2.2, zB c m, .inl (zPal c m))), (sa, .inl (E.2.2, 6, .inl (zTk th (zM c m car tur) i47)))] ++ (gW E r (fun _ => 12) c 8 ++ []))) F dX5_weave_62 (c_X5_cells E q11 r11 (zM c m car tur) (nI i47) ) rfl gX5_weave_X5_cells kS_X5_cells ⟨by decide, by decide⟩ (ps4 (pmc (A := []) (pmc (A := []) (pmc (A := []) (pmc (A := []) (pmc (A := []) (List.Perm.nil)))))) (by simp only [List.append_assoc, List.nil_append, List.append_nil]; exact List.Perm.refl _)) rfl (Nat.le_of_ble_eq_true rfl) ⟨by show 0 + 18 + 115 + 0 ≤ 149; omega, by show 0 + 1093 + 527 + 0 ≤ 2580; omega⟩ (fun a62 => ?_)
          refine g_ws (ws' := ([(q11, qE E 8 r11), (y, .inr (5, [.ref pa, .int (nI m), .int car, .int tur, .int pre, .ref sa, .int cl, .ref kp, .ref kk, .int ko])), (pa, qE E 8 r), ((a5 0), .inl (E.2.2, zB c m, .inl (zPal c m))), (sa, .inl (E.2.2, 6, .inl (zTk th (zM c m car tur) i47)))] ++ (gW E r11 (fun _ => 12) (zM c m car tur) 8 ++ (gW E r (fun _ => 12) c 8 ++ [])))) rfl ?_
          refine g_isub F dX5_weave_65 ?_
          refine g_iastN (k := i47) (ws' := ([(q11, qE E 8 r11), (y, .inr (5, [.ref pa, .int (nI m), .int car, .int tur, .int pre, .ref sa, .int cl, .ref kp, .ref kk, .int ko])), (pa, qE E 8 r), ((a5 0), .inl (E.2.2, zB c m, .inl (zPal c m))), (sa, .inl (E.2.2, 6, .inl (upd (zTk th (zM c m car tur) i47) i47 (((zTk th (zM c m car tur) i47) i47) - (zCel (zM c m car tur) (nI i47) 8)))))] ++ (gW E r11 (fun _ => 12) (zM c m car tur) 8 ++ (gW E r (fun _ => 12) c 8 ++ [])))) F dX5_weave_66 4 rfl (by omega) (by first | decide | omega) rfl ?_
          refine g_iinc (L' := [(0, .ref y), (1, .ref (a5 0)), (2, .ref q11), (3, .int (nI (i47 + 1)))]) (v := nI (i47 + 1)) F dX5_weave_67 3 rfl (nI_1 _) (by decide) [1, 2, 3, 0] rfl ?_
          refine g_goto (tgt := 47) F dX5_weave_70 (by decide) ?_
          refine g_cs (cells' := (0 + 18 + 115)) (slots' := (0 + 1093 + 527)) (by show 0 + 18 + 115 + 0 ≤ 0 + 18 + 115; omega) (by show 0 + 1093 + 527 + 0 ≤ 0 + 1093 + 527; omega) ?_
          exact ih47 (i47 + 1) (by omega)
      exact lp47 6 0 (by omega)
    | succ n17 ih17 =>
      intro i17 hi17  hs
      have hl17 : i17 < 6 := by omega
      refine g_iload_n F dX5_weave_17 rfl 3 rfl ?_
      refine g_bipush (v := 6) F dX5_weave_18 (by decide) ?_
      refine g_icmp_ge_f (tgt := 45) F dX5_weave_20 (by decide) (nle_nI (n := 6) hl17 (by omega)) ?_
      refine g_aload_n F dX5_weave_23 rfl 2 rfl ?_
      refine g_iload_n F dX5_weave_24 rfl 3 rfl ?_
      refine g_callSA (R := ([(y, .inr (5, [.ref pa, .int (nI m), .int car, .int tur, .int pre, .ref sa, .int cl, .ref kp, .ref kk, .int ko])), (pa, qE E 8 r), ((a5 0), .inl (E.2.2, zB c m, .inl (zPal c m))), (sa, .inl (E.2.2, 6, .inl th))] ++ (gW E r (fun _ => 12) c 8 ++ []))) F dX5_weave_25 (c_X5_cells E q11 r11 (zM c m car tur) (nI i17) ) rfl gX5_weave_X5_cells kS_X5_cells ⟨by decide, by decide⟩ (ps4 (pmc (A := []) (pmc (A := []) (pmc (A := []) (pmc (A := []) (pmc (A := []) (List.Perm.nil)))))) (by simp only [List.append_assoc, List.nil_append, List.append_nil]; exact List.Perm.refl _)) rfl (Nat.le_of_ble_eq_true rfl) ⟨by show 0 + 18 + 115 + 0 ≤ 149; omega, by show 0 + 1093 + 527 + 0 ≤ 2580; omega⟩ (fun a25 => ?_)
      refine g_ws (ws' := ([(q11, qE E 8 r11), (y, .inr (5, [.ref pa, .int (nI m), .int car, .int tur, .int pre, .ref sa, .int cl, .ref kp, .ref kk, .int ko])), (pa, qE E 8 r), ((a5 0), .inl (E.2.2, zB c m, .inl (zPal c m))), (sa, .inl (E.2.2, 6, .inl th))] ++ (gW E r11 (fun _ => 12) (zM c m car tur) 8 ++ (gW E r (fun _ => 12) c 8 ++ [])))) rfl ?_
      refine g_aload_n F dX5_weave_28 rfl 0 rfl ?_
      refine g_get F dX5_weave_29 1 rfl rfl i5 5 (by decide) rfl (List.mem_of_getElem? (i := 2) rfl) ?_
      refine g_iload_n F dX5_weave_32 rfl 3 rfl ?_
      refine g_ialdN (k := i17) F dX5_weave_33 4 rfl (by omega) (by first | decide | omega) ?_
      refine g_icmp_le (tgt := 39) F dX5_weave_34 (by decide) (fun k34 => ?_) (fun k34 => ?_)
      · skip
        refine g_iinc (L' := [(0, .ref y), (1, .ref (a5 0)), (2, .ref q11), (3, .int (nI (i17 + 1)))]) (v := nI (i17 + 1)) F dX5_weave_39 3 rfl (nI_1 _) (by decide) [1, 2, 3, 0] rfl ?_
        refine g_goto (tgt := 17) F dX5_weave_42 (by decide) ?_
        refine g_cs (cells' := (0 + 18 + 115)) (slots' := (0 + 1093 + 527)) (by show 0 + 18 + 115 + 0 ≤ 0 + 18 + 115; omega) (by show 0 + 1093 + 527 + 0 ≤ 0 + 1093 + 527; omega) ?_
        exact ih17 (i17 + 1) (by omega) (all_s hs k34)
      · skip
        refine g_iconst (v := (-1)) F dX5_weave_37 (by decide) ?_
        refine g_perm (ws' := ([(y, .inr (5, [.ref pa, .int (nI m), .int car, .int tur, .int pre, .ref sa, .int cl, .ref kp, .ref kk, .int ko])), (pa, qE E 8 r), (sa, .inl (E.2.2, 6, .inl th))] ++ (gW E r (fun _ => 12) c 8 ++ [])) ++ ([(q11, qE E 8 r11), ((a5 0), .inl (E.2.2, zB c m, .inl (zPal c m)))] ++ (gW E r11 (fun _ => 12) (zM c m car tur) 8 ++ []))) (ps4 (pmc (A := [_, _, _]) (pmc (A := []) (pmc (A := []) (pmc (A := [_]) (pmc (A := []) (List.Perm.nil)))))) (by simp only [List.append_assoc, List.nil_append, List.append_nil]; exact List.perm_append_comm)) (g_drop ?_)
        refine g_cs (cells' := 149) (slots' := 2580) (by show 0 + 18 + 115 + 0 ≤ 149; omega) (by show 0 + 1093 + 527 + 0 ≤ 2580; omega) ?_
        exact g_iretP F hQ dX5_weave_38 (Or.inl ⟨fun h => k34 (h _ hl17), rfl, rfl⟩)
  exact lp17 6 0 (by omega) (fun k hk => absurd hk (Nat.not_lt_zero k))

set_option maxHeartbeats 4000000 in
set_option maxRecDepth 100000 in
theorem c_X5_init (E : gE) (b : Nat) : CtI E yX5_init wsX5_init ({ frames := 1, cells := 12, slots := 110, locals := 20 }) b (.inr (5, [.null, .int 0, .int 0, .int 0, .int 0, .null, .int 0, .null, .null, .int 0])) (fun a => ([(b, .inr (5, [.ref (a 0), .int 3, .int 2, .int 0, .int 0, .ref (a 1), .int 0, .ref (a 2), .ref (a 3), .int 0])), ((a 0), qE E 8 (fun j => a (j + 4))), ((a 1), .inl (E.2.2, 6, .inl (upd (upd (upd (upd (upd (upd (fun _ => 0) 0 200) 1 200) 2 200) 3 200) 4 200) 5 200))), ((a 2), .inl (E.2.2, 0, .inl (fun _ => 0))), ((a 3), qF E 0 (fun _ => none))] ++ (gW E (fun j => a (j + 4)) (fun _ => 12) (fun _ _ => 128) 8 ++ []))) := by
  refine CtI.of (cc := cX5_init) (maxL := 6) (own := RX5) (by decide) rfl rfl rfl (by decide) ?_
  intro X F hI hQ
  have i5 : ∀ w ∈ u_ws RX5 TX5 10, w ∈ wsX5_init := gsub [13, 14, 15, 16, 17, 18, 19, 20, 21, 22] rfl
  refine g_aload_n F dX5_init_0 rfl 0 rfl ?_
  refine g_objinit F dX5_init_1 (List.mem_of_getElem? (i := 1) rfl) (List.mem_of_getElem? (i := 2) rfl) (List.mem_of_getElem? (i := 3) rfl) (by decide) (by decide) ?_
  refine g_aload_n F dX5_init_4 rfl 0 rfl ?_
  refine g_bipush (v := 8) F dX5_init_5 (by decide) ?_
  refine g_bipush (v := 12) F dX5_init_7 (by decide) ?_
  refine g_mnaS (N' := 8) (K' := 12) (S := [(b, .inr (5, [.null, .int 0, .int 0, .int 0, .int 0, .null, .int 0, .null, .null, .int 0]))]) (B := []) F dX5_init_9 (List.mem_of_getElem? (i := 4) rfl) (List.mem_of_getElem? (i := 5) rfl) (by decide) (by decide) rfl rfl (by decide) (by decide) (by show 0 + (1 + 8) ≤ 12; omega) (by show 0 + (8 + 8 * 12) ≤ 110; omega) ((List.append_nil _).symm) (fun q9 r9 => ?_)
  refine g_ws (ws' := ([(q9, qE E 8 r9), (b, .inr (5, [.null, .int 0, .int 0, .int 0, .int 0, .null, .int 0, .null, .null, .int 0]))] ++ (gW E r9 (fun _ => 12) (fun _ _ => 0) 8 ++ []))) rfl ?_
  refine g_put (ws' := ([(q9, qE E 8 r9), (b, .inr (5, [.ref q9, .int 0, .int 0, .int 0, .int 0, .null, .int 0, .null, .null, .int 0]))] ++ (gW E r9 (fun _ => 12) (fun _ _ => 0) 8 ++ []))) F dX5_init_13 1 rfl rfl i5 tyX5 tyX5_ok nmX5 0 (by decide) rfl (rfl) (rfl) (Nat.le_of_ble_eq_true rfl) (List.mem_of_getElem? (i := 6) rfl) rfl ?_
  refine g_aload_n F dX5_init_16 rfl 0 rfl ?_
  refine g_iconst (v := 3) F dX5_init_17 (by decide) ?_
  refine g_put (ws' := ([(q9, qE E 8 r9), (b, .inr (5, [.ref q9, .int 3, .int 0, .int 0, .int 0, .null, .int 0, .null, .null, .int 0]))] ++ (gW E r9 (fun _ => 12) (fun _ _ => 0) 8 ++ []))) F dX5_init_18 1 rfl rfl i5 tyX5 tyX5_ok nmX5 1 (by decide) rfl (rfl) (rfl) (Nat.le_of_ble_eq_true rfl) (List.mem_of_getElem? (i := 7) rfl) rfl ?_
  refine g_aload_n F dX5_init_21 rfl 0 rfl ?_
  refine g_iconst (v := 2) F dX5_init_22 (by decide) ?_
  refine g_put (ws' := ([(q9, qE E 8 r9), (b, .inr (5, [.ref q9, .int 3, .int 2, .int 0, .int 0, .null, .int 0, .null, .null, .int 0]))] ++ (gW E r9 (fun _ => 12) (fun _ _ => 0) 8 ++ []))) F dX5_init_23 1 rfl rfl i5 tyX5 tyX5_ok nmX5 2 (by decide) rfl (rfl) (rfl) (Nat.le_of_ble_eq_true rfl) (List.mem_of_getElem? (i := 8) rfl) rfl ?_
  refine g_aload_n F dX5_init_26 rfl 0 rfl ?_
  refine g_bipush (v := 6) F dX5_init_27 (by decide) ?_
  refine g_newa (N' := 6) F dX5_init_29 (List.mem_of_getElem? (i := 5) rfl) (by decide) (rfl) (by omega) (by show 0 + 1 + 8 + 1 ≤ 12; omega) (by show 0 + 8 + 8 * 12 + 6 ≤ 110; omega) (fun q29 => g_front ?_)
  refine g_ws (ws' := ([(q29, .inl (E.2.2, 6, .inl (fun _ => 0))), (q9, qE E 8 r9), (b, .inr (5, [.ref q9, .int 3, .int 2, .int 0, .int 0, .null, .int 0, .null, .null, .int 0]))] ++ (gW E r9 (fun _ => 12) (fun _ _ => 0) 8 ++ []))) rfl ?_
  refine g_dup F dX5_init_31 rfl ?_
  refine g_iconst (v := 0) F dX5_init_32 (by decide) ?_
  refine g_sipush (v := 200) F dX5_init_33 (by decide) ?_
  refine g_iastN (k := 0) (ws' := ([(q29, .inl (E.2.2, 6, .inl (upd (fun _ => 0) 0 200))), (q9, qE E 8 r9), (b, .inr (5, [.ref q9, .int 3, .int 2, .int 0, .int 0, .null, .int 0, .null, .null, .int 0]))] ++ (gW E r9 (fun _ => 12) (fun _ _ => 0) 8 ++ []))) F dX5_init_36 0 rfl (by omega) (by first | decide | omega) rfl ?_
  refine g_dup F dX5_init_37 rfl ?_
  refine g_iconst (v := 1) F dX5_init_38 (by decide) ?_
  refine g_sipush (v := 200) F dX5_init_39 (by decide) ?_
  refine g_iastN (k := 1) (ws' := ([(q29, .inl (E.2.2, 6, .inl (upd (upd (fun _ => 0) 0 200) 1 200))), (q9, qE E 8 r9), (b, .inr (5, [.ref q9, .int 3, .int 2, .int 0, .int 0, .null, .int 0, .null, .null, .int 0]))] ++ (gW E r9 (fun _ => 12) (fun _ _ => 0) 8 ++ []))) F dX5_init_42 0 rfl (by omega) (by first | decide | omega) rfl ?_
  refine g_dup F dX5_init_43 rfl ?_
  refine g_iconst (v := 2) F dX5_init_44 (by decide) ?_
  refine g_sipush (v := 200) F dX5_init_45 (by decide) ?_
  refine g_iastN (k := 2) (ws' := ([(q29, .inl (E.2.2, 6, .inl (upd (upd (upd (fun _ => 0) 0 200) 1 200) 2 200))), (q9, qE E 8 r9), (b, .inr (5, [.ref q9, .int 3, .int 2, .int 0, .int 0, .null, .int 0, .null, .null, .int 0]))] ++ (gW E r9 (fun _ => 12) (fun _ _ => 0) 8 ++ []))) F dX5_init_48 0 rfl (by omega) (by first | decide | omega) rfl ?_
  refine g_dup F dX5_init_49 rfl ?_
  refine g_iconst (v := 3) F dX5_init_50 (by decide) ?_
  refine g_sipush (v := 200) F dX5_init_51 (by decide) ?_
  refine g_iastN (k := 3) (ws' := ([(q29, .inl (E.2.2, 6, .inl (upd (upd (upd (upd (fun _ => 0) 0 200) 1 200) 2 200) 3 200))), (q9, qE E 8 r9), (b, .inr (5, [.ref q9, .int 3, .int 2, .int 0, .int 0, .null, .int 0, .null, .null, .int 0]))] ++ (gW E r9 (fun _ => 12) (fun _ _ => 0) 8 ++ []))) F dX5_init_54 0 rfl (by omega) (by first | decide | omega) rfl ?_
  refine g_dup F dX5_init_55 rfl ?_
  refine g_iconst (v := 4) F dX5_init_56 (by decide) ?_
  refine g_sipush (v := 200) F dX5_init_57 (by decide) ?_
  refine g_iastN (k := 4) (ws' := ([(q29, .inl (E.2.2, 6, .inl (upd (upd (upd (upd (upd (fun _ => 0) 0 200) 1 200) 2 200) 3 200) 4 200))), (q9, qE E 8 r9), (b, .inr (5, [.ref q9, .int 3, .int 2, .int 0, .int 0, .null, .int 0, .null, .null, .int 0]))] ++ (gW E r9 (fun _ => 12) (fun _ _ => 0) 8 ++ []))) F dX5_init_60 0 rfl (by omega) (by first | decide | omega) rfl ?_
  refine g_dup F dX5_init_61 rfl ?_
  refine g_iconst (v := 5) F dX5_init_62 (by decide) ?_
  refine g_sipush (v := 200) F dX5_init_63 (by decide) ?_
  refine g_iastN (k := 5) (ws' := ([(q29, .inl (E.2.2, 6, .inl (upd (upd (upd (upd (upd (upd (fun _ => 0) 0 200) 1 200) 2 200) 3 200) 4 200) 5 200))), (q9, qE E 8 r9), (b, .inr (5, [.ref q9, .int 3, .int 2, .int 0, .int 0, .null, .int 0, .null, .null, .int 0]))] ++ (gW E r9 (fun _ => 12) (fun _ _ => 0) 8 ++ []))) F dX5_init_66 0 rfl (by omega) (by first | decide | omega) rfl ?_
  refine g_put (ws' := ([(q29, .inl (E.2.2, 6, .inl (upd (upd (upd (upd (upd (upd (fun _ => 0) 0 200) 1 200) 2 200) 3 200) 4 200) 5 200))), (q9, qE E 8 r9), (b, .inr (5, [.ref q9, .int 3, .int 2, .int 0, .int 0, .ref q29, .int 0, .null, .null, .int 0]))] ++ (gW E r9 (fun _ => 12) (fun _ _ => 0) 8 ++ []))) F dX5_init_67 2 rfl rfl i5 tyX5 tyX5_ok nmX5 5 (by decide) rfl (rfl) (rfl) (Nat.le_of_ble_eq_true rfl) (List.mem_of_getElem? (i := 9) rfl) rfl ?_
  refine g_aload_n F dX5_init_70 rfl 0 rfl ?_
  refine g_iconst (v := 0) F dX5_init_71 (by decide) ?_
  refine g_newa (N' := 0) F dX5_init_72 (List.mem_of_getElem? (i := 5) rfl) (by decide) (rfl) (by omega) (by show 0 + 1 + 8 + 1 + 1 ≤ 12; omega) (by show 0 + 8 + 8 * 12 + 6 + 0 ≤ 110; omega) (fun q72 => g_front ?_)
  refine g_ws (ws' := ([(q72, .inl (E.2.2, 0, .inl (fun _ => 0))), (q29, .inl (E.2.2, 6, .inl (upd (upd (upd (upd (upd (upd (fun _ => 0) 0 200) 1 200) 2 200) 3 200) 4 200) 5 200))), (q9, qE E 8 r9), (b, .inr (5, [.ref q9, .int 3, .int 2, .int 0, .int 0, .ref q29, .int 0, .null, .null, .int 0]))] ++ (gW E r9 (fun _ => 12) (fun _ _ => 0) 8 ++ []))) rfl ?_
  refine g_put (ws' := ([(q72, .inl (E.2.2, 0, .inl (fun _ => 0))), (q29, .inl (E.2.2, 6, .inl (upd (upd (upd (upd (upd (upd (fun _ => 0) 0 200) 1 200) 2 200) 3 200) 4 200) 5 200))), (q9, qE E 8 r9), (b, .inr (5, [.ref q9, .int 3, .int 2, .int 0, .int 0, .ref q29, .int 0, .ref q72, .null, .int 0]))] ++ (gW E r9 (fun _ => 12) (fun _ _ => 0) 8 ++ []))) F dX5_init_74 3 rfl rfl i5 tyX5 tyX5_ok nmX5 7 (by decide) rfl (rfl) (rfl) (Nat.le_of_ble_eq_true rfl) (List.mem_of_getElem? (i := 10) rfl) rfl ?_
  refine g_aload_n F dX5_init_77 rfl 0 rfl ?_
  refine g_iconst (v := 0) F dX5_init_78 (by decide) ?_
  refine g_anew (N' := 0) F dX5_init_79 (List.mem_of_getElem? (i := 11) rfl) (by decide) (rfl) (by omega) (by show 0 + 1 + 8 + 1 + 1 + 1 ≤ 12; omega) (by show 0 + 8 + 8 * 12 + 6 + 0 + 0 ≤ 110; omega) (fun q79 => g_front ?_)
  refine g_ws (ws' := ([(q79, qF E 0 (fun _ => none)), (q72, .inl (E.2.2, 0, .inl (fun _ => 0))), (q29, .inl (E.2.2, 6, .inl (upd (upd (upd (upd (upd (upd (fun _ => 0) 0 200) 1 200) 2 200) 3 200) 4 200) 5 200))), (q9, qE E 8 r9), (b, .inr (5, [.ref q9, .int 3, .int 2, .int 0, .int 0, .ref q29, .int 0, .ref q72, .null, .int 0]))] ++ (gW E r9 (fun _ => 12) (fun _ _ => 0) 8 ++ []))) rfl ?_
  refine g_put (ws' := ([(q79, qF E 0 (fun _ => none)), (q72, .inl (E.2.2, 0, .inl (fun _ => 0))), (q29, .inl (E.2.2, 6, .inl (upd (upd (upd (upd (upd (upd (fun _ => 0) 0 200) 1 200) 2 200) 3 200) 4 200) 5 200))), (q9, qE E 8 r9), (b, .inr (5, [.ref q9, .int 3, .int 2, .int 0, .int 0, .ref q29, .int 0, .ref q72, .ref q79, .int 0]))] ++ (gW E r9 (fun _ => 12) (fun _ _ => 0) 8 ++ []))) F dX5_init_82 4 rfl rfl i5 tyX5 tyX5_ok nmX5 8 (by decide) rfl (rfl) (rfl) (Nat.le_of_ble_eq_true rfl) (List.mem_of_getElem? (i := 12) rfl) rfl ?_
  refine g_aload_n F dX5_init_85 rfl 0 rfl ?_
  refine g_get F dX5_init_86 4 rfl rfl i5 0 (by decide) rfl (List.mem_of_getElem? (i := 6) rfl) ?_
  refine g_astore_n (L' := [(0, .ref b), (1, .ref q9)]) F dX5_init_89 rfl (by decide) [1, 0] rfl ?_
  refine g_aload_n F dX5_init_90 rfl 1 rfl ?_
  refine g_alenx (v := 8) F dX5_init_91 3 1 rfl rfl rfl ?_
  refine g_istore_n (L' := [(0, .ref b), (1, .ref q9), (2, .int 8)]) F dX5_init_92 rfl (by decide) [1, 2, 0] rfl ?_
  refine g_iconst (v := 0) F dX5_init_93 (by decide) ?_
  refine g_istore_n (L' := [(0, .ref b), (1, .ref q9), (2, .int 8), (3, .int 0)]) F dX5_init_94 rfl (by decide) [1, 2, 3, 0] rfl ?_
  have lp95 : ∀ (n95 i95 : Nat), i95 + n95 = 8 → G E X (0 + 1 + 8 + 1 + 1 + 1) (0 + 8 + 8 * 12 + 6 + 0 + 0) 95 [(0, .ref b), (1, .ref q9), (2, .int 8), (3, .int (nI i95))] [] ([(q79, qF E 0 (fun _ => none)), (q72, .inl (E.2.2, 0, .inl (fun _ => 0))), (q29, .inl (E.2.2, 6, .inl (upd (upd (upd (upd (upd (upd (fun _ => 0) 0 200) 1 200) 2 200) 3 200) 4 200) 5 200))), (q9, qE E 8 r9), (b, .inr (5, [.ref q9, .int 3, .int 2, .int 0, .int 0, .ref q29, .int 0, .ref q72, .ref q79, .int 0]))] ++ (gW E r9 (fun _ => 12) (zFl i95) 8 ++ [])) := by
    intro n95
    induction n95 with
    | zero =>
      intro i95 hi95
      have he95 : i95 = 8 := by omega
      rw [he95]
      refine g_iload_n F dX5_init_95 rfl 3 rfl ?_
      refine g_iload_n F dX5_init_96 rfl 2 rfl ?_
      refine g_icmp_ge_t (tgt := 135) F dX5_init_97 (by decide) (by decide) ?_
      refine g_reG (A := [(q79, qF E 0 (fun _ => none)), (q72, .inl (E.2.2, 0, .inl (fun _ => 0))), (q29, .inl (E.2.2, 6, .inl (upd (upd (upd (upd (upd (upd (fun _ => 0) 0 200) 1 200) 2 200) 3 200) 4 200) 5 200))), (q9, qE E 8 r9), (b, .inr (5, [.ref q9, .int 3, .int 2, .int 0, .int 0, .ref q29, .int 0, .ref q72, .ref q79, .int 0]))]) (c' := fun _ _ => 128) rfl (fun y hy k hk => zFl_at 8 y k hy hk) ?_
      refine g_perm (ws' := ([(b, .inr (5, [.ref q9, .int 3, .int 2, .int 0, .int 0, .ref q29, .int 0, .ref q72, .ref q79, .int 0])), (q9, qE E 8 r9), (q29, .inl (E.2.2, 6, .inl (upd (upd (upd (upd (upd (upd (fun _ => 0) 0 200) 1 200) 2 200) 3 200) 4 200) 5 200))), (q72, .inl (E.2.2, 0, .inl (fun _ => 0))), (q79, qF E 0 (fun _ => none))] ++ (gW E r9 (fun _ => 12) (fun _ _ => 128) 8 ++ []))) (List.Perm.append_right _ (pmc (A := [_, _, _, _]) (pmc (A := [_, _, _]) (pmc (A := [_, _]) (pmc (A := [_]) (pmc (A := []) (List.Perm.nil))))))) ?_
      refine g_cs (cells' := 12) (slots' := 110) (by show 0 + 1 + 8 + 1 + 1 + 1 ≤ 12; omega) (by show 0 + 8 + 8 * 12 + 6 + 0 + 0 ≤ 110; omega) ?_
      exact g_vretI F hQ dX5_init_135 (fun i => match i with | 0 => q9 | 1 => q29 | 2 => q72 | 3 => q79 | n + 4 => r9 n) rfl
    | succ n95 ih95 =>
      intro i95 hi95
      have hl95 : i95 < 8 := by omega
      refine g_iload_n F dX5_init_95 rfl 3 rfl ?_
      refine g_iload_n F dX5_init_96 rfl 2 rfl ?_
      refine g_icmp_ge_f (tgt := 135) F dX5_init_97 (by decide) (nle_nI (n := 8) hl95 (by omega)) ?_
      refine g_aload_n F dX5_init_100 rfl 1 rfl ?_
      refine g_iload_n F dX5_init_101 rfl 3 rfl ?_
      refine g_aald (k := i95) F dX5_init_102 3 rfl (by omega) (by first | decide | omega) rfl ?_
      refine g_astore (L' := [(0, .ref b), (1, .ref q9), (2, .int 8), (3, .int (nI i95)), (4, .ref (r9 i95))]) F dX5_init_103 (by decide) [1, 2, 3, 4, 0] rfl ?_
      refine g_iconst (v := 0) F dX5_init_105 (by decide) ?_
      refine g_istore (L' := [(0, .ref b), (1, .ref q9), (2, .int 8), (3, .int (nI i95)), (4, .ref (r9 i95)), (5, .int 0)]) F dX5_init_106 (by decide) [1, 2, 3, 4, 5, 0] rfl ?_
      have lp108 : ∀ (n108 i108 : Nat), i108 + n108 = 12 → G E X (0 + 1 + 8 + 1 + 1 + 1) (0 + 8 + 8 * 12 + 6 + 0 + 0) 108 [(0, .ref b), (1, .ref q9), (2, .int 8), (3, .int (nI i95)), (4, .ref (r9 i95)), (5, .int (nI i108))] [] ([(q79, qF E 0 (fun _ => none)), (q72, .inl (E.2.2, 0, .inl (fun _ => 0))), (q29, .inl (E.2.2, 6, .inl (upd (upd (upd (upd (upd (upd (fun _ => 0) 0 200) 1 200) 2 200) 3 200) 4 200) 5 200))), (q9, qE E 8 r9), (b, .inr (5, [.ref q9, .int 3, .int 2, .int 0, .int 0, .ref q29, .int 0, .ref q72, .ref q79, .int 0]))] ++ (gW E r9 (fun _ => 12) (zFlX (zFl i95) i95 i108) 8 ++ [])) := by
        intro n108
        induction n108 with
        | zero =>
          intro i108 hi108
          have he108 : i108 = 12 := by omega
          rw [he108]
          refine g_iload F dX5_init_108 5 rfl ?_
          refine g_bipush (v := 12) F dX5_init_110 (by decide) ?_
          refine g_icmp_ge_t (tgt := 129) F dX5_init_112 (by decide) (by decide) ?_
          refine g_iinc (L' := [(0, .ref b), (1, .ref q9), (2, .int 8), (3, .int (nI (i95 + 1))), (4, .ref (r9 i95)), (5, .int (nI 12))]) (v := nI (i95 + 1)) F dX5_init_129 3 rfl (nI_1 _) (by decide) [1, 2, 3, 0, 4, 5] rfl ?_
          refine g_goto (tgt := 95) F dX5_init_132 (by decide) ?_
          refine g_lv (L' := [(0, .ref b), (1, .ref q9), (2, .int 8), (3, .int (nI (i95 + 1)))]) [0, 1, 2, 3] rfl ?_
          exact ih95 (i95 + 1) (by omega)
        | succ n108 ih108 =>
          intro i108 hi108
          have hl108 : i108 < 12 := by omega
          refine g_iload F dX5_init_108 5 rfl ?_
          refine g_bipush (v := 12) F dX5_init_110 (by decide) ?_
          refine g_icmp_ge_f (tgt := 129) F dX5_init_112 (by decide) (nle_nI (n := 12) hl108 (by omega)) ?_
          refine g_aload F dX5_init_115 4 rfl ?_
          refine g_iload F dX5_init_117 5 rfl ?_
          refine g_sipush (v := 128) F dX5_init_119 (by decide) ?_
          refine g_iastG0 (y := i95) (k := i108) F dX5_init_122 rfl (by omega) (by show _ < _; first | decide | omega) (by show _ < _; first | decide | omega) ?_
          refine g_ws (ws' := ([(q79, qF E 0 (fun _ => none)), (q72, .inl (E.2.2, 0, .inl (fun _ => 0))), (q29, .inl (E.2.2, 6, .inl (upd (upd (upd (upd (upd (upd (fun _ => 0) 0 200) 1 200) 2 200) 3 200) 4 200) 5 200))), (q9, qE E 8 r9), (b, .inr (5, [.ref q9, .int 3, .int 2, .int 0, .int 0, .ref q29, .int 0, .ref q72, .ref q79, .int 0]))] ++ (gW E r9 (fun _ => 12) (va_up (zFlX (zFl i95) i95 i108) i95 (upd ((zFlX (zFl i95) i95 i108) i95) i108 128)) 8 ++ []))) rfl ?_
          refine g_iinc (L' := [(0, .ref b), (1, .ref q9), (2, .int 8), (3, .int (nI i95)), (4, .ref (r9 i95)), (5, .int (nI (i108 + 1)))]) (v := nI (i108 + 1)) F dX5_init_123 5 rfl (nI_1 _) (by decide) [1, 2, 3, 4, 5, 0] rfl ?_
          refine g_goto (tgt := 108) F dX5_init_126 (by decide) ?_
          exact ih108 (i108 + 1) (by omega)
      exact lp108 12 0 (by omega)
  exact lp95 8 0 (by omega)
end SIMD
