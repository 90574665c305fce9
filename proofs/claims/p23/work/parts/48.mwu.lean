/-! the acts one by one -/
section MWU
theorem car3 {b : Nat} (h : b < 3) : nI b = 0 ∨ nI b = 1 ∨ nI b = 2 := by
  rcases (by omega : b = 0 ∨ b = 1 ∨ b = 2) with rfl | rfl | rfl
  · exact Or.inl rfl
  · exact Or.inr (Or.inl rfl)
  · exact Or.inr (Or.inr rfl)
theorem rq_at (r : Nat → Nat) (q q9 : Nat) : ∀ j, j < 8 → va_up (fun j => some (r j)) q (some q9) j = some (va_up r q q9 j) := by
  intro j _
  by_cases e : j = q
  · subst e
    simp only [va_up_self]
  · simp only [va_up_ne _ _ e]
theorem row_in {E : gE} {S T : va_W} {r : Nat → Nat} {c : Nat → AF} {q q9 : Nat} {g : AF} (hq : q < 8) : (((q9, .inl (E.2.2, 12, .inl g)) :: S) ++ (gW E r (fun _ => 12) c 8 ++ T)).Perm ((S ++ (gW E (va_up r q q9) (fun _ => 12) (va_up c q g) 8 ++ T)) ++ [(r q, .inl (E.2.2, 12, .inl (c q)))]) := by
  have h := rowq_perm (E := E) (r := r) (n := fun _ => 12) (c := c) (q := q9) (g := g) hq
  have h1 : ((q9, .inl (E.2.2, 12, .inl g)) :: (S ++ (gW E r (fun _ => 12) c 8 ++ T))).Perm (S ++ (((q9, .inl (E.2.2, 12, .inl g)) :: gW E r (fun _ => 12) c 8) ++ T)) := (List.perm_middle (l₁ := S)).symm
  refine h1.trans ?_
  rw [List.append_assoc S]
  refine List.Perm.append_left S ?_
  refine (List.Perm.append_right T h).trans ?_
  rw [List.append_assoc, List.append_assoc]
  exact List.Perm.append_left _ List.perm_append_comm
set_option maxHeartbeats 4000000 in
set_option maxRecDepth 100000 in
theorem c_L_below (E : gE) (v : Int32) (n : Nat) (h0 : 0 < n) (hn : n < 2147483648) : CtA E yL_below wsL_below ({ frames := 0, cells := 0, slots := 0, locals := 0 }) [.int v, .int (nI n)] [] (fun _ => some (.int (nI (zBl v n)))) (fun _ => []) := by
  refine CtP.of (cc := cL_below) (maxL := 2) (ret := (some .int)) (own := RL) (L := [(0, .int v), (1, .int (nI n))]) (by decide) rfl rfl (Nat.le_of_ble_eq_true rfl) rfl ?_
  intro X F hQ
  refine g_iload_n F dL_below_0 rfl 0 rfl ?_
  refine g_ldc (v := 2147483647) F dL_below_1 (List.mem_of_getElem? (i := 1) rfl) ?_
  refine g_iand F dL_below_3 ?_
  refine g_topr (y := nI (v.toBitVec.toNat % 2 ^ 31)) (pk_and v 31 rfl) ?_
  refine g_iload_n F dL_below_4 rfl 1 rfl ?_
  refine g_irem (v := nI (zBl v n)) F dL_below_5 (nI_ne0 h0 hn) ((pk_rem (a := v.toBitVec.toNat % 2 ^ 31) (d := n) (Nat.mod_lt _ (by decide)) h0 hn).symm) ?_
  exact g_iretP F hQ dL_below_6 (⟨fun _ => 0, rfl, rfl⟩)
set_option maxHeartbeats 4000000 in
set_option maxRecDepth 100000 in
theorem la_72 {E : gE} {X : gX} {x y pa sa kpa kka : Nat} {r : Nat → Nat} {c : Nat → AF} {f th : AF} {m : Nat} {car tur pre : Int32} {n : Nat} {k kp : AF} {kq : Nat} {ko ko' : Int32} {rs wm : va_W} {N bS nS : Nat} {xs : Nat → Int32} {v : Int32} {q : Nat} (hq : q < 8) (F : gF E X cL_act RL wsL_act (some .boolean) ({ frames := 9, cells := 150, slots := 2586, locals := 172 }) 8) (S : gLX E X bS nS xs) (T9 : gTab X [(601, 607, 610, 86)]) (hQ : gEndL E X (ActPo E x y N (f, th, m, car, tur, pre, n, k, kp, kq, ko)) 150 2586) (hm : MWP E x (f, th, m, car, tur, pre, n, k, kp, kq, ko) wm) (hc : RW c f) (hkp : KP E kpa kka n k kp kq ko ko' rs) (hok : OkS N (f, th, m, car, tur, pre, n, k, kp, kq, ko)) (hN : N < 1000) : G E X 0 0 72 [(0, .ref x), (1, .ref y), (2, .int v), (3, .int (nI q))] [] ([(y, .inr (5, [.ref pa, .int (nI m), .int car, .int tur, .int pre, .ref sa, .int (nI n), .ref kpa, .ref kka, .int ko'])), (pa, qE E 8 r), (sa, .inl (E.2.2, 6, .inl th))] ++ (gW E r (fun _ => 12) c 8 ++ (rs ++ wm))) := by
  have i5 : ∀ w ∈ u_ws RX5 TX5 10, w ∈ wsL_act := gsub [323, 324, 325, 326, 327, 328, 329, 330, 331, 332] rfl
  obtain ⟨fsM, heM⟩ := hm.mem
  refine g_iload_n F dL_act_72 rfl 2 rfl ?_
  refine g_iconst (v := 5) F dL_act_73 (by decide) ?_
  refine g_ishr F dL_act_74 ?_
  refine g_bipush (v := 12) F dL_act_75 (by decide) ?_
  refine g_callSA (R := ([(y, .inr (5, [.ref pa, .int (nI m), .int car, .int tur, .int pre, .ref sa, .int (nI n), .ref kpa, .ref kka, .int ko'])), (pa, qE E 8 r), (sa, .inl (E.2.2, 6, .inl th))] ++ (gW E r (fun _ => 12) c 8 ++ (rs ++ wm)))) F dL_act_77 (c_L_below E (v >>> (5 &&& 31)) 12 (by first | assumption | decide | omega) (by first | assumption | decide | omega)) rfl gL_act_L_below kS_L_below ⟨by decide, by decide⟩ (ps3 (pmc (A := []) (pmc (A := []) (pmc (A := []) (List.Perm.nil))))) rfl (Nat.le_of_ble_eq_true rfl) ⟨by show 0 + 0 ≤ 150; omega, by show 0 + 0 ≤ 2586; omega⟩ (fun a77 => ?_)
  refine g_ws (ws' := ([(y, .inr (5, [.ref pa, .int (nI m), .int car, .int tur, .int pre, .ref sa, .int (nI n), .ref kpa, .ref kka, .int ko'])), (pa, qE E 8 r), (sa, .inl (E.2.2, 6, .inl th))] ++ (gW E r (fun _ => 12) c 8 ++ (rs ++ wm)))) rfl ?_
  obtain ⟨b5, hb5, eb5⟩ : ∃ b, b < 12 ∧ nI (zBl (v >>> (5 &&& 31)) 12) = nI b := zBl_ex _ (by decide)
  refine g_topr eb5 ?_
  refine g_istore (L' := [(0, .ref x), (1, .ref y), (2, .int v), (3, .int (nI q)), (5, .int (nI b5))]) F dL_act_80 (by decide) [1, 2, 3, 4, 0] rfl ?_
  refine g_aload_n F dL_act_82 rfl 1 rfl ?_
  refine g_get F dL_act_83 0 rfl rfl i5 0 (by decide) rfl (List.mem_of_getElem? (i := 2) rfl) ?_
  refine g_iload_n F dL_act_86 rfl 3 rfl ?_
  refine g_aald (k := q) F dL_act_87 1 rfl (by omega) (by first | decide | omega) rfl ?_
  refine g_iload F dL_act_88 4 rfl ?_
  refine g_ialdG0 (y := q) (k := b5) F dL_act_90 rfl (by omega) (by show _ < _; first | decide | omega) (by show _ < _; first | decide | omega) ?_
  refine g_istore (L' := [(0, .ref x), (1, .ref y), (2, .int v), (3, .int (nI q)), (5, .int (nI b5)), (6, .int (c q b5))]) F dL_act_91 (by decide) [1, 2, 3, 4, 5, 0] rfl ?_
  refine g_aload_n F dL_act_93 rfl 1 rfl ?_
  refine g_get F dL_act_94 0 rfl rfl i5 0 (by decide) rfl (List.mem_of_getElem? (i := 2) rfl) ?_
  refine g_iload_n F dL_act_97 rfl 3 rfl ?_
  refine g_aald (k := q) F dL_act_98 1 rfl (by omega) (by first | decide | omega) rfl ?_
  refine g_iload F dL_act_99 4 rfl ?_
  refine g_iload_n F dL_act_101 rfl 2 rfl ?_
  refine g_iconst (v := 4) F dL_act_102 (by decide) ?_
  refine g_ishr F dL_act_103 ?_
  refine g_sipush (v := 256) F dL_act_104 (by decide) ?_
  refine g_callSA (R := ([(y, .inr (5, [.ref pa, .int (nI m), .int car, .int tur, .int pre, .ref sa, .int (nI n), .ref kpa, .ref kka, .int ko'])), (pa, qE E 8 r), (sa, .inl (E.2.2, 6, .inl th))] ++ (gW E r (fun _ => 12) c 8 ++ (rs ++ wm)))) F dL_act_107 (c_L_below E (v >>> (4 &&& 31)) 256 (by first | assumption | decide | omega) (by first | assumption | decide | omega)) rfl gL_act_L_below kS_L_below ⟨by decide, by decide⟩ (ps3 (pmc (A := []) (pmc (A := []) (pmc (A := []) (List.Perm.nil))))) rfl (Nat.le_of_ble_eq_true rfl) ⟨by show 0 + 0 + 0 ≤ 150; omega, by show 0 + 0 + 0 ≤ 2586; omega⟩ (fun a107 => ?_)
  refine g_ws (ws' := ([(y, .inr (5, [.ref pa, .int (nI m), .int car, .int tur, .int pre, .ref sa, .int (nI n), .ref kpa, .ref kka, .int ko'])), (pa, qE E 8 r), (sa, .inl (E.2.2, 6, .inl th))] ++ (gW E r (fun _ => 12) c 8 ++ (rs ++ wm)))) rfl ?_
  obtain ⟨b6, hb6, eb6⟩ : ∃ b, b < 256 ∧ nI (zBl (v >>> (4 &&& 31)) 256) = nI b := zBl_ex _ (by decide)
  refine g_topr eb6 ?_
  refine g_iastG0 (y := q) (k := b5) F dL_act_110 rfl (by omega) (by show _ < _; first | decide | omega) (by show _ < _; first | decide | omega) ?_
  refine g_ws (ws' := ([(y, .inr (5, [.ref pa, .int (nI m), .int car, .int tur, .int pre, .ref sa, .int (nI n), .ref kpa, .ref kka, .int ko'])), (pa, qE E 8 r), (sa, .inl (E.2.2, 6, .inl th))] ++ (gW E r (fun _ => 12) (va_up c q (upd (c q) b5 (nI b6))) 8 ++ (rs ++ wm)))) rfl ?_
  refine g_aload_n F dL_act_111 rfl 0 rfl ?_
  refine g_iload F dL_act_112 4 rfl ?_
  refine g_iload_n F dL_act_114 rfl 3 rfl ?_
  refine g_aload_n F dL_act_115 rfl 1 rfl ?_
  refine g_get F dL_act_116 0 rfl rfl i5 0 (by decide) rfl (List.mem_of_getElem? (i := 2) rfl) ?_
  refine g_iload_n F dL_act_119 rfl 3 rfl ?_
  refine g_aald (k := q) F dL_act_120 1 rfl (by omega) (by first | decide | omega) rfl ?_
  refine g_iload F dL_act_121 4 rfl ?_
  refine g_ialdG0 (y := q) (k := b5) F dL_act_123 rfl (by omega) (by show _ < _; first | decide | omega) (by show _ < _; first | decide | omega) ?_
  refine g_topr (y := nI b6) (by rw [va_up_self, pk_us]) ?_
  refine g_callM (B := ([(y, .inr (5, [.ref pa, .int (nI m), .int car, .int tur, .int pre, .ref sa, .int (nI n), .ref kpa, .ref kka, .int ko'])), (pa, qE E 8 r), (sa, .inl (E.2.2, 6, .inl th))] ++ (gW E r (fun _ => 12) (va_up c q (upd (c q) b5 (nI b6))) 8 ++ rs))) (wm := wm) F dL_act_124 (m_set hm b5 q (nI b6) hb5 hq (nI_pos (by omega)) (le_nI (i := 255) (by omega) (by omega))) rfl gL_act_X4_set heM rfl kV_X4_set ⟨by decide, by decide⟩ (by simp only [List.append_assoc]) rfl (by exact Nat.le_of_ble_eq_true rfl) ⟨by show 0 + 0 + 0 + 0 ≤ 150; omega, by show 0 + 0 + 0 + 0 ≤ 2586; omega⟩ (fun ov124 V124 hV124 => ?_)
  obtain ⟨rfl, hmN⟩ := hV124
  refine g_ws (ws' := ([(y, .inr (5, [.ref pa, .int (nI m), .int car, .int tur, .int pre, .ref sa, .int (nI n), .ref kpa, .ref kka, .int ko'])), (pa, qE E 8 r), (sa, .inl (E.2.2, 6, .inl th))] ++ (gW E r (fun _ => 12) (va_up c q (upd (c q) b5 (nI b6))) 8 ++ (rs ++ V124)))) (by simp only [List.append_assoc]) ?_
  refine g_iload F dL_act_127 5 rfl ?_
  refine g_icmp_ne_f (tgt := 136) F dL_act_129 (by decide) (fun z => z (hc q hq b5 hb5).symm) ?_
  refine g_iconst (v := 1) F dL_act_132 (by decide) ?_
  refine g_goto (tgt := 137) F dL_act_133 (by decide) ?_
  refine g_cs (cells' := 150) (slots' := 2586) (by show 0 + 0 + 0 + 0 ≤ 150; omega) (by show 0 + 0 + 0 + 0 ≤ 2586; omega) ?_
  exact g_zretL F hQ dL_act_137 (Or.inr rfl) (act_end hmN (hc.upd hq hb5 (nI b6)) hkp ⟨ok_upd hok.1 _ ⟨b6, hb6, rfl⟩, hok.2.1, hok.2.2.1, hok.2.2.2.1, hok.2.2.2.2.1, hok.2.2.2.2.2.1, by have := hok.2.2.2.2.2.2.1; omega, hok.2.2.2.2.2.2.2⟩ (Or.inl ⟨rfl, Nat.le_add_right _ _⟩))
set_option maxHeartbeats 4000000 in
set_option maxRecDepth 100000 in
theorem la_193 {E : gE} {X : gX} {x y pa sa kpa kka : Nat} {r : Nat → Nat} {c : Nat → AF} {f th : AF} {m : Nat} {car tur pre : Int32} {n : Nat} {k kp : AF} {kq : Nat} {ko ko' : Int32} {rs wm : va_W} {N bS nS : Nat} {xs : Nat → Int32} {v : Int32} {q : Nat} (hq : q < 8) (F : gF E X cL_act RL wsL_act (some .boolean) ({ frames := 9, cells := 150, slots := 2586, locals := 172 }) 8) (S : gLX E X bS nS xs) (T9 : gTab X [(601, 607, 610, 86)]) (hQ : gEndL E X (ActPo E x y N (f, th, m, car, tur, pre, n, k, kp, kq, ko)) 150 2586) (hm : MWP E x (f, th, m, car, tur, pre, n, k, kp, kq, ko) wm) (hc : RW c f) (hkp : KP E kpa kka n k kp kq ko ko' rs) (hok : OkS N (f, th, m, car, tur, pre, n, k, kp, kq, ko)) (hN : N < 1000) {b5 : Nat} (hb5 : b5 < 256) {w : Int32} (hw1 : ¬ w < (-60)) (hw2 : w ≤ 60) {cl sl : Nat} (hcl : cl ≤ 150) (hsl : sl ≤ 2586) : G E X cl sl 193 [(0, .ref x), (1, .ref y), (2, .int v), (3, .int (nI q)), (5, .int (nI b5))] [.int w] ([(y, .inr (5, [.ref pa, .int (nI m), .int car, .int tur, .int pre, .ref sa, .int (nI n), .ref kpa, .ref kka, .int ko'])), (pa, qE E 8 r), (sa, .inl (E.2.2, 6, .inl th))] ++ (gW E r (fun _ => 12) c 8 ++ (rs ++ wm))) := by
  have i5 : ∀ w ∈ u_ws RX5 TX5 10, w ∈ wsL_act := gsub [323, 324, 325, 326, 327, 328, 329, 330, 331, 332] rfl
  obtain ⟨fsM, heM⟩ := hm.mem
  refine g_istore (L' := [(0, .ref x), (1, .ref y), (2, .int v), (3, .int (nI q)), (5, .int (nI b5)), (6, .int w)]) F dL_act_193 (by decide) [1, 2, 3, 4, 5, 0] rfl ?_
  refine g_iconst (v := 0) F dL_act_195 (by decide) ?_
  refine g_istore (L' := [(0, .ref x), (1, .ref y), (2, .int v), (3, .int (nI q)), (5, .int (nI b5)), (6, .int w), (7, .int 0)]) F dL_act_196 (by decide) [1, 2, 3, 4, 5, 6, 0] rfl ?_
  have lp198 : ∀ (n198 i198 : Nat), i198 + n198 = 12 → G E X cl sl 198 [(0, .ref x), (1, .ref y), (2, .int v), (3, .int (nI q)), (5, .int (nI b5)), (6, .int w), (7, .int (nI i198))] [] ([(y, .inr (5, [.ref pa, .int (nI m), .int car, .int tur, .int pre, .ref sa, .int (nI n), .ref kpa, .ref kka, .int ko'])), (pa, qE E 8 r), (sa, .inl (E.2.2, 6, .inl th))] ++ (gW E r (fun _ => 12) (zRw c q (nI b5) w i198) 8 ++ (rs ++ wm))) := by
    intro n198
    induction n198 with
    | zero =>
      intro i198 hi198
      have he198 : i198 = 12 := by omega
      rw [he198]
      refine g_iload F dL_act_198 6 rfl ?_
      refine g_bipush (v := 12) F dL_act_200 (by decide) ?_
      refine g_icmp_ge_t (tgt := 238) F dL_act_202 (by decide) (by decide) ?_
      refine g_aload_n F dL_act_238 rfl 0 rfl ?_
      refine g_iload_n F dL_act_239 rfl 3 rfl ?_
      refine g_iload F dL_act_240 4 rfl ?_
      refine g_iload F dL_act_242 5 rfl ?_
      refine g_callM (B := ([(y, .inr (5, [.ref pa, .int (nI m), .int car, .int tur, .int pre, .ref sa, .int (nI n), .ref kpa, .ref kka, .int ko'])), (pa, qE E 8 r), (sa, .inl (E.2.2, 6, .inl th))] ++ (gW E r (fun _ => 12) (zRw c q (nI b5) w 12) 8 ++ rs))) (wm := wm) F dL_act_244 (m_row hm q (nI b5) w hq (nI_pos (by omega)) (le_nI (i := 255) (by omega) (by omega)) hw1 hw2) rfl gL_act_X4_row heM rfl kV_X4_row ⟨by decide, by decide⟩ (by simp only [List.append_assoc]) rfl (by exact Nat.le_of_ble_eq_true rfl) ⟨by show cl + 0 ≤ 150; omega, by show sl + 0 ≤ 2586; omega⟩ (fun ov244 V244 hV244 => ?_)
      obtain ⟨rfl, hmN⟩ := hV244
      refine g_ws (ws' := ([(y, .inr (5, [.ref pa, .int (nI m), .int car, .int tur, .int pre, .ref sa, .int (nI n), .ref kpa, .ref kka, .int ko'])), (pa, qE E 8 r), (sa, .inl (E.2.2, 6, .inl th))] ++ (gW E r (fun _ => 12) (zRw c q (nI b5) w 12) 8 ++ (rs ++ V244)))) (by simp only [List.append_assoc]) ?_
      refine g_aload_n F dL_act_247 rfl 1 rfl ?_
      refine g_get F dL_act_248 0 rfl rfl i5 0 (by decide) rfl (List.mem_of_getElem? (i := 2) rfl) ?_
      refine g_iload_n F dL_act_251 rfl 3 rfl ?_
      refine g_aald (k := q) F dL_act_252 1 rfl (by omega) (by first | decide | omega) rfl ?_
      refine g_bipush (v := 11) F dL_act_253 (by decide) ?_
      refine g_ialdG0 (y := q) (k := 11) F dL_act_255 rfl (by omega) (by show _ < _; first | decide | omega) (by show _ < _; first | decide | omega) ?_
      refine g_icmp_ne_f (tgt := 263) F dL_act_256 (by decide) (fun z => z (zRw_tie hc hq (nI b5) w 12 (Nat.le_refl _) q hq 11 (by decide)).symm) ?_
      refine g_iconst (v := 1) F dL_act_259 (by decide) ?_
      refine g_goto (tgt := 264) F dL_act_260 (by decide) ?_
      refine g_cs (cells' := 150) (slots' := 2586) (by show cl + 0 ≤ 150; omega) (by show sl + 0 ≤ 2586; omega) ?_
      exact g_zretL F hQ dL_act_264 (Or.inr rfl) (act_end hmN (zRw_tie hc hq (nI b5) w 12 (Nat.le_refl _)) hkp ⟨ok_row hok.1 _ _ _ _, hok.2.1, hok.2.2.1, hok.2.2.2.1, hok.2.2.2.2.1, hok.2.2.2.2.2.1, by have := hok.2.2.2.2.2.2.1; omega, hok.2.2.2.2.2.2.2⟩ (Or.inl ⟨rfl, Nat.le_add_right _ _⟩))
    | succ n198 ih198 =>
      intro i198 hi198
      have hl198 : i198 < 12 := by omega
      refine g_iload F dL_act_198 6 rfl ?_
      refine g_bipush (v := 12) F dL_act_200 (by decide) ?_
      refine g_icmp_ge_f (tgt := 238) F dL_act_202 (by decide) (nle_nI (n := 12) hl198 (by omega)) ?_
      refine g_aload_n F dL_act_205 rfl 1 rfl ?_
      refine g_get F dL_act_206 0 rfl rfl i5 0 (by decide) rfl (List.mem_of_getElem? (i := 2) rfl) ?_
      refine g_iload_n F dL_act_209 rfl 3 rfl ?_
      refine g_aald (k := q) F dL_act_210 1 rfl (by omega) (by first | decide | omega) rfl ?_
      refine g_iload F dL_act_211 6 rfl ?_
      refine g_iconst (v := 0) F dL_act_213 (by decide) ?_
      refine g_sipush (v := 255) F dL_act_214 (by decide) ?_
      refine g_iload F dL_act_217 4 rfl ?_
      refine g_iload F dL_act_219 5 rfl ?_
      refine g_iload F dL_act_221 6 rfl ?_
      refine g_imul F dL_act_223 ?_
      refine g_iadd F dL_act_224 ?_
      refine g_min F dL_act_225 (List.mem_of_getElem? (i := 3) rfl) (List.mem_of_getElem? (i := 4) rfl) (List.mem_of_getElem? (i := 5) rfl) (List.mem_of_getElem? (i := 6) rfl) (by decide) (Nat.le_of_ble_eq_true rfl) (by show cl ≤ 150; omega) (by show sl ≤ 2586; omega) ?_
      refine g_max F dL_act_228 (List.mem_of_getElem? (i := 7) rfl) (List.mem_of_getElem? (i := 8) rfl) (List.mem_of_getElem? (i := 5) rfl) (List.mem_of_getElem? (i := 9) rfl) (by decide) (Nat.le_of_ble_eq_true rfl) (by show cl ≤ 150; omega) (by show sl ≤ 2586; omega) ?_
      refine g_iastG0 (y := q) (k := i198) F dL_act_231 rfl (by omega) (by show _ < _; first | decide | omega) (by show _ < _; first | decide | omega) ?_
      refine g_ws (ws' := ([(y, .inr (5, [.ref pa, .int (nI m), .int car, .int tur, .int pre, .ref sa, .int (nI n), .ref kpa, .ref kka, .int ko'])), (pa, qE E 8 r), (sa, .inl (E.2.2, 6, .inl th))] ++ (gW E r (fun _ => 12) (va_up (zRw c q (nI b5) w i198) q (upd ((zRw c q (nI b5) w i198) q) i198 (sMax 0 (sMin 255 ((nI b5) + (w * (nI i198))))))) 8 ++ (rs ++ wm)))) rfl ?_
      refine g_iinc (L' := [(0, .ref x), (1, .ref y), (2, .int v), (3, .int (nI q)), (5, .int (nI b5)), (6, .int w), (7, .int (nI (i198 + 1)))]) (v := nI (i198 + 1)) F dL_act_232 6 rfl (nI_1 _) (by decide) [1, 2, 3, 4, 5, 6, 0] rfl ?_
      refine g_goto (tgt := 198) F dL_act_235 (by decide) ?_
      exact ih198 (i198 + 1) (by omega)
  exact lp198 12 0 (by omega)
set_option maxHeartbeats 4000000 in
set_option maxRecDepth 100000 in
theorem la_138 {E : gE} {X : gX} {x y pa sa kpa kka : Nat} {r : Nat → Nat} {c : Nat → AF} {f th : AF} {m : Nat} {car tur pre : Int32} {n : Nat} {k kp : AF} {kq : Nat} {ko ko' : Int32} {rs wm : va_W} {N bS nS : Nat} {xs : Nat → Int32} {v : Int32} {q : Nat} (hq : q < 8) (F : gF E X cL_act RL wsL_act (some .boolean) ({ frames := 9, cells := 150, slots := 2586, locals := 172 }) 8) (S : gLX E X bS nS xs) (T9 : gTab X [(601, 607, 610, 86)]) (hQ : gEndL E X (ActPo E x y N (f, th, m, car, tur, pre, n, k, kp, kq, ko)) 150 2586) (hm : MWP E x (f, th, m, car, tur, pre, n, k, kp, kq, ko) wm) (hc : RW c f) (hkp : KP E kpa kka n k kp kq ko ko' rs) (hok : OkS N (f, th, m, car, tur, pre, n, k, kp, kq, ko)) (hN : N < 1000) : G E X 0 0 138 [(0, .ref x), (1, .ref y), (2, .int v), (3, .int (nI q))] [] ([(y, .inr (5, [.ref pa, .int (nI m), .int car, .int tur, .int pre, .ref sa, .int (nI n), .ref kpa, .ref kka, .int ko'])), (pa, qE E 8 r), (sa, .inl (E.2.2, 6, .inl th))] ++ (gW E r (fun _ => 12) c 8 ++ (rs ++ wm))) := by
  have i5 : ∀ w ∈ u_ws RX5 TX5 10, w ∈ wsL_act := gsub [323, 324, 325, 326, 327, 328, 329, 330, 331, 332] rfl
  obtain ⟨fsM, heM⟩ := hm.mem
  refine g_iload_n F dL_act_138 rfl 2 rfl ?_
  refine g_iconst (v := 4) F dL_act_139 (by decide) ?_
  refine g_ishr F dL_act_140 ?_
  refine g_sipush (v := 256) F dL_act_141 (by decide) ?_
  refine g_callSA (R := ([(y, .inr (5, [.ref pa, .int (nI m), .int car, .int tur, .int pre, .ref sa, .int (nI n), .ref kpa, .ref kka, .int ko'])), (pa, qE E 8 r), (sa, .inl (E.2.2, 6, .inl th))] ++ (gW E r (fun _ => 12) c 8 ++ (rs ++ wm)))) F dL_act_144 (c_L_below E (v >>> (4 &&& 31)) 256 (by first | assumption | decide | omega) (by first | assumption | decide | omega)) rfl gL_act_L_below kS_L_below ⟨by decide, by decide⟩ (ps3 (pmc (A := []) (pmc (A := []) (pmc (A := []) (List.Perm.nil))))) rfl (Nat.le_of_ble_eq_true rfl) ⟨by show 0 + 0 ≤ 150; omega, by show 0 + 0 ≤ 2586; omega⟩ (fun a144 => ?_)
  refine g_ws (ws' := ([(y, .inr (5, [.ref pa, .int (nI m), .int car, .int tur, .int pre, .ref sa, .int (nI n), .ref kpa, .ref kka, .int ko'])), (pa, qE E 8 r), (sa, .inl (E.2.2, 6, .inl th))] ++ (gW E r (fun _ => 12) c 8 ++ (rs ++ wm)))) rfl ?_
  obtain ⟨b5, hb5, eb5⟩ : ∃ b, b < 256 ∧ nI (zBl (v >>> (4 &&& 31)) 256) = nI b := zBl_ex _ (by decide)
  refine g_topr eb5 ?_
  refine g_istore (L' := [(0, .ref x), (1, .ref y), (2, .int v), (3, .int (nI q)), (5, .int (nI b5))]) F dL_act_147 (by decide) [1, 2, 3, 4, 0] rfl ?_
  refine g_iload_n F dL_act_149 rfl 2 rfl ?_
  refine g_bipush (v := 7) F dL_act_150 (by decide) ?_
  refine g_ishr F dL_act_152 ?_
  refine g_iload_n F dL_act_153 rfl 2 rfl ?_
  refine g_bipush (v := 9) F dL_act_154 (by decide) ?_
  refine g_ishr F dL_act_156 ?_
  refine g_iconst (v := 2) F dL_act_157 (by decide) ?_
  refine g_callSA (R := ([(y, .inr (5, [.ref pa, .int (nI m), .int car, .int tur, .int pre, .ref sa, .int (nI n), .ref kpa, .ref kka, .int ko'])), (pa, qE E 8 r), (sa, .inl (E.2.2, 6, .inl th))] ++ (gW E r (fun _ => 12) c 8 ++ (rs ++ wm)))) F dL_act_158 (c_L_below E (v >>> (9 &&& 31)) 2 (by first | assumption | decide | omega) (by first | assumption | decide | omega)) rfl gL_act_L_below kS_L_below ⟨by decide, by decide⟩ (ps3 (pmc (A := []) (pmc (A := []) (pmc (A := []) (List.Perm.nil))))) rfl (Nat.le_of_ble_eq_true rfl) ⟨by show 0 + 0 + 0 ≤ 150; omega, by show 0 + 0 + 0 ≤ 2586; omega⟩ (fun a158 => ?_)
  refine g_ws (ws' := ([(y, .inr (5, [.ref pa, .int (nI m), .int car, .int tur, .int pre, .ref sa, .int (nI n), .ref kpa, .ref kka, .int ko'])), (pa, qE E 8 r), (sa, .inl (E.2.2, 6, .inl th))] ++ (gW E r (fun _ => 12) c 8 ++ (rs ++ wm)))) rfl ?_
  refine g_if_ne (tgt := 169) F dL_act_161 (by decide) (fun k161 => ?_) (fun k161 => ?_)
  · skip
    refine g_bipush (v := 31) F dL_act_169 (by decide) ?_
    refine g_callSA (R := ([(y, .inr (5, [.ref pa, .int (nI m), .int car, .int tur, .int pre, .ref sa, .int (nI n), .ref kpa, .ref kka, .int ko'])), (pa, qE E 8 r), (sa, .inl (E.2.2, 6, .inl th))] ++ (gW E r (fun _ => 12) c 8 ++ (rs ++ wm)))) F dL_act_171 (c_L_below E (v >>> (7 &&& 31)) 31 (by first | assumption | decide | omega) (by first | assumption | decide | omega)) rfl gL_act_L_below kS_L_below ⟨by decide, by decide⟩ (ps3 (pmc (A := []) (pmc (A := []) (pmc (A := []) (List.Perm.nil))))) rfl (Nat.le_of_ble_eq_true rfl) ⟨by show 0 + 0 + 0 + 0 ≤ 150; omega, by show 0 + 0 + 0 + 0 ≤ 2586; omega⟩ (fun a171 => ?_)
    refine g_ws (ws' := ([(y, .inr (5, [.ref pa, .int (nI m), .int car, .int tur, .int pre, .ref sa, .int (nI n), .ref kpa, .ref kka, .int ko'])), (pa, qE E 8 r), (sa, .inl (E.2.2, 6, .inl th))] ++ (gW E r (fun _ => 12) c 8 ++ (rs ++ wm)))) rfl ?_
    obtain ⟨b7, hb7, eb7⟩ : ∃ b, b < 31 ∧ nI (zBl (v >>> (7 &&& 31)) 31) = nI b := zBl_ex _ (by decide)
    refine g_topr eb7 ?_
    refine g_iload_n F dL_act_174 rfl 2 rfl ?_
    refine g_bipush (v := 9) F dL_act_175 (by decide) ?_
    refine g_ishr F dL_act_177 ?_
    refine g_iconst (v := 2) F dL_act_178 (by decide) ?_
    refine g_callSA (R := ([(y, .inr (5, [.ref pa, .int (nI m), .int car, .int tur, .int pre, .ref sa, .int (nI n), .ref kpa, .ref kka, .int ko'])), (pa, qE E 8 r), (sa, .inl (E.2.2, 6, .inl th))] ++ (gW E r (fun _ => 12) c 8 ++ (rs ++ wm)))) F dL_act_179 (c_L_below E (v >>> (9 &&& 31)) 2 (by first | assumption | decide | omega) (by first | assumption | decide | omega)) rfl gL_act_L_below kS_L_below ⟨by decide, by decide⟩ (ps3 (pmc (A := []) (pmc (A := []) (pmc (A := []) (List.Perm.nil))))) rfl (Nat.le_of_ble_eq_true rfl) ⟨by show 0 + 0 + 0 + 0 + 0 ≤ 150; omega, by show 0 + 0 + 0 + 0 + 0 ≤ 2586; omega⟩ (fun a179 => ?_)
    refine g_ws (ws' := ([(y, .inr (5, [.ref pa, .int (nI m), .int car, .int tur, .int pre, .ref sa, .int (nI n), .ref kpa, .ref kka, .int ko'])), (pa, qE E 8 r), (sa, .inl (E.2.2, 6, .inl th))] ++ (gW E r (fun _ => 12) c 8 ++ (rs ++ wm)))) rfl ?_
    refine g_if_ne_t (tgt := 190) F dL_act_182 (by decide) (k161) ?_
    refine g_bipush (v := 15) F dL_act_190 (by decide) ?_
    refine g_isub F dL_act_192 ?_
    exact la_193 hq F S T9 hQ hm hc hkp hok hN hb5 (stp_ok (a := 15) (by omega) (by decide)).1 (stp_ok (a := 15) (by omega) (by decide)).2 (cl := 0 + 0 + 0 + 0 + 0) (sl := 0 + 0 + 0 + 0 + 0) (by omega) (by omega)
  · skip
    refine g_bipush (v := 121) F dL_act_164 (by decide) ?_
    refine g_goto (tgt := 171) F dL_act_166 (by decide) ?_
    refine g_callSA (R := ([(y, .inr (5, [.ref pa, .int (nI m), .int car, .int tur, .int pre, .ref sa, .int (nI n), .ref kpa, .ref kka, .int ko'])), (pa, qE E 8 r), (sa, .inl (E.2.2, 6, .inl th))] ++ (gW E r (fun _ => 12) c 8 ++ (rs ++ wm)))) F dL_act_171 (c_L_below E (v >>> (7 &&& 31)) 121 (by first | assumption | decide | omega) (by first | assumption | decide | omega)) rfl gL_act_L_below kS_L_below ⟨by decide, by decide⟩ (ps3 (pmc (A := []) (pmc (A := []) (pmc (A := []) (List.Perm.nil))))) rfl (Nat.le_of_ble_eq_true rfl) ⟨by show 0 + 0 + 0 + 0 ≤ 150; omega, by show 0 + 0 + 0 + 0 ≤ 2586; omega⟩ (fun a171 => ?_)
    refine g_ws (ws' := ([(y, .inr (5, [.ref pa, .int (nI m), .int car, .int tur, .int pre, .ref sa, .int (nI n), .ref kpa, .ref kka, .int ko'])), (pa, qE E 8 r), (sa, .inl (E.2.2, 6, .inl th))] ++ (gW E r (fun _ => 12) c 8 ++ (rs ++ wm)))) rfl ?_
    obtain ⟨b7, hb7, eb7⟩ : ∃ b, b < 121 ∧ nI (zBl (v >>> (7 &&& 31)) 121) = nI b := zBl_ex _ (by decide)
    refine g_topr eb7 ?_
    refine g_iload_n F dL_act_174 rfl 2 rfl ?_
    refine g_bipush (v := 9) F dL_act_175 (by decide) ?_
    refine g_ishr F dL_act_177 ?_
    refine g_iconst (v := 2) F dL_act_178 (by decide) ?_
    refine g_callSA (R := ([(y, .inr (5, [.ref pa, .int (nI m), .int car, .int tur, .int pre, .ref sa, .int (nI n), .ref kpa, .ref kka, .int ko'])), (pa, qE E 8 r), (sa, .inl (E.2.2, 6, .inl th))] ++ (gW E r (fun _ => 12) c 8 ++ (rs ++ wm)))) F dL_act_179 (c_L_below E (v >>> (9 &&& 31)) 2 (by first | assumption | decide | omega) (by first | assumption | decide | omega)) rfl gL_act_L_below kS_L_below ⟨by decide, by decide⟩ (ps3 (pmc (A := []) (pmc (A := []) (pmc (A := []) (List.Perm.nil))))) rfl (Nat.le_of_ble_eq_true rfl) ⟨by show 0 + 0 + 0 + 0 + 0 ≤ 150; omega, by show 0 + 0 + 0 + 0 + 0 ≤ 2586; omega⟩ (fun a179 => ?_)
    refine g_ws (ws' := ([(y, .inr (5, [.ref pa, .int (nI m), .int car, .int tur, .int pre, .ref sa, .int (nI n), .ref kpa, .ref kka, .int ko'])), (pa, qE E 8 r), (sa, .inl (E.2.2, 6, .inl th))] ++ (gW E r (fun _ => 12) c 8 ++ (rs ++ wm)))) rfl ?_
    refine g_if_ne_f (tgt := 190) F dL_act_182 (by decide) (k161) ?_
    refine g_bipush (v := 60) F dL_act_185 (by decide) ?_
    refine g_goto (tgt := 192) F dL_act_187 (by decide) ?_
    refine g_isub F dL_act_192 ?_
    exact la_193 hq F S T9 hQ hm hc hkp hok hN hb5 (stp_ok (a := 60) (by omega) (by decide)).1 (stp_ok (a := 60) (by omega) (by decide)).2 (cl := 0 + 0 + 0 + 0 + 0) (sl := 0 + 0 + 0 + 0 + 0) (by omega) (by omega)
set_option maxHeartbeats 4000000 in
set_option maxRecDepth 100000 in
theorem la_265 {E : gE} {X : gX} {x y pa sa kpa kka : Nat} {r : Nat → Nat} {c : Nat → AF} {f th : AF} {m : Nat} {car tur pre : Int32} {n : Nat} {k kp : AF} {kq : Nat} {ko ko' : Int32} {rs wm : va_W} {N bS nS : Nat} {xs : Nat → Int32} {v : Int32} {q : Nat} (hq : q < 8) (F : gF E X cL_act RL wsL_act (some .boolean) ({ frames := 9, cells := 150, slots := 2586, locals := 172 }) 8) (S : gLX E X bS nS xs) (T9 : gTab X [(601, 607, 610, 86)]) (hQ : gEndL E X (ActPo E x y N (f, th, m, car, tur, pre, n, k, kp, kq, ko)) 150 2586) (hm : MWP E x (f, th, m, car, tur, pre, n, k, kp, kq, ko) wm) (hc : RW c f) (hkp : KP E kpa kka n k kp kq ko ko' rs) (hok : OkS N (f, th, m, car, tur, pre, n, k, kp, kq, ko)) (hN : N < 1000) : G E X 0 0 265 [(0, .ref x), (1, .ref y), (2, .int v), (3, .int (nI q))] [] ([(y, .inr (5, [.ref pa, .int (nI m), .int car, .int tur, .int pre, .ref sa, .int (nI n), .ref kpa, .ref kka, .int ko'])), (pa, qE E 8 r), (sa, .inl (E.2.2, 6, .inl th))] ++ (gW E r (fun _ => 12) c 8 ++ (rs ++ wm))) := by
  have i5 : ∀ w ∈ u_ws RX5 TX5 10, w ∈ wsL_act := gsub [323, 324, 325, 326, 327, 328, 329, 330, 331, 332] rfl
  obtain ⟨fsM, heM⟩ := hm.mem
  refine g_iload_n F dL_act_265 rfl 2 rfl ?_
  refine g_iconst (v := 5) F dL_act_266 (by decide) ?_
  refine g_ishr F dL_act_267 ?_
  refine g_bipush (v := 8) F dL_act_268 (by decide) ?_
  refine g_callSA (R := ([(y, .inr (5, [.ref pa, .int (nI m), .int car, .int tur, .int pre, .ref sa, .int (nI n), .ref kpa, .ref kka, .int ko'])), (pa, qE E 8 r), (sa, .inl (E.2.2, 6, .inl th))] ++ (gW E r (fun _ => 12) c 8 ++ (rs ++ wm)))) F dL_act_270 (c_L_below E (v >>> (5 &&& 31)) 8 (by first | assumption | decide | omega) (by first | assumption | decide | omega)) rfl gL_act_L_below kS_L_below ⟨by decide, by decide⟩ (ps3 (pmc (A := []) (pmc (A := []) (pmc (A := []) (List.Perm.nil))))) rfl (Nat.le_of_ble_eq_true rfl) ⟨by show 0 + 0 ≤ 150; omega, by show 0 + 0 ≤ 2586; omega⟩ (fun a270 => ?_)
  refine g_ws (ws' := ([(y, .inr (5, [.ref pa, .int (nI m), .int car, .int tur, .int pre, .ref sa, .int (nI n), .ref kpa, .ref kka, .int ko'])), (pa, qE E 8 r), (sa, .inl (E.2.2, 6, .inl th))] ++ (gW E r (fun _ => 12) c 8 ++ (rs ++ wm)))) rfl ?_
  obtain ⟨b5, hb5, eb5⟩ : ∃ b, b < 8 ∧ nI (zBl (v >>> (5 &&& 31)) 8) = nI b := zBl_ex _ (by decide)
  refine g_topr eb5 ?_
  refine g_istore (L' := [(0, .ref x), (1, .ref y), (2, .int v), (3, .int (nI q)), (5, .int (nI b5))]) F dL_act_273 (by decide) [1, 2, 3, 4, 0] rfl ?_
  refine g_iconst (v := 0) F dL_act_275 (by decide) ?_
  refine g_istore (L' := [(0, .ref x), (1, .ref y), (2, .int v), (3, .int (nI q)), (5, .int (nI b5)), (6, .int 0)]) F dL_act_276 (by decide) [1, 2, 3, 4, 5, 0] rfl ?_
  refine g_iconst (v := 0) F dL_act_278 (by decide) ?_
  refine g_istore (L' := [(0, .ref x), (1, .ref y), (2, .int v), (3, .int (nI q)), (5, .int (nI b5)), (6, .int 0), (7, .int 0)]) F dL_act_279 (by decide) [1, 2, 3, 4, 5, 6, 0] rfl ?_
  have lp281 : ∀ (n281 i281 : Nat), i281 + n281 = 12 → G E X (0 + 0) (0 + 0) 281 [(0, .ref x), (1, .ref y), (2, .int v), (3, .int (nI q)), (5, .int (nI b5)), (6, .int (zLk c q b5 i281)), (7, .int (nI i281))] [] ([(y, .inr (5, [.ref pa, .int (nI m), .int car, .int tur, .int pre, .ref sa, .int (nI n), .ref kpa, .ref kka, .int ko'])), (pa, qE E 8 r), (sa, .inl (E.2.2, 6, .inl th))] ++ (gW E r (fun _ => 12) c 8 ++ (rs ++ wm))) := by
    intro n281
    induction n281 with
    | zero =>
      intro i281 hi281
      have he281 : i281 = 12 := by omega
      rw [he281]
      refine g_iload F dL_act_281 6 rfl ?_
      refine g_bipush (v := 12) F dL_act_283 (by decide) ?_
      refine g_icmp_ge_t (tgt := 326) F dL_act_285 (by decide) (by decide) ?_
      refine g_aload_n F dL_act_326 rfl 1 rfl ?_
      refine g_get F dL_act_327 0 rfl rfl i5 0 (by decide) rfl (List.mem_of_getElem? (i := 2) rfl) ?_
      refine g_iload_n F dL_act_330 rfl 3 rfl ?_
      refine g_aload_n F dL_act_331 rfl 1 rfl ?_
      refine g_get F dL_act_332 0 rfl rfl i5 0 (by decide) rfl (List.mem_of_getElem? (i := 2) rfl) ?_
      refine g_iload F dL_act_335 4 rfl ?_
      refine g_aald (k := b5) F dL_act_337 1 rfl (by omega) (by first | decide | omega) rfl ?_
      refine g_clone (f := c b5) F dL_act_338 (List.mem_of_getElem? (i := 10) rfl) (List.mem_of_getElem? (i := 11) rfl) (List.mem_of_getElem? (i := 12) rfl) (List.mem_of_getElem? (i := 13) rfl) (List.mem_of_getElem? (i := 14) rfl) (3 + b5) (gW_in (A := [(y, .inr (5, [.ref pa, .int (nI m), .int car, .int tur, .int pre, .ref sa, .int (nI n), .ref kpa, .ref kka, .int ko'])), (pa, qE E 8 r), (sa, .inl (E.2.2, 6, .inl th))]) hb5) (by decide) (Nat.le_of_ble_eq_true rfl) (by show 0 + 0 + 1 ≤ 150; omega) (by show 0 + 0 + 12 ≤ 2586; omega) (fun q338 => g_front ?_)
      refine g_ws (ws' := ([(q338, .inl (E.2.2, 12, .inl (c b5))), (y, .inr (5, [.ref pa, .int (nI m), .int car, .int tur, .int pre, .ref sa, .int (nI n), .ref kpa, .ref kka, .int ko'])), (pa, qE E 8 r), (sa, .inl (E.2.2, 6, .inl th))] ++ (gW E r (fun _ => 12) c 8 ++ (rs ++ wm)))) rfl ?_
      refine g_castI F dL_act_341 (List.mem_of_getElem? (i := 15) rfl) 0 rfl ?_
      refine g_aast (k := q) (ws' := ([(q338, .inl (E.2.2, 12, .inl (c b5))), (y, .inr (5, [.ref pa, .int (nI m), .int car, .int tur, .int pre, .ref sa, .int (nI n), .ref kpa, .ref kka, .int ko'])), (pa, qF E 8 (va_up (fun j => some (r j)) q (some q338))), (sa, .inl (E.2.2, 6, .inl th))] ++ (gW E r (fun _ => 12) c 8 ++ (rs ++ wm)))) F dL_act_344 2 0 rfl rfl (by omega) (by first | decide | omega) rfl ?_
      refine g_req (ws' := ([(q338, .inl (E.2.2, 12, .inl (c b5))), (y, .inr (5, [.ref pa, .int (nI m), .int car, .int tur, .int pre, .ref sa, .int (nI n), .ref kpa, .ref kka, .int ko'])), (pa, qE E 8 (va_up r q q338)), (sa, .inl (E.2.2, 6, .inl th))] ++ (gW E r (fun _ => 12) c 8 ++ (rs ++ wm)))) (g := fun j => some (va_up r q q338 j)) 2 rfl (rq_at r q q338) rfl ?_
      refine g_perm (ws' := ([(y, .inr (5, [.ref pa, .int (nI m), .int car, .int tur, .int pre, .ref sa, .int (nI n), .ref kpa, .ref kka, .int ko'])), (pa, qE E 8 (va_up r q q338)), (sa, .inl (E.2.2, 6, .inl th))] ++ (gW E (va_up r q q338) (fun _ => 12) (va_up c q (c b5)) 8 ++ (rs ++ wm))) ++ [(r q, .inl (E.2.2, 12, .inl (c q)))]) (row_in (E := E) (r := r) (c := c) (q9 := q338) (g := c b5) (S := [(y, .inr (5, [.ref pa, .int (nI m), .int car, .int tur, .int pre, .ref sa, .int (nI n), .ref kpa, .ref kka, .int ko'])), (pa, qE E 8 (va_up r q q338)), (sa, .inl (E.2.2, 6, .inl th))]) (T := (rs ++ wm)) hq) (g_drop ?_)
      refine g_aload_n F dL_act_345 rfl 0 rfl ?_
      refine g_iload_n F dL_act_346 rfl 3 rfl ?_
      refine g_iload F dL_act_347 4 rfl ?_
      refine g_callM (B := ([(y, .inr (5, [.ref pa, .int (nI m), .int car, .int tur, .int pre, .ref sa, .int (nI n), .ref kpa, .ref kka, .int ko'])), (pa, qE E 8 (va_up r q q338)), (sa, .inl (E.2.2, 6, .inl th))] ++ (gW E (va_up r q q338) (fun _ => 12) (va_up c q (c b5)) 8 ++ rs))) (wm := wm) F dL_act_349 (m_like hm q b5 hq hb5) rfl gL_act_X4_like heM rfl kV_X4_like ⟨by decide, by decide⟩ (by simp only [List.append_assoc]) rfl (by exact Nat.le_of_ble_eq_true rfl) ⟨by show 0 + 0 + 1 + 0 ≤ 150; omega, by show 0 + 0 + 12 + 0 ≤ 2586; omega⟩ (fun ov349 V349 hV349 => ?_)
      obtain ⟨rfl, hmN⟩ := hV349
      refine g_ws (ws' := ([(y, .inr (5, [.ref pa, .int (nI m), .int car, .int tur, .int pre, .ref sa, .int (nI n), .ref kpa, .ref kka, .int ko'])), (pa, qE E 8 (va_up r q q338)), (sa, .inl (E.2.2, 6, .inl th))] ++ (gW E (va_up r q q338) (fun _ => 12) (va_up c q (c b5)) 8 ++ (rs ++ V349)))) (by simp only [List.append_assoc]) ?_
      refine g_iload F dL_act_352 5 rfl ?_
      refine g_icmp_ne_f (tgt := 361) F dL_act_354 (by decide) (fun z => z (zLk_tie hc hq hb5 12 (Nat.le_refl _)).symm) ?_
      refine g_iconst (v := 1) F dL_act_357 (by decide) ?_
      refine g_goto (tgt := 362) F dL_act_358 (by decide) ?_
      refine g_cs (cells' := 150) (slots' := 2586) (by show 0 + 0 + 1 + 0 ≤ 150; omega) (by show 0 + 0 + 12 + 0 ≤ 2586; omega) ?_
      exact g_zretL F hQ dL_act_362 (Or.inr rfl) (act_end hmN (hc.lk hq hb5) hkp ⟨ok_lk hok.1 _ hb5 12 (Nat.le_refl _), hok.2.1, hok.2.2.1, hok.2.2.2.1, hok.2.2.2.2.1, hok.2.2.2.2.2.1, by have := hok.2.2.2.2.2.2.1; omega, hok.2.2.2.2.2.2.2⟩ (Or.inl ⟨rfl, Nat.le_add_right _ _⟩))
    | succ n281 ih281 =>
      intro i281 hi281
      have hl281 : i281 < 12 := by omega
      refine g_iload F dL_act_281 6 rfl ?_
      refine g_bipush (v := 12) F dL_act_283 (by decide) ?_
      refine g_icmp_ge_f (tgt := 326) F dL_act_285 (by decide) (nle_nI (n := 12) hl281 (by omega)) ?_
      refine g_iload F dL_act_288 5 rfl ?_
      refine g_aload_n F dL_act_290 rfl 1 rfl ?_
      refine g_get F dL_act_291 0 rfl rfl i5 0 (by decide) rfl (List.mem_of_getElem? (i := 2) rfl) ?_
      refine g_iload_n F dL_act_294 rfl 3 rfl ?_
      refine g_aald (k := q) F dL_act_295 1 rfl (by omega) (by first | decide | omega) rfl ?_
      refine g_iload F dL_act_296 6 rfl ?_
      refine g_ialdG0 (y := q) (k := i281) F dL_act_298 rfl (by omega) (by show _ < _; first | decide | omega) (by show _ < _; first | decide | omega) ?_
      refine g_aload_n F dL_act_299 rfl 1 rfl ?_
      refine g_get F dL_act_300 0 rfl rfl i5 0 (by decide) rfl (List.mem_of_getElem? (i := 2) rfl) ?_
      refine g_iload F dL_act_303 4 rfl ?_
      refine g_aald (k := b5) F dL_act_305 1 rfl (by omega) (by first | decide | omega) rfl ?_
      refine g_iload F dL_act_306 6 rfl ?_
      refine g_ialdG0 (y := b5) (k := i281) F dL_act_308 rfl (by omega) (by show _ < _; first | decide | omega) (by show _ < _; first | decide | omega) ?_
      have jn317 : G E X (0 + 0) (0 + 0) 317 [(0, .ref x), (1, .ref y), (2, .int v), (3, .int (nI q)), (5, .int (nI b5)), (6, .int (zLk c q b5 i281)), (7, .int (nI i281))] [.int (if c q i281 = c b5 i281 then 0 else 1), .int (zLk c q b5 i281)] ([(y, .inr (5, [.ref pa, .int (nI m), .int car, .int tur, .int pre, .ref sa, .int (nI n), .ref kpa, .ref kka, .int ko'])), (pa, qE E 8 r), (sa, .inl (E.2.2, 6, .inl th))] ++ (gW E r (fun _ => 12) c 8 ++ (rs ++ wm))) := by
        refine g_iadd F dL_act_317 ?_
        refine g_istore (L' := [(0, .ref x), (1, .ref y), (2, .int v), (3, .int (nI q)), (5, .int (nI b5)), (6, .int ((zLk c q b5 i281) + (if c q i281 = c b5 i281 then 0 else 1))), (7, .int (nI i281))]) F dL_act_318 (by decide) [1, 2, 3, 4, 5, 0, 6] rfl ?_
        refine g_iinc (L' := [(0, .ref x), (1, .ref y), (2, .int v), (3, .int (nI q)), (5, .int (nI b5)), (6, .int ((zLk c q b5 i281) + (if c q i281 = c b5 i281 then 0 else 1))), (7, .int (nI (i281 + 1)))]) (v := nI (i281 + 1)) F dL_act_320 6 rfl (nI_1 _) (by decide) [1, 2, 3, 4, 5, 6, 0] rfl ?_
        refine g_goto (tgt := 281) F dL_act_323 (by decide) ?_
        exact ih281 (i281 + 1) (by omega)
      refine g_icmp_eq (tgt := 316) F dL_act_309 (by decide) (fun k309 => ?_) (fun k309 => ?_)
      · skip
        refine g_iconst (v := 0) F dL_act_316 (by decide) ?_
        exact g_topr (by simp [k309]) jn317
      · skip
        refine g_iconst (v := 1) F dL_act_312 (by decide) ?_
        refine g_goto (tgt := 317) F dL_act_313 (by decide) ?_
        exact g_topr (by simp [k309]) jn317
  exact lp281 12 0 (by omega)
set_option maxHeartbeats 4000000 in
set_option maxRecDepth 100000 in
theorem la_363 {E : gE} {X : gX} {x y pa sa kpa kka : Nat} {r : Nat → Nat} {c : Nat → AF} {f th : AF} {m : Nat} {car tur pre : Int32} {n : Nat} {k kp : AF} {kq : Nat} {ko ko' : Int32} {rs wm : va_W} {N bS nS : Nat} {xs : Nat → Int32} {v : Int32} {q : Nat} (hq : q < 8) (F : gF E X cL_act RL wsL_act (some .boolean) ({ frames := 9, cells := 150, slots := 2586, locals := 172 }) 8) (S : gLX E X bS nS xs) (T9 : gTab X [(601, 607, 610, 86)]) (hQ : gEndL E X (ActPo E x y N (f, th, m, car, tur, pre, n, k, kp, kq, ko)) 150 2586) (hm : MWP E x (f, th, m, car, tur, pre, n, k, kp, kq, ko) wm) (hc : RW c f) (hkp : KP E kpa kka n k kp kq ko ko' rs) (hok : OkS N (f, th, m, car, tur, pre, n, k, kp, kq, ko)) (hN : N < 1000) : G E X 0 0 363 [(0, .ref x), (1, .ref y), (2, .int v), (3, .int (nI q))] [] ([(y, .inr (5, [.ref pa, .int (nI m), .int car, .int tur, .int pre, .ref sa, .int (nI n), .ref kpa, .ref kka, .int ko'])), (pa, qE E 8 r), (sa, .inl (E.2.2, 6, .inl th))] ++ (gW E r (fun _ => 12) c 8 ++ (rs ++ wm))) := by
  have i5 : ∀ w ∈ u_ws RX5 TX5 10, w ∈ wsL_act := gsub [323, 324, 325, 326, 327, 328, 329, 330, 331, 332] rfl
  obtain ⟨fsM, heM⟩ := hm.mem
  refine g_aload_n F dL_act_363 rfl 1 rfl ?_
  refine g_get F dL_act_364 0 rfl rfl i5 1 (by decide) rfl (List.mem_of_getElem? (i := 16) rfl) ?_
  refine g_istore (L' := [(0, .ref x), (1, .ref y), (2, .int v), (3, .int (nI q)), (5, .int (nI m))]) F dL_act_367 (by decide) [1, 2, 3, 4, 0] rfl ?_
  refine g_aload_n F dL_act_369 rfl 1 rfl ?_
  refine g_iconst (v := 2) F dL_act_370 (by decide) ?_
  refine g_iload_n F dL_act_371 rfl 2 rfl ?_
  refine g_iconst (v := 4) F dL_act_372 (by decide) ?_
  refine g_ishr F dL_act_373 ?_
  refine g_iconst (v := 5) F dL_act_374 (by decide) ?_
  refine g_callSA (R := ([(y, .inr (5, [.ref pa, .int (nI m), .int car, .int tur, .int pre, .ref sa, .int (nI n), .ref kpa, .ref kka, .int ko'])), (pa, qE E 8 r), (sa, .inl (E.2.2, 6, .inl th))] ++ (gW E r (fun _ => 12) c 8 ++ (rs ++ wm)))) F dL_act_375 (c_L_below E (v >>> (4 &&& 31)) 5 (by first | assumption | decide | omega) (by first | assumption | decide | omega)) rfl gL_act_L_below kS_L_below ⟨by decide, by decide⟩ (ps3 (pmc (A := []) (pmc (A := []) (pmc (A := []) (List.Perm.nil))))) rfl (Nat.le_of_ble_eq_true rfl) ⟨by show 0 + 0 ≤ 150; omega, by show 0 + 0 ≤ 2586; omega⟩ (fun a375 => ?_)
  refine g_ws (ws' := ([(y, .inr (5, [.ref pa, .int (nI m), .int car, .int tur, .int pre, .ref sa, .int (nI n), .ref kpa, .ref kka, .int ko'])), (pa, qE E 8 r), (sa, .inl (E.2.2, 6, .inl th))] ++ (gW E r (fun _ => 12) c 8 ++ (rs ++ wm)))) rfl ?_
  obtain ⟨b5, hb5, eb5⟩ : ∃ b, b < 5 ∧ nI (zBl (v >>> (4 &&& 31)) 5) = nI b := zBl_ex _ (by decide)
  refine g_topr eb5 ?_
  refine g_iadd F dL_act_378 ?_
  refine g_topr (y := nI (2 + b5)) (nI_add 2 b5) ?_
  refine g_put (ws' := ([(y, .inr (5, [.ref pa, .int (nI (2 + b5)), .int car, .int tur, .int pre, .ref sa, .int (nI n), .ref kpa, .ref kka, .int ko'])), (pa, qE E 8 r), (sa, .inl (E.2.2, 6, .inl th))] ++ (gW E r (fun _ => 12) c 8 ++ (rs ++ wm)))) F dL_act_379 0 rfl rfl i5 tyX5 tyX5_ok nmX5 1 (by decide) rfl (rfl) (rfl) (Nat.le_of_ble_eq_true rfl) (List.mem_of_getElem? (i := 16) rfl) rfl ?_
  refine g_aload_n F dL_act_382 rfl 0 rfl ?_
  refine g_aload_n F dL_act_383 rfl 1 rfl ?_
  refine g_get F dL_act_384 0 rfl rfl i5 1 (by decide) rfl (List.mem_of_getElem? (i := 16) rfl) ?_
  refine g_callM (B := ([(y, .inr (5, [.ref pa, .int (nI (2 + b5)), .int car, .int tur, .int pre, .ref sa, .int (nI n), .ref kpa, .ref kka, .int ko'])), (pa, qE E 8 r), (sa, .inl (E.2.2, 6, .inl th))] ++ (gW E r (fun _ => 12) c 8 ++ rs))) (wm := wm) F dL_act_387 (m_setColours hm (2 + b5) (by omega) (by omega)) rfl gL_act_X4_setColours heM rfl kV_X4_setColours ⟨by decide, by decide⟩ (by simp only [List.append_assoc]) rfl (by exact Nat.le_of_ble_eq_true rfl) ⟨by show 0 + 0 + 0 ≤ 150; omega, by show 0 + 0 + 0 ≤ 2586; omega⟩ (fun ov387 V387 hV387 => ?_)
  obtain ⟨rfl, hmN⟩ := hV387
  refine g_ws (ws' := ([(y, .inr (5, [.ref pa, .int (nI (2 + b5)), .int car, .int tur, .int pre, .ref sa, .int (nI n), .ref kpa, .ref kka, .int ko'])), (pa, qE E 8 r), (sa, .inl (E.2.2, 6, .inl th))] ++ (gW E r (fun _ => 12) c 8 ++ (rs ++ V387)))) (by simp only [List.append_assoc]) ?_
  refine g_iload F dL_act_390 4 rfl ?_
  refine g_icmp_ne_f (tgt := 399) F dL_act_392 (by decide) (fun z => z rfl) ?_
  refine g_iconst (v := 1) F dL_act_395 (by decide) ?_
  refine g_goto (tgt := 400) F dL_act_396 (by decide) ?_
  refine g_cs (cells' := 150) (slots' := 2586) (by show 0 + 0 + 0 ≤ 150; omega) (by show 0 + 0 + 0 ≤ 2586; omega) ?_
  exact g_zretL F hQ dL_act_400 (Or.inr rfl) (act_end hmN hc hkp ⟨hok.1, hok.2.1, ⟨by omega, by omega⟩, hok.2.2.2.1, hok.2.2.2.2.1, hok.2.2.2.2.2.1, by have := hok.2.2.2.2.2.2.1; omega, hok.2.2.2.2.2.2.2⟩ (Or.inl ⟨rfl, Nat.le_add_right _ _⟩))
set_option maxHeartbeats 4000000 in
set_option maxRecDepth 100000 in
theorem la_401 {E : gE} {X : gX} {x y pa sa kpa kka : Nat} {r : Nat → Nat} {c : Nat → AF} {f th : AF} {m : Nat} {car tur pre : Int32} {n : Nat} {k kp : AF} {kq : Nat} {ko ko' : Int32} {rs wm : va_W} {N bS nS : Nat} {xs : Nat → Int32} {v : Int32} {q : Nat} (hq : q < 8) (F : gF E X cL_act RL wsL_act (some .boolean) ({ frames := 9, cells := 150, slots := 2586, locals := 172 }) 8) (S : gLX E X bS nS xs) (T9 : gTab X [(601, 607, 610, 86)]) (hQ : gEndL E X (ActPo E x y N (f, th, m, car, tur, pre, n, k, kp, kq, ko)) 150 2586) (hm : MWP E x (f, th, m, car, tur, pre, n, k, kp, kq, ko) wm) (hc : RW c f) (hkp : KP E kpa kka n k kp kq ko ko' rs) (hok : OkS N (f, th, m, car, tur, pre, n, k, kp, kq, ko)) (hN : N < 1000) : G E X 0 0 401 [(0, .ref x), (1, .ref y), (2, .int v), (3, .int (nI q))] [] ([(y, .inr (5, [.ref pa, .int (nI m), .int car, .int tur, .int pre, .ref sa, .int (nI n), .ref kpa, .ref kka, .int ko'])), (pa, qE E 8 r), (sa, .inl (E.2.2, 6, .inl th))] ++ (gW E r (fun _ => 12) c 8 ++ (rs ++ wm))) := by
  have i5 : ∀ w ∈ u_ws RX5 TX5 10, w ∈ wsL_act := gsub [323, 324, 325, 326, 327, 328, 329, 330, 331, 332] rfl
  obtain ⟨fsM, heM⟩ := hm.mem
  refine g_aload_n F dL_act_401 rfl 1 rfl ?_
  refine g_get F dL_act_402 0 rfl rfl i5 2 (by decide) rfl (List.mem_of_getElem? (i := 17) rfl) ?_
  refine g_istore (L' := [(0, .ref x), (1, .ref y), (2, .int v), (3, .int (nI q)), (5, .int car)]) F dL_act_405 (by decide) [1, 2, 3, 4, 0] rfl ?_
  refine g_aload_n F dL_act_407 rfl 1 rfl ?_
  refine g_iload_n F dL_act_408 rfl 2 rfl ?_
  refine g_iconst (v := 4) F dL_act_409 (by decide) ?_
  refine g_ishr F dL_act_410 ?_
  refine g_iconst (v := 3) F dL_act_411 (by decide) ?_
  refine g_callSA (R := ([(y, .inr (5, [.ref pa, .int (nI m), .int car, .int tur, .int pre, .ref sa, .int (nI n), .ref kpa, .ref kka, .int ko'])), (pa, qE E 8 r), (sa, .inl (E.2.2, 6, .inl th))] ++ (gW E r (fun _ => 12) c 8 ++ (rs ++ wm)))) F dL_act_412 (c_L_below E (v >>> (4 &&& 31)) 3 (by first | assumption | decide | omega) (by first | assumption | decide | omega)) rfl gL_act_L_below kS_L_below ⟨by decide, by decide⟩ (ps3 (pmc (A := []) (pmc (A := []) (pmc (A := []) (List.Perm.nil))))) rfl (Nat.le_of_ble_eq_true rfl) ⟨by show 0 + 0 ≤ 150; omega, by show 0 + 0 ≤ 2586; omega⟩ (fun a412 => ?_)
  refine g_ws (ws' := ([(y, .inr (5, [.ref pa, .int (nI m), .int car, .int tur, .int pre, .ref sa, .int (nI n), .ref kpa, .ref kka, .int ko'])), (pa, qE E 8 r), (sa, .inl (E.2.2, 6, .inl th))] ++ (gW E r (fun _ => 12) c 8 ++ (rs ++ wm)))) rfl ?_
  obtain ⟨b5, hb5, eb5⟩ : ∃ b, b < 3 ∧ nI (zBl (v >>> (4 &&& 31)) 3) = nI b := zBl_ex _ (by decide)
  refine g_topr eb5 ?_
  refine g_put (ws' := ([(y, .inr (5, [.ref pa, .int (nI m), .int (nI b5), .int tur, .int pre, .ref sa, .int (nI n), .ref kpa, .ref kka, .int ko'])), (pa, qE E 8 r), (sa, .inl (E.2.2, 6, .inl th))] ++ (gW E r (fun _ => 12) c 8 ++ (rs ++ wm)))) F dL_act_415 0 rfl rfl i5 tyX5 tyX5_ok nmX5 2 (by decide) rfl (rfl) (rfl) (Nat.le_of_ble_eq_true rfl) (List.mem_of_getElem? (i := 17) rfl) rfl ?_
  refine g_aload_n F dL_act_418 rfl 0 rfl ?_
  refine g_aload_n F dL_act_419 rfl 1 rfl ?_
  refine g_get F dL_act_420 0 rfl rfl i5 2 (by decide) rfl (List.mem_of_getElem? (i := 17) rfl) ?_
  refine g_callM (B := ([(y, .inr (5, [.ref pa, .int (nI m), .int (nI b5), .int tur, .int pre, .ref sa, .int (nI n), .ref kpa, .ref kka, .int ko'])), (pa, qE E 8 r), (sa, .inl (E.2.2, 6, .inl th))] ++ (gW E r (fun _ => 12) c 8 ++ rs))) (wm := wm) F dL_act_423 (m_setCarry hm (nI b5) (nI_pos (by omega)) (le_nI (i := 2) (by omega) (by omega))) rfl gL_act_X4_setCarry heM rfl kV_X4_setCarry ⟨by decide, by decide⟩ (by simp only [List.append_assoc]) rfl (by exact Nat.le_of_ble_eq_true rfl) ⟨by show 0 + 0 + 0 ≤ 150; omega, by show 0 + 0 + 0 ≤ 2586; omega⟩ (fun ov423 V423 hV423 => ?_)
  obtain ⟨rfl, hmN⟩ := hV423
  refine g_ws (ws' := ([(y, .inr (5, [.ref pa, .int (nI m), .int (nI b5), .int tur, .int pre, .ref sa, .int (nI n), .ref kpa, .ref kka, .int ko'])), (pa, qE E 8 r), (sa, .inl (E.2.2, 6, .inl th))] ++ (gW E r (fun _ => 12) c 8 ++ (rs ++ V423)))) (by simp only [List.append_assoc]) ?_
  refine g_iload F dL_act_426 4 rfl ?_
  refine g_icmp_ne_f (tgt := 435) F dL_act_428 (by decide) (fun z => z rfl) ?_
  refine g_iconst (v := 1) F dL_act_431 (by decide) ?_
  refine g_goto (tgt := 436) F dL_act_432 (by decide) ?_
  refine g_cs (cells' := 150) (slots' := 2586) (by show 0 + 0 + 0 ≤ 150; omega) (by show 0 + 0 + 0 ≤ 2586; omega) ?_
  exact g_zretL F hQ dL_act_436 (Or.inr rfl) (act_end hmN hc hkp ⟨hok.1, hok.2.1, hok.2.2.1, car3 hb5, hok.2.2.2.2.1, hok.2.2.2.2.2.1, by have := hok.2.2.2.2.2.2.1; omega, hok.2.2.2.2.2.2.2⟩ (Or.inl ⟨rfl, Nat.le_add_right _ _⟩))
set_option maxHeartbeats 4000000 in
set_option maxRecDepth 100000 in
theorem la_437 {E : gE} {X : gX} {x y pa sa kpa kka : Nat} {r : Nat → Nat} {c : Nat → AF} {f th : AF} {m : Nat} {car tur pre : Int32} {n : Nat} {k kp : AF} {kq : Nat} {ko ko' : Int32} {rs wm : va_W} {N bS nS : Nat} {xs : Nat → Int32} {v : Int32} {q : Nat} (hq : q < 8) (F : gF E X cL_act RL wsL_act (some .boolean) ({ frames := 9, cells := 150, slots := 2586, locals := 172 }) 8) (S : gLX E X bS nS xs) (T9 : gTab X [(601, 607, 610, 86)]) (hQ : gEndL E X (ActPo E x y N (f, th, m, car, tur, pre, n, k, kp, kq, ko)) 150 2586) (hm : MWP E x (f, th, m, car, tur, pre, n, k, kp, kq, ko) wm) (hc : RW c f) (hkp : KP E kpa kka n k kp kq ko ko' rs) (hok : OkS N (f, th, m, car, tur, pre, n, k, kp, kq, ko)) (hN : N < 1000) : G E X 0 0 437 [(0, .ref x), (1, .ref y), (2, .int v), (3, .int (nI q))] [] ([(y, .inr (5, [.ref pa, .int (nI m), .int car, .int tur, .int pre, .ref sa, .int (nI n), .ref kpa, .ref kka, .int ko'])), (pa, qE E 8 r), (sa, .inl (E.2.2, 6, .inl th))] ++ (gW E r (fun _ => 12) c 8 ++ (rs ++ wm))) := by
  have i5 : ∀ w ∈ u_ws RX5 TX5 10, w ∈ wsL_act := gsub [323, 324, 325, 326, 327, 328, 329, 330, 331, 332] rfl
  obtain ⟨fsM, heM⟩ := hm.mem
  refine g_aload_n F dL_act_437 rfl 1 rfl ?_
  refine g_get F dL_act_438 0 rfl rfl i5 3 (by decide) rfl (List.mem_of_getElem? (i := 18) rfl) ?_
  refine g_istore (L' := [(0, .ref x), (1, .ref y), (2, .int v), (3, .int (nI q)), (5, .int tur)]) F dL_act_441 (by decide) [1, 2, 3, 4, 0] rfl ?_
  refine g_aload_n F dL_act_443 rfl 1 rfl ?_
  refine g_iload_n F dL_act_444 rfl 2 rfl ?_
  refine g_iconst (v := 4) F dL_act_445 (by decide) ?_
  refine g_ishr F dL_act_446 ?_
  refine g_iconst (v := 2) F dL_act_447 (by decide) ?_
  refine g_callSA (R := ([(y, .inr (5, [.ref pa, .int (nI m), .int car, .int tur, .int pre, .ref sa, .int (nI n), .ref kpa, .ref kka, .int ko'])), (pa, qE E 8 r), (sa, .inl (E.2.2, 6, .inl th))] ++ (gW E r (fun _ => 12) c 8 ++ (rs ++ wm)))) F dL_act_448 (c_L_below E (v >>> (4 &&& 31)) 2 (by first | assumption | decide | omega) (by first | assumption | decide | omega)) rfl gL_act_L_below kS_L_below ⟨by decide, by decide⟩ (ps3 (pmc (A := []) (pmc (A := []) (pmc (A := []) (List.Perm.nil))))) rfl (Nat.le_of_ble_eq_true rfl) ⟨by show 0 + 0 ≤ 150; omega, by show 0 + 0 ≤ 2586; omega⟩ (fun a448 => ?_)
  refine g_ws (ws' := ([(y, .inr (5, [.ref pa, .int (nI m), .int car, .int tur, .int pre, .ref sa, .int (nI n), .ref kpa, .ref kka, .int ko'])), (pa, qE E 8 r), (sa, .inl (E.2.2, 6, .inl th))] ++ (gW E r (fun _ => 12) c 8 ++ (rs ++ wm)))) rfl ?_
  refine g_if_ne (tgt := 458) F dL_act_451 (by decide) (fun k451 => ?_) (fun k451 => ?_)
  · skip
    refine g_iconst (v := 0) F dL_act_458 (by decide) ?_
    refine g_put (ws' := ([(y, .inr (5, [.ref pa, .int (nI m), .int car, .int 0, .int pre, .ref sa, .int (nI n), .ref kpa, .ref kka, .int ko'])), (pa, qE E 8 r), (sa, .inl (E.2.2, 6, .inl th))] ++ (gW E r (fun _ => 12) c 8 ++ (rs ++ wm)))) F dL_act_459 0 rfl rfl i5 tyX5 tyX5_ok nmX5 3 (by decide) rfl (by first | rfl | decide) (by first | rfl | decide) (Nat.le_of_ble_eq_true rfl) (List.mem_of_getElem? (i := 18) rfl) rfl ?_
    refine g_aload_n F dL_act_462 rfl 0 rfl ?_
    refine g_aload_n F dL_act_463 rfl 1 rfl ?_
    refine g_get F dL_act_464 0 rfl rfl i5 3 (by decide) rfl (List.mem_of_getElem? (i := 18) rfl) ?_
    refine g_callM (B := ([(y, .inr (5, [.ref pa, .int (nI m), .int car, .int 0, .int pre, .ref sa, .int (nI n), .ref kpa, .ref kka, .int ko'])), (pa, qE E 8 r), (sa, .inl (E.2.2, 6, .inl th))] ++ (gW E r (fun _ => 12) c 8 ++ rs))) (wm := wm) F dL_act_467 (m_setTurning hm 0 hok.2.2.2.2.1 (Or.inl rfl)) rfl gL_act_X4_setTurning heM rfl kV_X4_setTurning ⟨by decide, by decide⟩ (by simp only [List.append_assoc]) rfl (by exact Nat.le_of_ble_eq_true rfl) ⟨by show 0 + 0 + 0 ≤ 150; omega, by show 0 + 0 + 0 ≤ 2586; omega⟩ (fun ov467 V467 hV467 => ?_)
    obtain ⟨rfl, hmN⟩ := hV467
    refine g_ws (ws' := ([(y, .inr (5, [.ref pa, .int (nI m), .int car, .int 0, .int pre, .ref sa, .int (nI n), .ref kpa, .ref kka, .int ko'])), (pa, qE E 8 r), (sa, .inl (E.2.2, 6, .inl th))] ++ (gW E r (fun _ => 12) c 8 ++ (rs ++ V467)))) (by simp only [List.append_assoc]) ?_
    refine g_iload F dL_act_470 4 rfl ?_
    refine g_icmp_ne_f (tgt := 479) F dL_act_472 (by decide) (fun z => z rfl) ?_
    refine g_iconst (v := 1) F dL_act_475 (by decide) ?_
    refine g_goto (tgt := 480) F dL_act_476 (by decide) ?_
    refine g_cs (cells' := 150) (slots' := 2586) (by show 0 + 0 + 0 ≤ 150; omega) (by show 0 + 0 + 0 ≤ 2586; omega) ?_
    exact g_zretL F hQ dL_act_480 (Or.inr rfl) (act_end hmN hc hkp ⟨hok.1, hok.2.1, hok.2.2.1, hok.2.2.2.1, Or.inl rfl, hok.2.2.2.2.2.1, by have := hok.2.2.2.2.2.2.1; omega, hok.2.2.2.2.2.2.2⟩ (Or.inl ⟨rfl, Nat.le_add_right _ _⟩))
  · skip
    refine g_iconst (v := 1) F dL_act_454 (by decide) ?_
    refine g_goto (tgt := 459) F dL_act_455 (by decide) ?_
    refine g_put (ws' := ([(y, .inr (5, [.ref pa, .int (nI m), .int car, .int 1, .int pre, .ref sa, .int (nI n), .ref kpa, .ref kka, .int ko'])), (pa, qE E 8 r), (sa, .inl (E.2.2, 6, .inl th))] ++ (gW E r (fun _ => 12) c 8 ++ (rs ++ wm)))) F dL_act_459 0 rfl rfl i5 tyX5 tyX5_ok nmX5 3 (by decide) rfl (by first | rfl | decide) (by first | rfl | decide) (Nat.le_of_ble_eq_true rfl) (List.mem_of_getElem? (i := 18) rfl) rfl ?_
    refine g_aload_n F dL_act_462 rfl 0 rfl ?_
    refine g_aload_n F dL_act_463 rfl 1 rfl ?_
    refine g_get F dL_act_464 0 rfl rfl i5 3 (by decide) rfl (List.mem_of_getElem? (i := 18) rfl) ?_
    refine g_callM (B := ([(y, .inr (5, [.ref pa, .int (nI m), .int car, .int 1, .int pre, .ref sa, .int (nI n), .ref kpa, .ref kka, .int ko'])), (pa, qE E 8 r), (sa, .inl (E.2.2, 6, .inl th))] ++ (gW E r (fun _ => 12) c 8 ++ rs))) (wm := wm) F dL_act_467 (m_setTurning hm 1 hok.2.2.2.2.1 (Or.inr rfl)) rfl gL_act_X4_setTurning heM rfl kV_X4_setTurning ⟨by decide, by decide⟩ (by simp only [List.append_assoc]) rfl (by exact Nat.le_of_ble_eq_true rfl) ⟨by show 0 + 0 + 0 ≤ 150; omega, by show 0 + 0 + 0 ≤ 2586; omega⟩ (fun ov467 V467 hV467 => ?_)
    obtain ⟨rfl, hmN⟩ := hV467
    refine g_ws (ws' := ([(y, .inr (5, [.ref pa, .int (nI m), .int car, .int 1, .int pre, .ref sa, .int (nI n), .ref kpa, .ref kka, .int ko'])), (pa, qE E 8 r), (sa, .inl (E.2.2, 6, .inl th))] ++ (gW E r (fun _ => 12) c 8 ++ (rs ++ V467)))) (by simp only [List.append_assoc]) ?_
    refine g_iload F dL_act_470 4 rfl ?_
    refine g_icmp_ne_f (tgt := 479) F dL_act_472 (by decide) (fun z => z rfl) ?_
    refine g_iconst (v := 1) F dL_act_475 (by decide) ?_
    refine g_goto (tgt := 480) F dL_act_476 (by decide) ?_
    refine g_cs (cells' := 150) (slots' := 2586) (by show 0 + 0 + 0 ≤ 150; omega) (by show 0 + 0 + 0 ≤ 2586; omega) ?_
    exact g_zretL F hQ dL_act_480 (Or.inr rfl) (act_end hmN hc hkp ⟨hok.1, hok.2.1, hok.2.2.1, hok.2.2.2.1, Or.inr rfl, hok.2.2.2.2.2.1, by have := hok.2.2.2.2.2.2.1; omega, hok.2.2.2.2.2.2.2⟩ (Or.inl ⟨rfl, Nat.le_add_right _ _⟩))
set_option maxHeartbeats 4000000 in
set_option maxRecDepth 100000 in
theorem la_481 {E : gE} {X : gX} {x y pa sa kpa kka : Nat} {r : Nat → Nat} {c : Nat → AF} {f th : AF} {m : Nat} {car tur pre : Int32} {n : Nat} {k kp : AF} {kq : Nat} {ko ko' : Int32} {rs wm : va_W} {N bS nS : Nat} {xs : Nat → Int32} {v : Int32} {q : Nat} (hq : q < 8) (F : gF E X cL_act RL wsL_act (some .boolean) ({ frames := 9, cells := 150, slots := 2586, locals := 172 }) 8) (S : gLX E X bS nS xs) (T9 : gTab X [(601, 607, 610, 86)]) (hQ : gEndL E X (ActPo E x y N (f, th, m, car, tur, pre, n, k, kp, kq, ko)) 150 2586) (hm : MWP E x (f, th, m, car, tur, pre, n, k, kp, kq, ko) wm) (hc : RW c f) (hkp : KP E kpa kka n k kp kq ko ko' rs) (hok : OkS N (f, th, m, car, tur, pre, n, k, kp, kq, ko)) (hN : N < 1000) : G E X 0 0 481 [(0, .ref x), (1, .ref y), (2, .int v), (3, .int (nI q))] [] ([(y, .inr (5, [.ref pa, .int (nI m), .int car, .int tur, .int pre, .ref sa, .int (nI n), .ref kpa, .ref kka, .int ko'])), (pa, qE E 8 r), (sa, .inl (E.2.2, 6, .inl th))] ++ (gW E r (fun _ => 12) c 8 ++ (rs ++ wm))) := by
  have i5 : ∀ w ∈ u_ws RX5 TX5 10, w ∈ wsL_act := gsub [323, 324, 325, 326, 327, 328, 329, 330, 331, 332] rfl
  obtain ⟨fsM, heM⟩ := hm.mem
  refine g_aload_n F dL_act_481 rfl 1 rfl ?_
  refine g_get F dL_act_482 0 rfl rfl i5 4 (by decide) rfl (List.mem_of_getElem? (i := 19) rfl) ?_
  refine g_istore (L' := [(0, .ref x), (1, .ref y), (2, .int v), (3, .int (nI q)), (5, .int pre)]) F dL_act_485 (by decide) [1, 2, 3, 4, 0] rfl ?_
  refine g_aload_n F dL_act_487 rfl 1 rfl ?_
  refine g_iload_n F dL_act_488 rfl 2 rfl ?_
  refine g_iconst (v := 4) F dL_act_489 (by decide) ?_
  refine g_ishr F dL_act_490 ?_
  refine g_iconst (v := 2) F dL_act_491 (by decide) ?_
  refine g_callSA (R := ([(y, .inr (5, [.ref pa, .int (nI m), .int car, .int tur, .int pre, .ref sa, .int (nI n), .ref kpa, .ref kka, .int ko'])), (pa, qE E 8 r), (sa, .inl (E.2.2, 6, .inl th))] ++ (gW E r (fun _ => 12) c 8 ++ (rs ++ wm)))) F dL_act_492 (c_L_below E (v >>> (4 &&& 31)) 2 (by first | assumption | decide | omega) (by first | assumption | decide | omega)) rfl gL_act_L_below kS_L_below ⟨by decide, by decide⟩ (ps3 (pmc (A := []) (pmc (A := []) (pmc (A := []) (List.Perm.nil))))) rfl (Nat.le_of_ble_eq_true rfl) ⟨by show 0 + 0 ≤ 150; omega, by show 0 + 0 ≤ 2586; omega⟩ (fun a492 => ?_)
  refine g_ws (ws' := ([(y, .inr (5, [.ref pa, .int (nI m), .int car, .int tur, .int pre, .ref sa, .int (nI n), .ref kpa, .ref kka, .int ko'])), (pa, qE E 8 r), (sa, .inl (E.2.2, 6, .inl th))] ++ (gW E r (fun _ => 12) c 8 ++ (rs ++ wm)))) rfl ?_
  refine g_if_ne (tgt := 502) F dL_act_495 (by decide) (fun k495 => ?_) (fun k495 => ?_)
  · skip
    refine g_iconst (v := 0) F dL_act_502 (by decide) ?_
    refine g_put (ws' := ([(y, .inr (5, [.ref pa, .int (nI m), .int car, .int tur, .int 0, .ref sa, .int (nI n), .ref kpa, .ref kka, .int ko'])), (pa, qE E 8 r), (sa, .inl (E.2.2, 6, .inl th))] ++ (gW E r (fun _ => 12) c 8 ++ (rs ++ wm)))) F dL_act_503 0 rfl rfl i5 tyX5 tyX5_ok nmX5 4 (by decide) rfl (by first | rfl | decide) (by first | rfl | decide) (Nat.le_of_ble_eq_true rfl) (List.mem_of_getElem? (i := 19) rfl) rfl ?_
    refine g_aload_n F dL_act_506 rfl 0 rfl ?_
    refine g_aload_n F dL_act_507 rfl 1 rfl ?_
    refine g_get F dL_act_508 0 rfl rfl i5 4 (by decide) rfl (List.mem_of_getElem? (i := 19) rfl) ?_
    refine g_callM (B := ([(y, .inr (5, [.ref pa, .int (nI m), .int car, .int tur, .int 0, .ref sa, .int (nI n), .ref kpa, .ref kka, .int ko'])), (pa, qE E 8 r), (sa, .inl (E.2.2, 6, .inl th))] ++ (gW E r (fun _ => 12) c 8 ++ rs))) (wm := wm) F dL_act_511 (m_setPressing hm 0 hok.2.2.2.2.2.1 (Or.inl rfl)) rfl gL_act_X4_setPressing heM rfl kV_X4_setPressing ⟨by decide, by decide⟩ (by simp only [List.append_assoc]) rfl (by exact Nat.le_of_ble_eq_true rfl) ⟨by show 0 + 0 + 0 ≤ 150; omega, by show 0 + 0 + 0 ≤ 2586; omega⟩ (fun ov511 V511 hV511 => ?_)
    obtain ⟨rfl, hmN⟩ := hV511
    refine g_ws (ws' := ([(y, .inr (5, [.ref pa, .int (nI m), .int car, .int tur, .int 0, .ref sa, .int (nI n), .ref kpa, .ref kka, .int ko'])), (pa, qE E 8 r), (sa, .inl (E.2.2, 6, .inl th))] ++ (gW E r (fun _ => 12) c 8 ++ (rs ++ V511)))) (by simp only [List.append_assoc]) ?_
    refine g_iload F dL_act_514 4 rfl ?_
    refine g_icmp_ne_f (tgt := 523) F dL_act_516 (by decide) (fun z => z rfl) ?_
    refine g_iconst (v := 1) F dL_act_519 (by decide) ?_
    refine g_goto (tgt := 524) F dL_act_520 (by decide) ?_
    refine g_cs (cells' := 150) (slots' := 2586) (by show 0 + 0 + 0 ≤ 150; omega) (by show 0 + 0 + 0 ≤ 2586; omega) ?_
    exact g_zretL F hQ dL_act_524 (Or.inr rfl) (act_end hmN hc hkp ⟨hok.1, hok.2.1, hok.2.2.1, hok.2.2.2.1, hok.2.2.2.2.1, Or.inl rfl, by have := hok.2.2.2.2.2.2.1; omega, hok.2.2.2.2.2.2.2⟩ (Or.inl ⟨rfl, Nat.le_add_right _ _⟩))
  · skip
    refine g_iconst (v := 1) F dL_act_498 (by decide) ?_
    refine g_goto (tgt := 503) F dL_act_499 (by decide) ?_
    refine g_put (ws' := ([(y, .inr (5, [.ref pa, .int (nI m), .int car, .int tur, .int 1, .ref sa, .int (nI n), .ref kpa, .ref kka, .int ko'])), (pa, qE E 8 r), (sa, .inl (E.2.2, 6, .inl th))] ++ (gW E r (fun _ => 12) c 8 ++ (rs ++ wm)))) F dL_act_503 0 rfl rfl i5 tyX5 tyX5_ok nmX5 4 (by decide) rfl (by first | rfl | decide) (by first | rfl | decide) (Nat.le_of_ble_eq_true rfl) (List.mem_of_getElem? (i := 19) rfl) rfl ?_
    refine g_aload_n F dL_act_506 rfl 0 rfl ?_
    refine g_aload_n F dL_act_507 rfl 1 rfl ?_
    refine g_get F dL_act_508 0 rfl rfl i5 4 (by decide) rfl (List.mem_of_getElem? (i := 19) rfl) ?_
    refine g_callM (B := ([(y, .inr (5, [.ref pa, .int (nI m), .int car, .int tur, .int 1, .ref sa, .int (nI n), .ref kpa, .ref kka, .int ko'])), (pa, qE E 8 r), (sa, .inl (E.2.2, 6, .inl th))] ++ (gW E r (fun _ => 12) c 8 ++ rs))) (wm := wm) F dL_act_511 (m_setPressing hm 1 hok.2.2.2.2.2.1 (Or.inr rfl)) rfl gL_act_X4_setPressing heM rfl kV_X4_setPressing ⟨by decide, by decide⟩ (by simp only [List.append_assoc]) rfl (by exact Nat.le_of_ble_eq_true rfl) ⟨by show 0 + 0 + 0 ≤ 150; omega, by show 0 + 0 + 0 ≤ 2586; omega⟩ (fun ov511 V511 hV511 => ?_)
    obtain ⟨rfl, hmN⟩ := hV511
    refine g_ws (ws' := ([(y, .inr (5, [.ref pa, .int (nI m), .int car, .int tur, .int 1, .ref sa, .int (nI n), .ref kpa, .ref kka, .int ko'])), (pa, qE E 8 r), (sa, .inl (E.2.2, 6, .inl th))] ++ (gW E r (fun _ => 12) c 8 ++ (rs ++ V511)))) (by simp only [List.append_assoc]) ?_
    refine g_iload F dL_act_514 4 rfl ?_
    refine g_icmp_ne_f (tgt := 523) F dL_act_516 (by decide) (fun z => z rfl) ?_
    refine g_iconst (v := 1) F dL_act_519 (by decide) ?_
    refine g_goto (tgt := 524) F dL_act_520 (by decide) ?_
    refine g_cs (cells' := 150) (slots' := 2586) (by show 0 + 0 + 0 ≤ 150; omega) (by show 0 + 0 + 0 ≤ 2586; omega) ?_
    exact g_zretL F hQ dL_act_524 (Or.inr rfl) (act_end hmN hc hkp ⟨hok.1, hok.2.1, hok.2.2.1, hok.2.2.2.1, hok.2.2.2.2.1, Or.inr rfl, by have := hok.2.2.2.2.2.2.1; omega, hok.2.2.2.2.2.2.2⟩ (Or.inl ⟨rfl, Nat.le_add_right _ _⟩))
set_option maxHeartbeats 4000000 in
set_option maxRecDepth 100000 in
theorem la_525 {E : gE} {X : gX} {x y pa sa kpa kka : Nat} {r : Nat → Nat} {c : Nat → AF} {f th : AF} {m : Nat} {car tur pre : Int32} {n : Nat} {k kp : AF} {kq : Nat} {ko ko' : Int32} {rs wm : va_W} {N bS nS : Nat} {xs : Nat → Int32} {v : Int32} {q : Nat} (hq : q < 8) (F : gF E X cL_act RL wsL_act (some .boolean) ({ frames := 9, cells := 150, slots := 2586, locals := 172 }) 8) (S : gLX E X bS nS xs) (T9 : gTab X [(601, 607, 610, 86)]) (hQ : gEndL E X (ActPo E x y N (f, th, m, car, tur, pre, n, k, kp, kq, ko)) 150 2586) (hm : MWP E x (f, th, m, car, tur, pre, n, k, kp, kq, ko) wm) (hc : RW c f) (hkp : KP E kpa kka n k kp kq ko ko' rs) (hok : OkS N (f, th, m, car, tur, pre, n, k, kp, kq, ko)) (hN : N < 1000) : G E X 0 0 525 [(0, .ref x), (1, .ref y), (2, .int v), (3, .int (nI q))] [] ([(y, .inr (5, [.ref pa, .int (nI m), .int car, .int tur, .int pre, .ref sa, .int (nI n), .ref kpa, .ref kka, .int ko'])), (pa, qE E 8 r), (sa, .inl (E.2.2, 6, .inl th))] ++ (gW E r (fun _ => 12) c 8 ++ (rs ++ wm))) := by
  have i5 : ∀ w ∈ u_ws RX5 TX5 10, w ∈ wsL_act := gsub [323, 324, 325, 326, 327, 328, 329, 330, 331, 332] rfl
  obtain ⟨fsM, heM⟩ := hm.mem
  refine g_iload_n F dL_act_525 rfl 2 rfl ?_
  refine g_iconst (v := 4) F dL_act_526 (by decide) ?_
  refine g_ishr F dL_act_527 ?_
  refine g_bipush (v := 6) F dL_act_528 (by decide) ?_
  refine g_callSA (R := ([(y, .inr (5, [.ref pa, .int (nI m), .int car, .int tur, .int pre, .ref sa, .int (nI n), .ref kpa, .ref kka, .int ko'])), (pa, qE E 8 r), (sa, .inl (E.2.2, 6, .inl th))] ++ (gW E r (fun _ => 12) c 8 ++ (rs ++ wm)))) F dL_act_530 (c_L_below E (v >>> (4 &&& 31)) 6 (by first | assumption | decide | omega) (by first | assumption | decide | omega)) rfl gL_act_L_below kS_L_below ⟨by decide, by decide⟩ (ps3 (pmc (A := []) (pmc (A := []) (pmc (A := []) (List.Perm.nil))))) rfl (Nat.le_of_ble_eq_true rfl) ⟨by show 0 + 0 ≤ 150; omega, by show 0 + 0 ≤ 2586; omega⟩ (fun a530 => ?_)
  refine g_ws (ws' := ([(y, .inr (5, [.ref pa, .int (nI m), .int car, .int tur, .int pre, .ref sa, .int (nI n), .ref kpa, .ref kka, .int ko'])), (pa, qE E 8 r), (sa, .inl (E.2.2, 6, .inl th))] ++ (gW E r (fun _ => 12) c 8 ++ (rs ++ wm)))) rfl ?_
  obtain ⟨b5, hb5, eb5⟩ : ∃ b, b < 6 ∧ nI (zBl (v >>> (4 &&& 31)) 6) = nI b := zBl_ex _ (by decide)
  refine g_topr eb5 ?_
  refine g_istore (L' := [(0, .ref x), (1, .ref y), (2, .int v), (3, .int (nI q)), (5, .int (nI b5))]) F dL_act_533 (by decide) [1, 2, 3, 4, 0] rfl ?_
  refine g_iconst (v := 1) F dL_act_535 (by decide) ?_
  refine g_iload_n F dL_act_536 rfl 2 rfl ?_
  refine g_bipush (v := 6) F dL_act_537 (by decide) ?_
  refine g_ishr F dL_act_539 ?_
  refine g_bipush (v := 99) F dL_act_540 (by decide) ?_
  refine g_callSA (R := ([(y, .inr (5, [.ref pa, .int (nI m), .int car, .int tur, .int pre, .ref sa, .int (nI n), .ref kpa, .ref kka, .int ko'])), (pa, qE E 8 r), (sa, .inl (E.2.2, 6, .inl th))] ++ (gW E r (fun _ => 12) c 8 ++ (rs ++ wm)))) F dL_act_542 (c_L_below E (v >>> (6 &&& 31)) 99 (by first | assumption | decide | omega) (by first | assumption | decide | omega)) rfl gL_act_L_below kS_L_below ⟨by decide, by decide⟩ (ps3 (pmc (A := []) (pmc (A := []) (pmc (A := []) (List.Perm.nil))))) rfl (Nat.le_of_ble_eq_true rfl) ⟨by show 0 + 0 + 0 ≤ 150; omega, by show 0 + 0 + 0 ≤ 2586; omega⟩ (fun a542 => ?_)
  refine g_ws (ws' := ([(y, .inr (5, [.ref pa, .int (nI m), .int car, .int tur, .int pre, .ref sa, .int (nI n), .ref kpa, .ref kka, .int ko'])), (pa, qE E 8 r), (sa, .inl (E.2.2, 6, .inl th))] ++ (gW E r (fun _ => 12) c 8 ++ (rs ++ wm)))) rfl ?_
  obtain ⟨b6, hb6, eb6⟩ : ∃ b, b < 99 ∧ nI (zBl (v >>> (6 &&& 31)) 99) = nI b := zBl_ex _ (by decide)
  refine g_topr eb6 ?_
  refine g_iadd F dL_act_545 ?_
  refine g_topr (y := nI (1 + b6)) (nI_add 1 b6) ?_
  refine g_istore (L' := [(0, .ref x), (1, .ref y), (2, .int v), (3, .int (nI q)), (5, .int (nI b5)), (6, .int (nI (1 + b6)))]) F dL_act_546 (by decide) [1, 2, 3, 4, 5, 0] rfl ?_
  refine g_aload_n F dL_act_548 rfl 1 rfl ?_
  refine g_get F dL_act_549 0 rfl rfl i5 5 (by decide) rfl (List.mem_of_getElem? (i := 20) rfl) ?_
  refine g_iload F dL_act_552 4 rfl ?_
  refine g_sipush (v := 999) F dL_act_554 (by decide) ?_
  refine g_aload_n F dL_act_557 rfl 1 rfl ?_
  refine g_get F dL_act_558 0 rfl rfl i5 5 (by decide) rfl (List.mem_of_getElem? (i := 20) rfl) ?_
  refine g_iload F dL_act_561 4 rfl ?_
  refine g_ialdN (k := b5) F dL_act_563 2 rfl (by omega) (by first | decide | omega) ?_
  refine g_iload F dL_act_564 5 rfl ?_
  refine g_iadd F dL_act_566 ?_
  refine g_min F dL_act_567 (List.mem_of_getElem? (i := 3) rfl) (List.mem_of_getElem? (i := 4) rfl) (List.mem_of_getElem? (i := 5) rfl) (List.mem_of_getElem? (i := 6) rfl) (by decide) (Nat.le_of_ble_eq_true rfl) (by show 0 + 0 + 0 ≤ 150; omega) (by show 0 + 0 + 0 ≤ 2586; omega) ?_
  refine g_iastN (k := b5) (ws' := ([(y, .inr (5, [.ref pa, .int (nI m), .int car, .int tur, .int pre, .ref sa, .int (nI n), .ref kpa, .ref kka, .int ko'])), (pa, qE E 8 r), (sa, .inl (E.2.2, 6, .inl (upd th b5 (sMin 999 ((th b5) + (nI (1 + b6)))))))] ++ (gW E r (fun _ => 12) c 8 ++ (rs ++ wm)))) F dL_act_570 2 rfl (by omega) (by first | decide | omega) rfl ?_
  refine g_aload_n F dL_act_571 rfl 0 rfl ?_
  refine g_iload F dL_act_572 4 rfl ?_
  refine g_iload F dL_act_574 5 rfl ?_
  refine g_callM (B := ([(y, .inr (5, [.ref pa, .int (nI m), .int car, .int tur, .int pre, .ref sa, .int (nI n), .ref kpa, .ref kka, .int ko'])), (pa, qE E 8 r), (sa, .inl (E.2.2, 6, .inl (upd th b5 (sMin 999 ((th b5) + (nI (1 + b6)))))))] ++ (gW E r (fun _ => 12) c 8 ++ rs))) (wm := wm) F dL_act_576 (m_wind hm b5 (nI (1 + b6)) hb5 (nI_nlt (b := 1) (by omega) (by omega)) (le_nI (i := 99) (by omega) (by omega))) rfl gL_act_X4_wind heM rfl kV_X4_wind ⟨by decide, by decide⟩ (by simp only [List.append_assoc]) rfl (by exact Nat.le_of_ble_eq_true rfl) ⟨by show 0 + 0 + 0 + 0 ≤ 150; omega, by show 0 + 0 + 0 + 0 ≤ 2586; omega⟩ (fun ov576 V576 hV576 => ?_)
  obtain ⟨rfl, hmN⟩ := hV576
  refine g_ws (ws' := ([(y, .inr (5, [.ref pa, .int (nI m), .int car, .int tur, .int pre, .ref sa, .int (nI n), .ref kpa, .ref kka, .int ko'])), (pa, qE E 8 r), (sa, .inl (E.2.2, 6, .inl (upd th b5 (sMin 999 ((th b5) + (nI (1 + b6)))))))] ++ (gW E r (fun _ => 12) c 8 ++ (rs ++ V576)))) (by simp only [List.append_assoc]) ?_
  refine g_aload_n F dL_act_579 rfl 1 rfl ?_
  refine g_get F dL_act_580 0 rfl rfl i5 5 (by decide) rfl (List.mem_of_getElem? (i := 20) rfl) ?_
  refine g_iload F dL_act_583 4 rfl ?_
  refine g_ialdN (k := b5) F dL_act_585 2 rfl (by omega) (by first | decide | omega) ?_
  refine g_topr (y := sMin 999 (th b5 + nI (1 + b6))) (pk_us) ?_
  refine g_icmp_ne_f (tgt := 593) F dL_act_586 (by decide) (fun z => z rfl) ?_
  refine g_iconst (v := 1) F dL_act_589 (by decide) ?_
  refine g_goto (tgt := 594) F dL_act_590 (by decide) ?_
  refine g_cs (cells' := 150) (slots' := 2586) (by show 0 + 0 + 0 + 0 ≤ 150; omega) (by show 0 + 0 + 0 + 0 ≤ 2586; omega) ?_
  exact g_zretL F hQ dL_act_594 (Or.inr rfl) (act_end hmN hc hkp ⟨hok.1, okT.wind hok.2.1 hb5 (by omega), hok.2.2.1, hok.2.2.2.1, hok.2.2.2.2.1, hok.2.2.2.2.2.1, by have := hok.2.2.2.2.2.2.1; omega, hok.2.2.2.2.2.2.2⟩ (Or.inl ⟨rfl, tot_wind hok.2.1 hb5 (by omega)⟩))
end MWU
