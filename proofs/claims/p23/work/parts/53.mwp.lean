/-! the law: its body, piece by piece -/
section MWPS
theorem inL_i {w : Cond} {i : Nat} (h : wsL_law0[i]? = some w) : w ∈ wsL_law :=
  List.mem_append_left _ (List.mem_append_left _ (List.mem_append_left _ (List.mem_of_getElem? h)))
theorem w_0 (q : Nat) (o : Int32) (cl : AF) (pre : Int32) : mWould q o cl pre 0 = nI q := by
  unfold mWould; rw [if_neg (by decide)]
theorem w_1 (q : Nat) (o : Int32) (cl : AF) (pre : Int32) : mWould q o cl pre 1 = o := by
  unfold mWould; rw [if_pos (by decide), if_neg (by decide)]
theorem w_2 (q : Nat) (o : Int32) (cl : AF) (pre : Int32) : mWould q o cl pre 2 = mAK cl pre 8 := by
  unfold mWould; rw [if_pos (by decide), if_pos (by decide)]
theorem ar_s {f : AF} {i v : Nat} (e : f i = nI v) (hv : v < 256) : upd (arF f i) v 1 = arF f (i + 1) := by
  rw [arF, e, nI_clamp (show v < 2 ^ 31 by omega)]
theorem kn_lo (k : AF) (pre : Int32) (y : Nat) : ¬ mKn k pre y < 1 := by
  obtain ⟨v, h1, h2, e⟩ := kn_bd k pre y
  rw [e]; exact nI_nlt (b := 1) h1 (by omega)
theorem kn_hi (k : AF) (pre : Int32) (y : Nat) : mKn k pre y ≤ 12 := by
  obtain ⟨v, h1, h2, e⟩ := kn_bd k pre y
  rw [e]; exact le_nI (i := 12) h2 (by omega)
theorem ak_lo (k : AF) (pre : Int32) : ¬ mAK k pre 8 < 8 := by
  obtain ⟨v, h1, h2, e⟩ := ak_bd k pre 8
  rw [e]; exact nI_nlt (b := 8) h1 (by omega)
theorem ak_hi (k : AF) (pre : Int32) : ¬ 96 < mAK k pre 8 := by
  obtain ⟨v, h1, h2, e⟩ := ak_bd k pre 8
  rw [e]; exact nI_nlt (a := 96) (by omega) (by omega)
theorem of_lo {f : AF} (hf : okF f) {m : Nat} (h1 : 1 ≤ m) (h6 : m ≤ 6) (car tur : Int32) : ¬ OF f m car tur < 0 := by
  obtain ⟨t, h, e⟩ := OF_nn hf h1 h6 car tur
  rw [e]; exact nI_pos (by omega)
theorem th_lo {th : AF} (h : okT th) {c : Nat} (hc : c < 6) : ¬ th c < 0 := by
  obtain ⟨v, hv, e⟩ := h c hc
  rw [e]; exact nI_pos (by omega)
theorem pp_nn {f : AF} (hf : okF f) {m : Nat} (h1 : 1 ≤ m) (h6 : m ≤ 6) {c : Nat} (hc : c < PQ f m) : 0 ≤ PP f m c := by
  obtain ⟨v, hv, e⟩ := pp_256 hf h1 h6 c hc
  rw [e]; exact nI_pos' (by omega)
theorem pc_yes {f : AF} {m c : Nat} (h : 0 ≤ (if c < PQ f m then PP f m c else (-1))) : c < PQ f m := by
  by_cases z : c < PQ f m
  · exact z
  · rw [if_neg z] at h
    exact absurd h (by decide)
theorem pc_no {f : AF} (hf : okF f) {m c : Nat} (h1 : 1 ≤ m) (h6 : m ≤ 6) (h : ¬ 0 ≤ (if c < PQ f m then PP f m c else (-1))) : ¬ c < PQ f m := by
  intro z
  rw [if_pos z] at h
  exact h (pp_nn hf h1 h6 z)
theorem lcmp_0 (x : Int64) : lg_cmp x x = 0 := by simp [lg_cmp]
theorem nI_m1 {q : Nat} (h : q < 2147483648) : ¬ nI q < (-1) := fun z => nI_pos h (Int32.lt_trans z (by decide))
theorem pp_prev {f : AF} (hf : okF f) {m c : Nat} (h1 : 1 ≤ m) (h6 : m ≤ 6) (h0 : 0 < c) (h : c < PQ f m) : (if c - 1 < PQ f m then PP f m (c - 1) else (-1)) ≤ (if c < PQ f m then PP f m c else (-1)) := by
  rw [if_pos h, if_pos (by omega)]
  have h2 := pp_sort hf h1 h6 (k := c - 1) (by omega)
  rw [show c - 1 + 1 = c by omega] at h2
  exact h2
set_option maxHeartbeats 4000000 in
set_option maxRecDepth 100000 in
theorem law_764 {E : gE} {X : gX} {bS nS x y : Nat} {xs : Nat → Int32} {f th : AF} {m : Nat} {car tur pre : Int32} {n : Nat} {k kp : AF} {kq : Nat} {ko : Int32} {sws wm : va_W} {N t cl sl : Nat} {v4 : Int32} (F : gF E X cL_law RL wsL_law (some .boolean) room_1 22) (hm : MWP E x (f, th, m, car, tur, pre, n, k, kp, kq, ko) wm) (hok : OkS N (f, th, m, car, tur, pre, n, k, kp, kq, ko)) (hN : N < 1000) (hcl : cl ≤ 600000) (hsl : sl ≤ 7000000) (kont : ∀ w, MWP E x (f, th, m, car, tur, pre, n, k, kp, kq, ko) w → G E X cl sl 776 [(0, .ref bS), (1, .ref x), (2, .ref y), (3, .int (nI t))] [] ([] ++ (sws ++ w))) : G E X cl sl 764 [(0, .ref bS), (1, .ref x), (2, .ref y), (3, .int (nI t)), (4, .int v4), (7, .long (mDG (f, th, m, car, tur, pre, n, k, kp, kq, ko)))] [] ([] ++ (sws ++ wm)) := by
  have hn : n < 2147483648 := by have := hok.2.2.2.2.2.2.1; omega
  have hm1 : 1 ≤ m := by have := hok.2.2.1.1; omega
  have hm2 : 2 ≤ m := hok.2.2.1.1
  have hm6 : m ≤ 6 := hok.2.2.1.2
  have hp6 : PQ f m ≤ 6 := Nat.le_trans (PQ_m f hm1) hm6
  have hpm : PQ f m ≤ m := PQ_m f hm1
  have hp1 : 1 ≤ PQ f m := PQ_1 f m
  refine g_aload_n F dL_law_764 rfl 1 rfl ?_
  refine g_callM (B := ([] ++ sws)) (wm := wm) F dL_law_765 (m_digest hm hn) rfl gL_law_X4_digest hm.mem.choose_spec rfl kV_X4_digest ⟨by decide, by decide⟩ (by simp only [List.append_assoc]) rfl (by exact Nat.le_of_ble_eq_true rfl) ⟨by show cl + 0 ≤ 600130; omega, by show sl + 0 ≤ 7301080; omega⟩ (fun ov765 V765 hV765 => ?_)
  obtain ⟨rfl, hV765⟩ := hV765
  refine g_ws (ws' := ([] ++ (sws ++ V765))) (by simp only [List.append_assoc]) ?_
  refine g_lload F dL_law_768 5 rfl ?_
  refine g_lcmp F dL_law_770 ?_
  refine g_if_eq_t (tgt := 776) F dL_law_771 (by decide) (lcmp_0 _) ?_
  refine g_lv (L' := [(0, .ref bS), (1, .ref x), (2, .ref y), (3, .int (nI t))]) [0, 1, 2, 3] rfl ?_
  refine g_cs (cells' := cl) (slots' := sl) (by show cl + 0 ≤ cl; omega) (by show sl + 0 ≤ sl; omega) ?_
  exact kont _ hV765
set_option maxHeartbeats 4000000 in
set_option maxRecDepth 100000 in
theorem law_624 {E : gE} {X : gX} {bS nS x y : Nat} {xs : Nat → Int32} {f th : AF} {m : Nat} {car tur pre : Int32} {n : Nat} {k kp : AF} {kq : Nat} {ko : Int32} {sws wm : va_W} {N t cl sl : Nat} {v4 : Int32} (F : gF E X cL_law RL wsL_law (some .boolean) room_1 22) (hm : MWP E x (f, th, m, car, tur, pre, n, k, kp, kq, ko) wm) (hok : OkS N (f, th, m, car, tur, pre, n, k, kp, kq, ko)) (hN : N < 1000) (hcl : cl ≤ 600000) (hsl : sl ≤ 7000000) (kont : ∀ w, MWP E x (f, th, m, car, tur, pre, n, k, kp, kq, ko) w → G E X cl sl 776 [(0, .ref bS), (1, .ref x), (2, .ref y), (3, .int (nI t))] [] ([] ++ (sws ++ w))) : G E X cl sl 624 [(0, .ref bS), (1, .ref x), (2, .ref y), (3, .int (nI t)), (4, .int v4), (7, .long (mDG (f, th, m, car, tur, pre, n, k, kp, kq, ko)))] [] ([] ++ (sws ++ wm)) := by
  have hn : n < 2147483648 := by have := hok.2.2.2.2.2.2.1; omega
  have hm1 : 1 ≤ m := by have := hok.2.2.1.1; omega
  have hm2 : 2 ≤ m := hok.2.2.1.1
  have hm6 : m ≤ 6 := hok.2.2.1.2
  have hp6 : PQ f m ≤ 6 := Nat.le_trans (PQ_m f hm1) hm6
  have hpm : PQ f m ≤ m := PQ_m f hm1
  have hp1 : 1 ≤ PQ f m := PQ_1 f m
  refine g_aload_n F dL_law_624 rfl 1 rfl ?_
  refine g_iconst (v := 4) F dL_law_625 (by decide) ?_
  refine g_callM (B := ([] ++ sws)) (wm := wm) F dL_law_626 (m_count hm 4 (by omega) hn) rfl gL_law_X4_count hm.mem.choose_spec rfl kV_X4_count ⟨by decide, by decide⟩ (by simp only [List.append_assoc]) rfl (by exact Nat.le_of_ble_eq_true rfl) ⟨by show cl + 0 ≤ 600130; omega, by show sl + 0 ≤ 7301080; omega⟩ (fun ov626 V626 hV626 => ?_)
  obtain ⟨rfl, hV626⟩ := hV626
  refine g_ws (ws' := ([] ++ (sws ++ V626))) (by simp only [List.append_assoc]) ?_
  refine g_if_le (tgt := 764) F dL_law_629 (by decide) (fun k629 => ?_) (fun k629 => ?_)
  · skip
    refine g_cs (cells' := cl) (slots' := sl) (by show cl + 0 ≤ cl; omega) (by show sl + 0 ≤ sl; omega) ?_
    exact law_764 (nS := nS) (xs := xs) F hV626 hok hN hcl hsl kont
  · skip
    have hn0 : 0 < n := by have := mt (nI_le0 hn).mpr k629; omega
    obtain ⟨hk1, hk2, hk3, hk4⟩ := hok.2.2.2.2.2.2.2 hn0
    refine g_iconst (v := 0) F dL_law_632 (by decide) ?_
    refine g_istore (L' := [(0, .ref bS), (1, .ref x), (2, .ref y), (3, .int (nI t)), (4, .int v4), (7, .long (mDG (f, th, m, car, tur, pre, n, k, kp, kq, ko))), (18, .int 0)]) F dL_law_633 (by decide) [1, 2, 3, 4, 5, 6, 0] rfl ?_
    refine g_iconst (v := 0) F dL_law_635 (by decide) ?_
    refine g_istore (L' := [(0, .ref bS), (1, .ref x), (2, .ref y), (3, .int (nI t)), (4, .int v4), (7, .long (mDG (f, th, m, car, tur, pre, n, k, kp, kq, ko))), (18, .int 0), (19, .int 0)]) F dL_law_636 (by decide) [1, 2, 3, 4, 5, 6, 7, 0] rfl ?_
    refine g_iconst (v := 0) F dL_law_638 (by decide) ?_
    refine g_istore (L' := [(0, .ref bS), (1, .ref x), (2, .ref y), (3, .int (nI t)), (4, .int v4), (7, .long (mDG (f, th, m, car, tur, pre, n, k, kp, kq, ko))), (18, .int 0), (19, .int 0), (20, .int 0)]) F dL_law_639 (by decide) [1, 2, 3, 4, 5, 6, 7, 8, 0] rfl ?_
    have lp641 : ∀ (n641 i641 : Nat), i641 + n641 = 6 → ∀ (w641 : va_W), (MWP E x (f, th, m, car, tur, pre, n, k, kp, kq, ko) w641) → G E X (cl + 0) (sl + 0) 641 [(0, .ref bS), (1, .ref x), (2, .ref y), (3, .int (nI t)), (4, .int v4), (7, .long (mDG (f, th, m, car, tur, pre, n, k, kp, kq, ko))), (18, .int (csF k i641)), (19, .int 0), (20, .int (nI i641))] [] ([] ++ (sws ++ w641)) := by
      intro n641
      induction n641 with
      | zero =>
        intro i641 hi641 w641  hm641
        have he641 : i641 = 6 := by omega
        rw [he641]
        refine g_iload F dL_law_641 8 rfl ?_
        refine g_bipush (v := 6) F dL_law_643 (by decide) ?_
        refine g_icmp_ge_t (tgt := 698) F dL_law_645 (by decide) (by decide) ?_
        refine g_iconst (v := 0) F dL_law_698 (by decide) ?_
        refine g_istore (L' := [(0, .ref bS), (1, .ref x), (2, .ref y), (3, .int (nI t)), (4, .int v4), (7, .long (mDG (f, th, m, car, tur, pre, n, k, kp, kq, ko))), (18, .int (csF k 6)), (19, .int 0), (20, .int 0)]) F dL_law_699 (by decide) [1, 2, 3, 4, 5, 6, 7, 8, 0] rfl ?_
        have lp701 : ∀ (n701 i701 : Nat), i701 + n701 = 8 → ∀ (w701 : va_W), (MWP E x (f, th, m, car, tur, pre, n, k, kp, kq, ko) w701) → G E X (cl + 0) (sl + 0) 701 [(0, .ref bS), (1, .ref x), (2, .ref y), (3, .int (nI t)), (4, .int v4), (7, .long (mDG (f, th, m, car, tur, pre, n, k, kp, kq, ko))), (18, .int (csF k 6)), (19, .int (mAK k pre i701)), (20, .int (nI i701))] [] ([] ++ (sws ++ w701)) := by
          intro n701
          induction n701 with
          | zero =>
            intro i701 hi701 w701  hm701
            have he701 : i701 = 8 := by omega
            rw [he701]
            refine g_iload F dL_law_701 8 rfl ?_
            refine g_bipush (v := 8) F dL_law_703 (by decide) ?_
            refine g_icmp_ge_t (tgt := 744) F dL_law_705 (by decide) (by decide) ?_
            refine g_iload F dL_law_744 6 rfl ?_
            refine g_bipush (v := 96) F dL_law_746 (by decide) ?_
            refine g_icmp_ne_f (tgt := 762) F dL_law_748 (by decide) (fun z => z (cs_6 hk2 hk3)) ?_
            refine g_iload F dL_law_751 7 rfl ?_
            refine g_aload_n F dL_law_753 rfl 1 rfl ?_
            refine g_bipush (v := 7) F dL_law_754 (by decide) ?_
            refine g_callM (B := ([] ++ sws)) (wm := w701) F dL_law_756 (m_count hm701 7 (by omega) hn) rfl gL_law_X4_count hm701.mem.choose_spec rfl kV_X4_count ⟨by decide, by decide⟩ (by simp only [List.append_assoc]) rfl (by exact Nat.le_of_ble_eq_true rfl) ⟨by show cl + 0 + 0 ≤ 600130; omega, by show sl + 0 + 0 ≤ 7301080; omega⟩ (fun ov756 V756 hV756 => ?_)
            obtain ⟨rfl, hV756⟩ := hV756
            refine g_ws (ws' := ([] ++ (sws ++ V756))) (by simp only [List.append_assoc]) ?_
            refine g_topr (y := mAK k pre 8) (if_neg k629) ?_
            refine g_icmp_eq_t (tgt := 764) F dL_law_759 (by decide) (rfl) ?_
            refine g_lv (L' := [(0, .ref bS), (1, .ref x), (2, .ref y), (3, .int (nI t)), (4, .int v4), (7, .long (mDG (f, th, m, car, tur, pre, n, k, kp, kq, ko)))]) [0, 1, 2, 3, 4, 5] rfl ?_
            refine g_cs (cells' := cl) (slots' := sl) (by show cl + 0 + 0 ≤ cl; omega) (by show sl + 0 + 0 ≤ sl; omega) ?_
            exact law_764 (nS := nS) (xs := xs) F hV756 hok hN hcl hsl kont
          | succ n701 ih701 =>
            intro i701 hi701 w701  hm701
            have hl701 : i701 < 8 := by omega
            refine g_iload F dL_law_701 8 rfl ?_
            refine g_bipush (v := 8) F dL_law_703 (by decide) ?_
            refine g_icmp_ge_f (tgt := 744) F dL_law_705 (by decide) (nle_nI (n := 8) hl701 (by omega)) ?_
            refine g_aload_n F dL_law_708 rfl 1 rfl ?_
            refine g_iload F dL_law_709 8 rfl ?_
            refine g_callM (B := ([] ++ sws)) (wm := w701) F dL_law_711 (m_knots hm701 i701 (by omega) hn0 hn) rfl gL_law_X4_knots hm701.mem.choose_spec rfl kV_X4_knots ⟨by decide, by decide⟩ (by simp only [List.append_assoc]) rfl (by exact Nat.le_of_ble_eq_true rfl) ⟨by show cl + 0 + 0 ≤ 600130; omega, by show sl + 0 + 0 ≤ 7301080; omega⟩ (fun ov711 V711 hV711 => ?_)
            obtain ⟨rfl, hV711⟩ := hV711
            refine g_ws (ws' := ([] ++ (sws ++ V711))) (by simp only [List.append_assoc]) ?_
            refine g_istore (L' := [(0, .ref bS), (1, .ref x), (2, .ref y), (3, .int (nI t)), (4, .int v4), (7, .long (mDG (f, th, m, car, tur, pre, n, k, kp, kq, ko))), (18, .int (csF k 6)), (19, .int (mAK k pre i701)), (20, .int (nI i701)), (21, .int (mKn k pre i701))]) F dL_law_714 (by decide) [1, 2, 3, 4, 5, 6, 7, 8, 9, 0] rfl ?_
            refine g_iload F dL_law_716 9 rfl ?_
            refine g_iconst (v := 1) F dL_law_718 (by decide) ?_
            refine g_icmp_lt_f (tgt := 729) F dL_law_719 (by decide) (kn_lo _ _ _) ?_
            refine g_iload F dL_law_722 9 rfl ?_
            refine g_bipush (v := 12) F dL_law_724 (by decide) ?_
            refine g_icmp_le_t (tgt := 731) F dL_law_726 (by decide) (kn_hi _ _ _) ?_
            refine g_iload F dL_law_731 7 rfl ?_
            refine g_iload F dL_law_733 9 rfl ?_
            refine g_iadd F dL_law_735 ?_
            refine g_istore (L' := [(0, .ref bS), (1, .ref x), (2, .ref y), (3, .int (nI t)), (4, .int v4), (7, .long (mDG (f, th, m, car, tur, pre, n, k, kp, kq, ko))), (18, .int (csF k 6)), (19, .int ((mAK k pre i701) + (mKn k pre i701))), (20, .int (nI i701)), (21, .int (mKn k pre i701))]) F dL_law_736 (by decide) [1, 2, 3, 4, 5, 6, 7, 0, 8, 9] rfl ?_
            refine g_iinc (L' := [(0, .ref bS), (1, .ref x), (2, .ref y), (3, .int (nI t)), (4, .int v4), (7, .long (mDG (f, th, m, car, tur, pre, n, k, kp, kq, ko))), (18, .int (csF k 6)), (19, .int ((mAK k pre i701) + (mKn k pre i701))), (20, .int (nI (i701 + 1))), (21, .int (mKn k pre i701))]) (v := nI (i701 + 1)) F dL_law_738 8 rfl (nI_1 _) (by decide) [1, 2, 3, 4, 5, 6, 7, 8, 0, 9] rfl ?_
            refine g_goto (tgt := 701) F dL_law_741 (by decide) ?_
            refine g_lv (L' := [(0, .ref bS), (1, .ref x), (2, .ref y), (3, .int (nI t)), (4, .int v4), (7, .long (mDG (f, th, m, car, tur, pre, n, k, kp, kq, ko))), (18, .int (csF k 6)), (19, .int ((mAK k pre i701) + (mKn k pre i701))), (20, .int (nI (i701 + 1)))]) [0, 1, 2, 3, 4, 5, 6, 7, 8] rfl ?_
            exact ih701 (i701 + 1) (by omega) V711 hV711
        exact lp701 8 0 (by omega) w641 hm641
      | succ n641 ih641 =>
        intro i641 hi641 w641  hm641
        have hl641 : i641 < 6 := by omega
        refine g_iload F dL_law_641 8 rfl ?_
        refine g_bipush (v := 6) F dL_law_643 (by decide) ?_
        refine g_icmp_ge_f (tgt := 698) F dL_law_645 (by decide) (nle_nI (n := 6) hl641 (by omega)) ?_
        refine g_iload F dL_law_648 6 rfl ?_
        refine g_aload_n F dL_law_650 rfl 1 rfl ?_
        refine g_iload F dL_law_651 8 rfl ?_
        refine g_iconst (v := 1) F dL_law_653 (by decide) ?_
        refine g_callM (B := ([] ++ sws)) (wm := w641) F dL_law_654 (m_thread1 hm641 i641 (by omega) hn) rfl gL_law_X4_thread hm641.mem.choose_spec rfl kV_X4_thread ⟨by decide, by decide⟩ (by simp only [List.append_assoc]) rfl (by exact Nat.le_of_ble_eq_true rfl) ⟨by show cl + 0 + 0 ≤ 600130; omega, by show sl + 0 + 0 ≤ 7301080; omega⟩ (fun ov654 V654 hV654 => ?_)
        obtain ⟨rfl, hV654⟩ := hV654
        refine g_ws (ws' := ([] ++ (sws ++ V654))) (by simp only [List.append_assoc]) ?_
        refine g_topr (y := mCo k (nI i641) 96) (if_neg (by omega)) ?_
        refine g_iadd F dL_law_657 ?_
        refine g_istore (L' := [(0, .ref bS), (1, .ref x), (2, .ref y), (3, .int (nI t)), (4, .int v4), (7, .long (mDG (f, th, m, car, tur, pre, n, k, kp, kq, ko))), (18, .int ((csF k i641) + (mCo k (nI i641) 96))), (19, .int 0), (20, .int (nI i641))]) F dL_law_658 (by decide) [1, 2, 3, 4, 5, 6, 0, 7, 8] rfl ?_
        refine g_aload_n F dL_law_660 rfl 1 rfl ?_
        refine g_iload F dL_law_661 8 rfl ?_
        refine g_iconst (v := 0) F dL_law_663 (by decide) ?_
        refine g_callM (B := ([] ++ sws)) (wm := V654) F dL_law_664 (m_thread0 hV654 i641 (by omega)) rfl gL_law_X4_thread hV654.mem.choose_spec rfl kV_X4_thread ⟨by decide, by decide⟩ (by simp only [List.append_assoc]) rfl (by exact Nat.le_of_ble_eq_true rfl) ⟨by show cl + 0 + 0 + 0 ≤ 600130; omega, by show sl + 0 + 0 + 0 ≤ 7301080; omega⟩ (fun ov664 V664 hV664 => ?_)
        obtain ⟨rfl, hV664⟩ := hV664
        refine g_ws (ws' := ([] ++ (sws ++ V664))) (by simp only [List.append_assoc]) ?_
        refine g_if_lt_f (tgt := 690) F dL_law_667 (by decide) (th_lo hok.2.1 hl641) ?_
        refine g_aload_n F dL_law_670 rfl 1 rfl ?_
        refine g_iload F dL_law_671 8 rfl ?_
        refine g_iconst (v := 1) F dL_law_673 (by decide) ?_
        refine g_callM (B := ([] ++ sws)) (wm := V664) F dL_law_674 (m_thread1 hV664 i641 (by omega) hn) rfl gL_law_X4_thread hV664.mem.choose_spec rfl kV_X4_thread ⟨by decide, by decide⟩ (by simp only [List.append_assoc]) rfl (by exact Nat.le_of_ble_eq_true rfl) ⟨by show cl + 0 + 0 + 0 + 0 ≤ 600130; omega, by show sl + 0 + 0 + 0 + 0 ≤ 7301080; omega⟩ (fun ov674 V674 hV674 => ?_)
        obtain ⟨rfl, hV674⟩ := hV674
        refine g_ws (ws' := ([] ++ (sws ++ V674))) (by simp only [List.append_assoc]) ?_
        refine g_topr (y := mCo k (nI i641) 96) (if_neg (by omega)) ?_
        refine g_if_le (tgt := 692) F dL_law_677 (by decide) (fun k677 => ?_) (fun k677 => ?_)
        · skip
          refine g_iinc (L' := [(0, .ref bS), (1, .ref x), (2, .ref y), (3, .int (nI t)), (4, .int v4), (7, .long (mDG (f, th, m, car, tur, pre, n, k, kp, kq, ko))), (18, .int ((csF k i641) + (mCo k (nI i641) 96))), (19, .int 0), (20, .int (nI (i641 + 1)))]) (v := nI (i641 + 1)) F dL_law_692 8 rfl (nI_1 _) (by decide) [1, 2, 3, 4, 5, 6, 7, 8, 0] rfl ?_
          refine g_goto (tgt := 641) F dL_law_695 (by decide) ?_
          exact ih641 (i641 + 1) (by omega) V674 hV674
        · skip
          refine g_aload_n F dL_law_680 rfl 1 rfl ?_
          refine g_iload F dL_law_681 8 rfl ?_
          refine g_iconst (v := 2) F dL_law_683 (by decide) ?_
          refine g_callM (B := ([] ++ sws)) (wm := V674) F dL_law_684 (m_thread2 hV674 i641 (by omega) hn) rfl gL_law_X4_thread hV674.mem.choose_spec rfl kV_X4_thread ⟨by decide, by decide⟩ (by simp only [List.append_assoc]) rfl (by exact Nat.le_of_ble_eq_true rfl) ⟨by show cl + 0 + 0 + 0 + 0 + 0 ≤ 600130; omega, by show sl + 0 + 0 + 0 + 0 + 0 ≤ 7301080; omega⟩ (fun ov684 V684 hV684 => ?_)
          obtain ⟨rfl, hV684⟩ := hV684
          refine g_ws (ws' := ([] ++ (sws ++ V684))) (by simp only [List.append_assoc]) ?_
          refine g_topr (y := kp i641) (by rw [if_neg (by omega), if_pos (co_no hk3 hk2 hl641 k677)]) ?_
          refine g_if_ge_t (tgt := 692) F dL_law_687 (by decide) (by obtain ⟨v, hv, e⟩ := hk4 i641 (co_no hk3 hk2 hl641 k677); rw [e]; exact nI_pos' (by omega)) ?_
          refine g_iinc (L' := [(0, .ref bS), (1, .ref x), (2, .ref y), (3, .int (nI t)), (4, .int v4), (7, .long (mDG (f, th, m, car, tur, pre, n, k, kp, kq, ko))), (18, .int ((csF k i641) + (mCo k (nI i641) 96))), (19, .int 0), (20, .int (nI (i641 + 1)))]) (v := nI (i641 + 1)) F dL_law_692 8 rfl (nI_1 _) (by decide) [1, 2, 3, 4, 5, 6, 7, 8, 0] rfl ?_
          refine g_goto (tgt := 641) F dL_law_695 (by decide) ?_
          exact ih641 (i641 + 1) (by omega) V684 hV684
    exact lp641 6 0 (by omega) V626 hV626
set_option maxHeartbeats 4000000 in
set_option maxRecDepth 100000 in
theorem law_438q {E : gE} {X : gX} {bS nS x y : Nat} {xs : Nat → Int32} {f th : AF} {m : Nat} {car tur pre : Int32} {n : Nat} {k kp : AF} {kq : Nat} {ko : Int32} {sws wm : va_W} {N t cl sl : Nat} {v4 : Int32} (F : gF E X cL_law RL wsL_law (some .boolean) room_1 22) (hm : MWP E x (f, th, m, car, tur, pre, n, k, kp, kq, ko) wm) (hok : OkS N (f, th, m, car, tur, pre, n, k, kp, kq, ko)) (hN : N < 1000) (hcl : cl ≤ 600000) (hsl : sl ≤ 7000000) {b6 : Nat} (hb6 : b6 < 97) {q : Nat} (hq1 : 2 ≤ q) (hq2 : q < 7) (hq5 : ¬ nI b6 < mAK (CL f q car tur) pre 8) (hq6 : ∀ j, 2 ≤ j → j < 7 → ¬ nI b6 < mAK (CL f j car tur) pre 8 → OF f q car tur ≤ OF f j car tur ∧ (j < q → ¬ OF f j car tur = OF f q car tur)) (kont : ∀ w, MWP E x (f, th, m, car, tur, pre, n, k, kp, kq, ko) w → G E X cl sl 776 [(0, .ref bS), (1, .ref x), (2, .ref y), (3, .int (nI t))] [] ([] ++ (sws ++ w))) : G E X cl sl 438 [(0, .ref bS), (1, .ref x), (2, .ref y), (3, .int (nI t)), (4, .int v4), (7, .long (mDG (f, th, m, car, tur, pre, n, k, kp, kq, ko))), (16, .int (nI b6)), (17, .int (nI q))] [] ([] ++ (sws ++ wm)) := by
  have hn : n < 2147483648 := by have := hok.2.2.2.2.2.2.1; omega
  have hm1 : 1 ≤ m := by have := hok.2.2.1.1; omega
  have hm2 : 2 ≤ m := hok.2.2.1.1
  have hm6 : m ≤ 6 := hok.2.2.1.2
  have hp6 : PQ f m ≤ 6 := Nat.le_trans (PQ_m f hm1) hm6
  have hpm : PQ f m ≤ m := PQ_m f hm1
  have hp1 : 1 ≤ PQ f m := PQ_1 f m
  refine g_iconst (v := 2) F dL_law_438 (by decide) ?_
  refine g_istore (L' := [(0, .ref bS), (1, .ref x), (2, .ref y), (3, .int (nI t)), (4, .int v4), (7, .long (mDG (f, th, m, car, tur, pre, n, k, kp, kq, ko))), (16, .int (nI b6)), (17, .int (nI q)), (18, .int 2)]) F dL_law_439 (by decide) [1, 2, 3, 4, 5, 6, 7, 8, 0] rfl ?_
  have lp441 : ∀ (n441 i441 : Nat), i441 + n441 = 7 → ∀ (w441 : va_W), (MWP E x (f, th, m, car, tur, pre, n, k, kp, kq, ko) w441) → (2 ≤ i441) → G E X cl sl 441 [(0, .ref bS), (1, .ref x), (2, .ref y), (3, .int (nI t)), (4, .int v4), (7, .long (mDG (f, th, m, car, tur, pre, n, k, kp, kq, ko))), (16, .int (nI b6)), (17, .int (nI q)), (18, .int (nI i441))] [] ([] ++ (sws ++ w441)) := by
    intro n441
    induction n441 with
    | zero =>
      intro i441 hi441 w441  hm441 hlo441
      have he441 : i441 = 7 := by omega
      rw [he441]
      refine g_iload F dL_law_441 8 rfl ?_
      refine g_bipush (v := 7) F dL_law_443 (by decide) ?_
      refine g_icmp_ge_t (tgt := 581) F dL_law_445 (by decide) (by decide) ?_
      refine g_iload F dL_law_581 7 rfl ?_
      refine g_if_lt_f (tgt := 598) F dL_law_583 (by decide) (nI_pos (by omega)) ?_
      refine g_aload_n F dL_law_586 rfl 1 rfl ?_
      refine g_iload F dL_law_587 7 rfl ?_
      refine g_iconst (v := 2) F dL_law_589 (by decide) ?_
      refine g_callM (B := ([] ++ sws)) (wm := w441) F dL_law_590 (m_would hm441 q 2 (by omega) (by omega) (by decide) (by decide) hok) rfl gL_law_X4_would hm441.mem.choose_spec rfl kV_X4_would ⟨by decide, by decide⟩ (by simp only [List.append_assoc]) rfl (by exact Nat.le_of_ble_eq_true rfl) ⟨by show cl + 0 ≤ 600130; omega, by show sl + 0 ≤ 7301080; omega⟩ (fun ov590 V590 hV590 => ?_)
      obtain ⟨rfl, hV590⟩ := hV590
      refine g_ws (ws' := ([] ++ (sws ++ V590))) (by simp only [List.append_assoc]) ?_
      refine g_topr (y := mAK (CL f q car tur) pre 8) (w_2 _ _ _ _) ?_
      refine g_iload F dL_law_593 6 rfl ?_
      refine g_icmp_gt_f (tgt := 622) F dL_law_595 (by decide) (hq5) ?_
      refine g_iload F dL_law_598 7 rfl ?_
      refine g_iconst (v := (-1)) F dL_law_600 (by decide) ?_
      refine g_icmp_lt_f (tgt := 622) F dL_law_601 (by decide) (nI_m1 (by omega)) ?_
      refine g_iload F dL_law_604 7 rfl ?_
      refine g_if_eq_f (tgt := 622) F dL_law_606 (by decide) (nI_ne0 (by omega) (by omega)) ?_
      refine g_iload F dL_law_609 7 rfl ?_
      refine g_iconst (v := 1) F dL_law_611 (by decide) ?_
      refine g_icmp_eq_f (tgt := 622) F dL_law_612 (by decide) (fun z => absurd ((nI_eq (b := 1) (by omega) (by omega)).mp z) (by omega)) ?_
      refine g_iload F dL_law_615 7 rfl ?_
      refine g_bipush (v := 6) F dL_law_617 (by decide) ?_
      refine g_icmp_le_t (tgt := 624) F dL_law_619 (by decide) (le_nI (i := 6) (by omega) (by omega)) ?_
      refine g_lv (L' := [(0, .ref bS), (1, .ref x), (2, .ref y), (3, .int (nI t)), (4, .int v4), (7, .long (mDG (f, th, m, car, tur, pre, n, k, kp, kq, ko)))]) [0, 1, 2, 3, 4, 5] rfl ?_
      refine g_cs (cells' := cl) (slots' := sl) (by show cl + 0 ≤ cl; omega) (by show sl + 0 ≤ sl; omega) ?_
      exact law_624 (nS := nS) (xs := xs) F hV590 hok hN hcl hsl kont
    | succ n441 ih441 =>
      intro i441 hi441 w441  hm441 hlo441
      have hl441 : i441 < 7 := by omega
      refine g_iload F dL_law_441 8 rfl ?_
      refine g_bipush (v := 7) F dL_law_443 (by decide) ?_
      refine g_icmp_ge_f (tgt := 581) F dL_law_445 (by decide) (nle_nI (n := 7) hl441 (by omega)) ?_
      refine g_aload_n F dL_law_448 rfl 1 rfl ?_
      refine g_iload F dL_law_449 8 rfl ?_
      refine g_iconst (v := 2) F dL_law_451 (by decide) ?_
      refine g_callM (B := ([] ++ sws)) (wm := w441) F dL_law_452 (m_would hm441 i441 2 (by omega) (by omega) (by decide) (by decide) hok) rfl gL_law_X4_would hm441.mem.choose_spec rfl kV_X4_would ⟨by decide, by decide⟩ (by simp only [List.append_assoc]) rfl (by exact Nat.le_of_ble_eq_true rfl) ⟨by show cl + 0 ≤ 600130; omega, by show sl + 0 ≤ 7301080; omega⟩ (fun ov452 V452 hV452 => ?_)
      obtain ⟨rfl, hV452⟩ := hV452
      refine g_ws (ws' := ([] ++ (sws ++ V452))) (by simp only [List.append_assoc]) ?_
      refine g_topr (y := mAK (CL f i441 car tur) pre 8) (w_2 _ _ _ _) ?_
      refine g_istore (L' := [(0, .ref bS), (1, .ref x), (2, .ref y), (3, .int (nI t)), (4, .int v4), (7, .long (mDG (f, th, m, car, tur, pre, n, k, kp, kq, ko))), (16, .int (nI b6)), (17, .int (nI q)), (18, .int (nI i441)), (19, .int (mAK (CL f i441 car tur) pre 8))]) F dL_law_455 (by decide) [1, 2, 3, 4, 5, 6, 7, 8, 9, 0] rfl ?_
      refine g_iload F dL_law_457 9 rfl ?_
      refine g_bipush (v := 8) F dL_law_459 (by decide) ?_
      refine g_icmp_lt_f (tgt := 518) F dL_law_461 (by decide) (ak_lo _ _) ?_
      refine g_iload F dL_law_464 9 rfl ?_
      refine g_bipush (v := 96) F dL_law_466 (by decide) ?_
      refine g_icmp_gt_f (tgt := 518) F dL_law_468 (by decide) (ak_hi _ _) ?_
      refine g_aload_n F dL_law_471 rfl 1 rfl ?_
      refine g_iload F dL_law_472 8 rfl ?_
      refine g_iconst (v := 1) F dL_law_474 (by decide) ?_
      refine g_callM (B := ([] ++ sws)) (wm := V452) F dL_law_475 (m_would hV452 i441 1 (by omega) (by omega) (by decide) (by decide) hok) rfl gL_law_X4_would hV452.mem.choose_spec rfl kV_X4_would ⟨by decide, by decide⟩ (by simp only [List.append_assoc]) rfl (by exact Nat.le_of_ble_eq_true rfl) ⟨by show cl + 0 + 0 ≤ 600130; omega, by show sl + 0 + 0 ≤ 7301080; omega⟩ (fun ov475 V475 hV475 => ?_)
      obtain ⟨rfl, hV475⟩ := hV475
      refine g_ws (ws' := ([] ++ (sws ++ V475))) (by simp only [List.append_assoc]) ?_
      refine g_topr (y := OF f i441 car tur) (w_1 _ _ _ _) ?_
      refine g_if_lt_f (tgt := 518) F dL_law_478 (by decide) (of_lo hok.1 (by omega) (by omega) _ _) ?_
      refine g_aload_n F dL_law_481 rfl 1 rfl ?_
      refine g_iload F dL_law_482 8 rfl ?_
      refine g_iconst (v := 0) F dL_law_484 (by decide) ?_
      refine g_callM (B := ([] ++ sws)) (wm := V475) F dL_law_485 (m_would hV475 i441 0 (by omega) (by omega) (by decide) (by decide) hok) rfl gL_law_X4_would hV475.mem.choose_spec rfl kV_X4_would ⟨by decide, by decide⟩ (by simp only [List.append_assoc]) rfl (by exact Nat.le_of_ble_eq_true rfl) ⟨by show cl + 0 + 0 + 0 ≤ 600130; omega, by show sl + 0 + 0 + 0 ≤ 7301080; omega⟩ (fun ov485 V485 hV485 => ?_)
      obtain ⟨rfl, hV485⟩ := hV485
      refine g_ws (ws' := ([] ++ (sws ++ V485))) (by simp only [List.append_assoc]) ?_
      refine g_topr (y := nI (PQ f i441)) (w_0 _ _ _ _) ?_
      refine g_iload F dL_law_488 8 rfl ?_
      refine g_icmp_gt_f (tgt := 518) F dL_law_490 (by decide) (nI_nlt (PQ_m f (by omega)) (by omega)) ?_
      refine g_iload F dL_law_493 8 rfl ?_
      refine g_iconst (v := 2) F dL_law_495 (by decide) ?_
      refine g_icmp_le (tgt := 520) F dL_law_496 (by decide) (fun k496 => ?_) (fun k496 => ?_)
      · skip
        refine g_iload F dL_law_520 9 rfl ?_
        refine g_iload F dL_law_522 6 rfl ?_
        refine g_icmp_gt (tgt := 575) F dL_law_524 (by decide) (fun k524 => ?_) (fun k524 => ?_)
        · skip
          refine g_iinc (L' := [(0, .ref bS), (1, .ref x), (2, .ref y), (3, .int (nI t)), (4, .int v4), (7, .long (mDG (f, th, m, car, tur, pre, n, k, kp, kq, ko))), (16, .int (nI b6)), (17, .int (nI q)), (18, .int (nI (i441 + 1))), (19, .int (mAK (CL f i441 car tur) pre 8))]) (v := nI (i441 + 1)) F dL_law_575 8 rfl (nI_1 _) (by decide) [1, 2, 3, 4, 5, 6, 7, 8, 0, 9] rfl ?_
          refine g_goto (tgt := 441) F dL_law_578 (by decide) ?_
          refine g_lv (L' := [(0, .ref bS), (1, .ref x), (2, .ref y), (3, .int (nI t)), (4, .int v4), (7, .long (mDG (f, th, m, car, tur, pre, n, k, kp, kq, ko))), (16, .int (nI b6)), (17, .int (nI q)), (18, .int (nI (i441 + 1)))]) [0, 1, 2, 3, 4, 5, 6, 7, 8] rfl ?_
          exact ih441 (i441 + 1) (by omega) V485 hV485 (by omega)
        · skip
          refine g_iload F dL_law_527 7 rfl ?_
          refine g_if_lt_f (tgt := 573) F dL_law_529 (by decide) (nI_pos (by omega)) ?_
          refine g_aload_n F dL_law_532 rfl 1 rfl ?_
          refine g_iload F dL_law_533 8 rfl ?_
          refine g_iconst (v := 1) F dL_law_535 (by decide) ?_
          refine g_callM (B := ([] ++ sws)) (wm := V485) F dL_law_536 (m_would hV485 i441 1 (by omega) (by omega) (by decide) (by decide) hok) rfl gL_law_X4_would hV485.mem.choose_spec rfl kV_X4_would ⟨by decide, by decide⟩ (by simp only [List.append_assoc]) rfl (by exact Nat.le_of_ble_eq_true rfl) ⟨by show cl + 0 + 0 + 0 + 0 ≤ 600130; omega, by show sl + 0 + 0 + 0 + 0 ≤ 7301080; omega⟩ (fun ov536 V536 hV536 => ?_)
          obtain ⟨rfl, hV536⟩ := hV536
          refine g_ws (ws' := ([] ++ (sws ++ V536))) (by simp only [List.append_assoc]) ?_
          refine g_topr (y := OF f i441 car tur) (w_1 _ _ _ _) ?_
          refine g_aload_n F dL_law_539 rfl 1 rfl ?_
          refine g_iload F dL_law_540 7 rfl ?_
          refine g_iconst (v := 1) F dL_law_542 (by decide) ?_
          refine g_callM (B := ([] ++ sws)) (wm := V536) F dL_law_543 (m_would hV536 q 1 (by omega) (by omega) (by decide) (by decide) hok) rfl gL_law_X4_would hV536.mem.choose_spec rfl kV_X4_would ⟨by decide, by decide⟩ (by simp only [List.append_assoc]) rfl (by exact Nat.le_of_ble_eq_true rfl) ⟨by show cl + 0 + 0 + 0 + 0 + 0 ≤ 600130; omega, by show sl + 0 + 0 + 0 + 0 + 0 ≤ 7301080; omega⟩ (fun ov543 V543 hV543 => ?_)
          obtain ⟨rfl, hV543⟩ := hV543
          refine g_ws (ws' := ([] ++ (sws ++ V543))) (by simp only [List.append_assoc]) ?_
          refine g_topr (y := OF f q car tur) (w_1 _ _ _ _) ?_
          refine g_icmp_lt_f (tgt := 573) F dL_law_546 (by decide) (Int32.not_lt.mpr (hq6 i441 (by omega) (by omega) k524).1) ?_
          refine g_iload F dL_law_549 8 rfl ?_
          refine g_iload F dL_law_551 7 rfl ?_
          refine g_icmp_ge (tgt := 575) F dL_law_553 (by decide) (fun k553 => ?_) (fun k553 => ?_)
          · skip
            refine g_iinc (L' := [(0, .ref bS), (1, .ref x), (2, .ref y), (3, .int (nI t)), (4, .int v4), (7, .long (mDG (f, th, m, car, tur, pre, n, k, kp, kq, ko))), (16, .int (nI b6)), (17, .int (nI q)), (18, .int (nI (i441 + 1))), (19, .int (mAK (CL f i441 car tur) pre 8))]) (v := nI (i441 + 1)) F dL_law_575 8 rfl (nI_1 _) (by decide) [1, 2, 3, 4, 5, 6, 7, 8, 0, 9] rfl ?_
            refine g_goto (tgt := 441) F dL_law_578 (by decide) ?_
            refine g_lv (L' := [(0, .ref bS), (1, .ref x), (2, .ref y), (3, .int (nI t)), (4, .int v4), (7, .long (mDG (f, th, m, car, tur, pre, n, k, kp, kq, ko))), (16, .int (nI b6)), (17, .int (nI q)), (18, .int (nI (i441 + 1)))]) [0, 1, 2, 3, 4, 5, 6, 7, 8] rfl ?_
            exact ih441 (i441 + 1) (by omega) V543 hV543 (by omega)
          · skip
            refine g_aload_n F dL_law_556 rfl 1 rfl ?_
            refine g_iload F dL_law_557 8 rfl ?_
            refine g_iconst (v := 1) F dL_law_559 (by decide) ?_
            refine g_callM (B := ([] ++ sws)) (wm := V543) F dL_law_560 (m_would hV543 i441 1 (by omega) (by omega) (by decide) (by decide) hok) rfl gL_law_X4_would hV543.mem.choose_spec rfl kV_X4_would ⟨by decide, by decide⟩ (by simp only [List.append_assoc]) rfl (by exact Nat.le_of_ble_eq_true rfl) ⟨by show cl + 0 + 0 + 0 + 0 + 0 + 0 ≤ 600130; omega, by show sl + 0 + 0 + 0 + 0 + 0 + 0 ≤ 7301080; omega⟩ (fun ov560 V560 hV560 => ?_)
            obtain ⟨rfl, hV560⟩ := hV560
            refine g_ws (ws' := ([] ++ (sws ++ V560))) (by simp only [List.append_assoc]) ?_
            refine g_topr (y := OF f i441 car tur) (w_1 _ _ _ _) ?_
            refine g_aload_n F dL_law_563 rfl 1 rfl ?_
            refine g_iload F dL_law_564 7 rfl ?_
            refine g_iconst (v := 1) F dL_law_566 (by decide) ?_
            refine g_callM (B := ([] ++ sws)) (wm := V560) F dL_law_567 (m_would hV560 q 1 (by omega) (by omega) (by decide) (by decide) hok) rfl gL_law_X4_would hV560.mem.choose_spec rfl kV_X4_would ⟨by decide, by decide⟩ (by simp only [List.append_assoc]) rfl (by exact Nat.le_of_ble_eq_true rfl) ⟨by show cl + 0 + 0 + 0 + 0 + 0 + 0 + 0 ≤ 600130; omega, by show sl + 0 + 0 + 0 + 0 + 0 + 0 + 0 ≤ 7301080; omega⟩ (fun ov567 V567 hV567 => ?_)
            obtain ⟨rfl, hV567⟩ := hV567
            refine g_ws (ws' := ([] ++ (sws ++ V567))) (by simp only [List.append_assoc]) ?_
            refine g_topr (y := OF f q car tur) (w_1 _ _ _ _) ?_
            refine g_icmp_ne_t (tgt := 575) F dL_law_570 (by decide) ((hq6 i441 (by omega) (by omega) k524).2 (by rcases Nat.lt_or_ge i441 q with z | z; exact z; exact absurd (le_nI z (by omega)) k553)) ?_
            refine g_iinc (L' := [(0, .ref bS), (1, .ref x), (2, .ref y), (3, .int (nI t)), (4, .int v4), (7, .long (mDG (f, th, m, car, tur, pre, n, k, kp, kq, ko))), (16, .int (nI b6)), (17, .int (nI q)), (18, .int (nI (i441 + 1))), (19, .int (mAK (CL f i441 car tur) pre 8))]) (v := nI (i441 + 1)) F dL_law_575 8 rfl (nI_1 _) (by decide) [1, 2, 3, 4, 5, 6, 7, 8, 0, 9] rfl ?_
            refine g_goto (tgt := 441) F dL_law_578 (by decide) ?_
            refine g_lv (L' := [(0, .ref bS), (1, .ref x), (2, .ref y), (3, .int (nI t)), (4, .int v4), (7, .long (mDG (f, th, m, car, tur, pre, n, k, kp, kq, ko))), (16, .int (nI b6)), (17, .int (nI q)), (18, .int (nI (i441 + 1)))]) [0, 1, 2, 3, 4, 5, 6, 7, 8] rfl ?_
            exact ih441 (i441 + 1) (by omega) V567 hV567 (by omega)
      · skip
        have h3 : 2 < i441 := by rcases Nat.lt_or_ge 2 i441 with z | z; exact z; exact absurd (le_nI (i := 2) z (by omega)) k496
        refine g_aload_n F dL_law_499 rfl 1 rfl ?_
        refine g_iload F dL_law_500 8 rfl ?_
        refine g_iconst (v := 0) F dL_law_502 (by decide) ?_
        refine g_callM (B := ([] ++ sws)) (wm := V485) F dL_law_503 (m_would hV485 i441 0 (by omega) (by omega) (by decide) (by decide) hok) rfl gL_law_X4_would hV485.mem.choose_spec rfl kV_X4_would ⟨by decide, by decide⟩ (by simp only [List.append_assoc]) rfl (by exact Nat.le_of_ble_eq_true rfl) ⟨by show cl + 0 + 0 + 0 + 0 ≤ 600130; omega, by show sl + 0 + 0 + 0 + 0 ≤ 7301080; omega⟩ (fun ov503 V503 hV503 => ?_)
        obtain ⟨rfl, hV503⟩ := hV503
        refine g_ws (ws' := ([] ++ (sws ++ V503))) (by simp only [List.append_assoc]) ?_
        refine g_topr (y := nI (PQ f i441)) (w_0 _ _ _ _) ?_
        refine g_aload_n F dL_law_506 rfl 1 rfl ?_
        refine g_iload F dL_law_507 8 rfl ?_
        refine g_iconst (v := 1) F dL_law_509 (by decide) ?_
        refine g_isub F dL_law_510 ?_
        refine g_topr (y := nI (i441 - 1)) (pk_sub (b := 1) (by omega)) ?_
        refine g_iconst (v := 0) F dL_law_511 (by decide) ?_
        refine g_callM (B := ([] ++ sws)) (wm := V503) F dL_law_512 (m_would hV503 (i441 - 1) 0 (by omega) (by omega) (by decide) (by decide) hok) rfl gL_law_X4_would hV503.mem.choose_spec rfl kV_X4_would ⟨by decide, by decide⟩ (by simp only [List.append_assoc]) rfl (by exact Nat.le_of_ble_eq_true rfl) ⟨by show cl + 0 + 0 + 0 + 0 + 0 ≤ 600130; omega, by show sl + 0 + 0 + 0 + 0 + 0 ≤ 7301080; omega⟩ (fun ov512 V512 hV512 => ?_)
        obtain ⟨rfl, hV512⟩ := hV512
        refine g_ws (ws' := ([] ++ (sws ++ V512))) (by simp only [List.append_assoc]) ?_
        refine g_topr (y := nI (PQ f (i441 - 1))) (w_0 _ _ _ _) ?_
        refine g_icmp_ge_t (tgt := 520) F dL_law_515 (by decide) (by have h := PQ_mono f (m := i441 - 1) (by have := mt (le_nI (n := i441) (i := 2)) ; omega); rw [show i441 - 1 + 1 = i441 by omega] at h; exact le_nI h (by have := PQ_m f (m := i441) (by omega); omega)) ?_
        refine g_iload F dL_law_520 9 rfl ?_
        refine g_iload F dL_law_522 6 rfl ?_
        refine g_icmp_gt (tgt := 575) F dL_law_524 (by decide) (fun k524 => ?_) (fun k524 => ?_)
        · skip
          refine g_iinc (L' := [(0, .ref bS), (1, .ref x), (2, .ref y), (3, .int (nI t)), (4, .int v4), (7, .long (mDG (f, th, m, car, tur, pre, n, k, kp, kq, ko))), (16, .int (nI b6)), (17, .int (nI q)), (18, .int (nI (i441 + 1))), (19, .int (mAK (CL f i441 car tur) pre 8))]) (v := nI (i441 + 1)) F dL_law_575 8 rfl (nI_1 _) (by decide) [1, 2, 3, 4, 5, 6, 7, 8, 0, 9] rfl ?_
          refine g_goto (tgt := 441) F dL_law_578 (by decide) ?_
          refine g_lv (L' := [(0, .ref bS), (1, .ref x), (2, .ref y), (3, .int (nI t)), (4, .int v4), (7, .long (mDG (f, th, m, car, tur, pre, n, k, kp, kq, ko))), (16, .int (nI b6)), (17, .int (nI q)), (18, .int (nI (i441 + 1)))]) [0, 1, 2, 3, 4, 5, 6, 7, 8] rfl ?_
          exact ih441 (i441 + 1) (by omega) V512 hV512 (by omega)
        · skip
          refine g_iload F dL_law_527 7 rfl ?_
          refine g_if_lt_f (tgt := 573) F dL_law_529 (by decide) (nI_pos (by omega)) ?_
          refine g_aload_n F dL_law_532 rfl 1 rfl ?_
          refine g_iload F dL_law_533 8 rfl ?_
          refine g_iconst (v := 1) F dL_law_535 (by decide) ?_
          refine g_callM (B := ([] ++ sws)) (wm := V512) F dL_law_536 (m_would hV512 i441 1 (by omega) (by omega) (by decide) (by decide) hok) rfl gL_law_X4_would hV512.mem.choose_spec rfl kV_X4_would ⟨by decide, by decide⟩ (by simp only [List.append_assoc]) rfl (by exact Nat.le_of_ble_eq_true rfl) ⟨by show cl + 0 + 0 + 0 + 0 + 0 + 0 ≤ 600130; omega, by show sl + 0 + 0 + 0 + 0 + 0 + 0 ≤ 7301080; omega⟩ (fun ov536 V536 hV536 => ?_)
          obtain ⟨rfl, hV536⟩ := hV536
          refine g_ws (ws' := ([] ++ (sws ++ V536))) (by simp only [List.append_assoc]) ?_
          refine g_topr (y := OF f i441 car tur) (w_1 _ _ _ _) ?_
          refine g_aload_n F dL_law_539 rfl 1 rfl ?_
          refine g_iload F dL_law_540 7 rfl ?_
          refine g_iconst (v := 1) F dL_law_542 (by decide) ?_
          refine g_callM (B := ([] ++ sws)) (wm := V536) F dL_law_543 (m_would hV536 q 1 (by omega) (by omega) (by decide) (by decide) hok) rfl gL_law_X4_would hV536.mem.choose_spec rfl kV_X4_would ⟨by decide, by decide⟩ (by simp only [List.append_assoc]) rfl (by exact Nat.le_of_ble_eq_true rfl) ⟨by show cl + 0 + 0 + 0 + 0 + 0 + 0 + 0 ≤ 600130; omega, by show sl + 0 + 0 + 0 + 0 + 0 + 0 + 0 ≤ 7301080; omega⟩ (fun ov543 V543 hV543 => ?_)
          obtain ⟨rfl, hV543⟩ := hV543
          refine g_ws (ws' := ([] ++ (sws ++ V543))) (by simp only [List.append_assoc]) ?_
          refine g_topr (y := OF f q car tur) (w_1 _ _ _ _) ?_
          refine g_icmp_lt_f (tgt := 573) F dL_law_546 (by decide) (Int32.not_lt.mpr (hq6 i441 (by omega) (by omega) k524).1) ?_
          refine g_iload F dL_law_549 8 rfl ?_
          refine g_iload F dL_law_551 7 rfl ?_
          refine g_icmp_ge (tgt := 575) F dL_law_553 (by decide) (fun k553 => ?_) (fun k553 => ?_)
          · skip
            refine g_iinc (L' := [(0, .ref bS), (1, .ref x), (2, .ref y), (3, .int (nI t)), (4, .int v4), (7, .long (mDG (f, th, m, car, tur, pre, n, k, kp, kq, ko))), (16, .int (nI b6)), (17, .int (nI q)), (18, .int (nI (i441 + 1))), (19, .int (mAK (CL f i441 car tur) pre 8))]) (v := nI (i441 + 1)) F dL_law_575 8 rfl (nI_1 _) (by decide) [1, 2, 3, 4, 5, 6, 7, 8, 0, 9] rfl ?_
            refine g_goto (tgt := 441) F dL_law_578 (by decide) ?_
            refine g_lv (L' := [(0, .ref bS), (1, .ref x), (2, .ref y), (3, .int (nI t)), (4, .int v4), (7, .long (mDG (f, th, m, car, tur, pre, n, k, kp, kq, ko))), (16, .int (nI b6)), (17, .int (nI q)), (18, .int (nI (i441 + 1)))]) [0, 1, 2, 3, 4, 5, 6, 7, 8] rfl ?_
            exact ih441 (i441 + 1) (by omega) V543 hV543 (by omega)
          · skip
            refine g_aload_n F dL_law_556 rfl 1 rfl ?_
            refine g_iload F dL_law_557 8 rfl ?_
            refine g_iconst (v := 1) F dL_law_559 (by decide) ?_
            refine g_callM (B := ([] ++ sws)) (wm := V543) F dL_law_560 (m_would hV543 i441 1 (by omega) (by omega) (by decide) (by decide) hok) rfl gL_law_X4_would hV543.mem.choose_spec rfl kV_X4_would ⟨by decide, by decide⟩ (by simp only [List.append_assoc]) rfl (by exact Nat.le_of_ble_eq_true rfl) ⟨by show cl + 0 + 0 + 0 + 0 + 0 + 0 + 0 + 0 ≤ 600130; omega, by show sl + 0 + 0 + 0 + 0 + 0 + 0 + 0 + 0 ≤ 7301080; omega⟩ (fun ov560 V560 hV560 => ?_)
            obtain ⟨rfl, hV560⟩ := hV560
            refine g_ws (ws' := ([] ++ (sws ++ V560))) (by simp only [List.append_assoc]) ?_
            refine g_topr (y := OF f i441 car tur) (w_1 _ _ _ _) ?_
            refine g_aload_n F dL_law_563 rfl 1 rfl ?_
            refine g_iload F dL_law_564 7 rfl ?_
            refine g_iconst (v := 1) F dL_law_566 (by decide) ?_
            refine g_callM (B := ([] ++ sws)) (wm := V560) F dL_law_567 (m_would hV560 q 1 (by omega) (by omega) (by decide) (by decide) hok) rfl gL_law_X4_would hV560.mem.choose_spec rfl kV_X4_would ⟨by decide, by decide⟩ (by simp only [List.append_assoc]) rfl (by exact Nat.le_of_ble_eq_true rfl) ⟨by show cl + 0 + 0 + 0 + 0 + 0 + 0 + 0 + 0 + 0 ≤ 600130; omega, by show sl + 0 + 0 + 0 + 0 + 0 + 0 + 0 + 0 + 0 ≤ 7301080; omega⟩ (fun ov567 V567 hV567 => ?_)
            obtain ⟨rfl, hV567⟩ := hV567
            refine g_ws (ws' := ([] ++ (sws ++ V567))) (by simp only [List.append_assoc]) ?_
            refine g_topr (y := OF f q car tur) (w_1 _ _ _ _) ?_
            refine g_icmp_ne_t (tgt := 575) F dL_law_570 (by decide) ((hq6 i441 (by omega) (by omega) k524).2 (by rcases Nat.lt_or_ge i441 q with z | z; exact z; exact absurd (le_nI z (by omega)) k553)) ?_
            refine g_iinc (L' := [(0, .ref bS), (1, .ref x), (2, .ref y), (3, .int (nI t)), (4, .int v4), (7, .long (mDG (f, th, m, car, tur, pre, n, k, kp, kq, ko))), (16, .int (nI b6)), (17, .int (nI q)), (18, .int (nI (i441 + 1))), (19, .int (mAK (CL f i441 car tur) pre 8))]) (v := nI (i441 + 1)) F dL_law_575 8 rfl (nI_1 _) (by decide) [1, 2, 3, 4, 5, 6, 7, 8, 0, 9] rfl ?_
            refine g_goto (tgt := 441) F dL_law_578 (by decide) ?_
            refine g_lv (L' := [(0, .ref bS), (1, .ref x), (2, .ref y), (3, .int (nI t)), (4, .int v4), (7, .long (mDG (f, th, m, car, tur, pre, n, k, kp, kq, ko))), (16, .int (nI b6)), (17, .int (nI q)), (18, .int (nI (i441 + 1)))]) [0, 1, 2, 3, 4, 5, 6, 7, 8] rfl ?_
            exact ih441 (i441 + 1) (by omega) V567 hV567 (by omega)
  exact lp441 (7 - 2) 2 (by omega) wm hm (by omega)
set_option maxHeartbeats 4000000 in
set_option maxRecDepth 100000 in
theorem law_438n {E : gE} {X : gX} {bS nS x y : Nat} {xs : Nat → Int32} {f th : AF} {m : Nat} {car tur pre : Int32} {n : Nat} {k kp : AF} {kq : Nat} {ko : Int32} {sws wm : va_W} {N t cl sl : Nat} {v4 : Int32} (F : gF E X cL_law RL wsL_law (some .boolean) room_1 22) (hm : MWP E x (f, th, m, car, tur, pre, n, k, kp, kq, ko) wm) (hok : OkS N (f, th, m, car, tur, pre, n, k, kp, kq, ko)) (hN : N < 1000) (hcl : cl ≤ 600000) (hsl : sl ≤ 7000000) {b6 : Nat} (hb6 : b6 < 97) (hno : ∀ j, 2 ≤ j → j < 7 → nI b6 < mAK (CL f j car tur) pre 8) (kont : ∀ w, MWP E x (f, th, m, car, tur, pre, n, k, kp, kq, ko) w → G E X cl sl 776 [(0, .ref bS), (1, .ref x), (2, .ref y), (3, .int (nI t))] [] ([] ++ (sws ++ w))) : G E X cl sl 438 [(0, .ref bS), (1, .ref x), (2, .ref y), (3, .int (nI t)), (4, .int v4), (7, .long (mDG (f, th, m, car, tur, pre, n, k, kp, kq, ko))), (16, .int (nI b6)), (17, .int (-1))] [] ([] ++ (sws ++ wm)) := by
  have hn : n < 2147483648 := by have := hok.2.2.2.2.2.2.1; omega
  have hm1 : 1 ≤ m := by have := hok.2.2.1.1; omega
  have hm2 : 2 ≤ m := hok.2.2.1.1
  have hm6 : m ≤ 6 := hok.2.2.1.2
  have hp6 : PQ f m ≤ 6 := Nat.le_trans (PQ_m f hm1) hm6
  have hpm : PQ f m ≤ m := PQ_m f hm1
  have hp1 : 1 ≤ PQ f m := PQ_1 f m
  refine g_iconst (v := 2) F dL_law_438 (by decide) ?_
  refine g_istore (L' := [(0, .ref bS), (1, .ref x), (2, .ref y), (3, .int (nI t)), (4, .int v4), (7, .long (mDG (f, th, m, car, tur, pre, n, k, kp, kq, ko))), (16, .int (nI b6)), (17, .int (-1)), (18, .int 2)]) F dL_law_439 (by decide) [1, 2, 3, 4, 5, 6, 7, 8, 0] rfl ?_
  have lp441 : ∀ (n441 i441 : Nat), i441 + n441 = 7 → ∀ (w441 : va_W), (MWP E x (f, th, m, car, tur, pre, n, k, kp, kq, ko) w441) → (2 ≤ i441) → G E X cl sl 441 [(0, .ref bS), (1, .ref x), (2, .ref y), (3, .int (nI t)), (4, .int v4), (7, .long (mDG (f, th, m, car, tur, pre, n, k, kp, kq, ko))), (16, .int (nI b6)), (17, .int (-1)), (18, .int (nI i441))] [] ([] ++ (sws ++ w441)) := by
    intro n441
    induction n441 with
    | zero =>
      intro i441 hi441 w441  hm441 hlo441
      have he441 : i441 = 7 := by omega
      rw [he441]
      refine g_iload F dL_law_441 8 rfl ?_
      refine g_bipush (v := 7) F dL_law_443 (by decide) ?_
      refine g_icmp_ge_t (tgt := 581) F dL_law_445 (by decide) (by decide) ?_
      refine g_iload F dL_law_581 7 rfl ?_
      refine g_if_lt_t (tgt := 598) F dL_law_583 (by decide) (by decide) ?_
      refine g_iload F dL_law_598 7 rfl ?_
      refine g_iconst (v := (-1)) F dL_law_600 (by decide) ?_
      refine g_icmp_lt_f (tgt := 622) F dL_law_601 (by decide) (by decide) ?_
      refine g_iload F dL_law_604 7 rfl ?_
      refine g_if_eq_f (tgt := 622) F dL_law_606 (by decide) (by decide) ?_
      refine g_iload F dL_law_609 7 rfl ?_
      refine g_iconst (v := 1) F dL_law_611 (by decide) ?_
      refine g_icmp_eq_f (tgt := 622) F dL_law_612 (by decide) (by decide) ?_
      refine g_iload F dL_law_615 7 rfl ?_
      refine g_bipush (v := 6) F dL_law_617 (by decide) ?_
      refine g_icmp_le_t (tgt := 624) F dL_law_619 (by decide) (by decide) ?_
      refine g_lv (L' := [(0, .ref bS), (1, .ref x), (2, .ref y), (3, .int (nI t)), (4, .int v4), (7, .long (mDG (f, th, m, car, tur, pre, n, k, kp, kq, ko)))]) [0, 1, 2, 3, 4, 5] rfl ?_
      refine g_cs (cells' := cl) (slots' := sl) (by show cl ≤ cl; omega) (by show sl ≤ sl; omega) ?_
      exact law_624 (nS := nS) (xs := xs) F hm441 hok hN hcl hsl kont
    | succ n441 ih441 =>
      intro i441 hi441 w441  hm441 hlo441
      have hl441 : i441 < 7 := by omega
      refine g_iload F dL_law_441 8 rfl ?_
      refine g_bipush (v := 7) F dL_law_443 (by decide) ?_
      refine g_icmp_ge_f (tgt := 581) F dL_law_445 (by decide) (nle_nI (n := 7) hl441 (by omega)) ?_
      refine g_aload_n F dL_law_448 rfl 1 rfl ?_
      refine g_iload F dL_law_449 8 rfl ?_
      refine g_iconst (v := 2) F dL_law_451 (by decide) ?_
      refine g_callM (B := ([] ++ sws)) (wm := w441) F dL_law_452 (m_would hm441 i441 2 (by omega) (by omega) (by decide) (by decide) hok) rfl gL_law_X4_would hm441.mem.choose_spec rfl kV_X4_would ⟨by decide, by decide⟩ (by simp only [List.append_assoc]) rfl (by exact Nat.le_of_ble_eq_true rfl) ⟨by show cl + 0 ≤ 600130; omega, by show sl + 0 ≤ 7301080; omega⟩ (fun ov452 V452 hV452 => ?_)
      obtain ⟨rfl, hV452⟩ := hV452
      refine g_ws (ws' := ([] ++ (sws ++ V452))) (by simp only [List.append_assoc]) ?_
      refine g_topr (y := mAK (CL f i441 car tur) pre 8) (w_2 _ _ _ _) ?_
      refine g_istore (L' := [(0, .ref bS), (1, .ref x), (2, .ref y), (3, .int (nI t)), (4, .int v4), (7, .long (mDG (f, th, m, car, tur, pre, n, k, kp, kq, ko))), (16, .int (nI b6)), (17, .int (-1)), (18, .int (nI i441)), (19, .int (mAK (CL f i441 car tur) pre 8))]) F dL_law_455 (by decide) [1, 2, 3, 4, 5, 6, 7, 8, 9, 0] rfl ?_
      refine g_iload F dL_law_457 9 rfl ?_
      refine g_bipush (v := 8) F dL_law_459 (by decide) ?_
      refine g_icmp_lt_f (tgt := 518) F dL_law_461 (by decide) (ak_lo _ _) ?_
      refine g_iload F dL_law_464 9 rfl ?_
      refine g_bipush (v := 96) F dL_law_466 (by decide) ?_
      refine g_icmp_gt_f (tgt := 518) F dL_law_468 (by decide) (ak_hi _ _) ?_
      refine g_aload_n F dL_law_471 rfl 1 rfl ?_
      refine g_iload F dL_law_472 8 rfl ?_
      refine g_iconst (v := 1) F dL_law_474 (by decide) ?_
      refine g_callM (B := ([] ++ sws)) (wm := V452) F dL_law_475 (m_would hV452 i441 1 (by omega) (by omega) (by decide) (by decide) hok) rfl gL_law_X4_would hV452.mem.choose_spec rfl kV_X4_would ⟨by decide, by decide⟩ (by simp only [List.append_assoc]) rfl (by exact Nat.le_of_ble_eq_true rfl) ⟨by show cl + 0 + 0 ≤ 600130; omega, by show sl + 0 + 0 ≤ 7301080; omega⟩ (fun ov475 V475 hV475 => ?_)
      obtain ⟨rfl, hV475⟩ := hV475
      refine g_ws (ws' := ([] ++ (sws ++ V475))) (by simp only [List.append_assoc]) ?_
      refine g_topr (y := OF f i441 car tur) (w_1 _ _ _ _) ?_
      refine g_if_lt_f (tgt := 518) F dL_law_478 (by decide) (of_lo hok.1 (by omega) (by omega) _ _) ?_
      refine g_aload_n F dL_law_481 rfl 1 rfl ?_
      refine g_iload F dL_law_482 8 rfl ?_
      refine g_iconst (v := 0) F dL_law_484 (by decide) ?_
      refine g_callM (B := ([] ++ sws)) (wm := V475) F dL_law_485 (m_would hV475 i441 0 (by omega) (by omega) (by decide) (by decide) hok) rfl gL_law_X4_would hV475.mem.choose_spec rfl kV_X4_would ⟨by decide, by decide⟩ (by simp only [List.append_assoc]) rfl (by exact Nat.le_of_ble_eq_true rfl) ⟨by show cl + 0 + 0 + 0 ≤ 600130; omega, by show sl + 0 + 0 + 0 ≤ 7301080; omega⟩ (fun ov485 V485 hV485 => ?_)
      obtain ⟨rfl, hV485⟩ := hV485
      refine g_ws (ws' := ([] ++ (sws ++ V485))) (by simp only [List.append_assoc]) ?_
      refine g_topr (y := nI (PQ f i441)) (w_0 _ _ _ _) ?_
      refine g_iload F dL_law_488 8 rfl ?_
      refine g_icmp_gt_f (tgt := 518) F dL_law_490 (by decide) (nI_nlt (PQ_m f (by omega)) (by omega)) ?_
      refine g_iload F dL_law_493 8 rfl ?_
      refine g_iconst (v := 2) F dL_law_495 (by decide) ?_
      refine g_icmp_le (tgt := 520) F dL_law_496 (by decide) (fun k496 => ?_) (fun k496 => ?_)
      · skip
        refine g_iload F dL_law_520 9 rfl ?_
        refine g_iload F dL_law_522 6 rfl ?_
        refine g_icmp_gt (tgt := 575) F dL_law_524 (by decide) (fun k524 => ?_) (fun k524 => ?_)
        · skip
          refine g_iinc (L' := [(0, .ref bS), (1, .ref x), (2, .ref y), (3, .int (nI t)), (4, .int v4), (7, .long (mDG (f, th, m, car, tur, pre, n, k, kp, kq, ko))), (16, .int (nI b6)), (17, .int (-1)), (18, .int (nI (i441 + 1))), (19, .int (mAK (CL f i441 car tur) pre 8))]) (v := nI (i441 + 1)) F dL_law_575 8 rfl (nI_1 _) (by decide) [1, 2, 3, 4, 5, 6, 7, 8, 0, 9] rfl ?_
          refine g_goto (tgt := 441) F dL_law_578 (by decide) ?_
          refine g_lv (L' := [(0, .ref bS), (1, .ref x), (2, .ref y), (3, .int (nI t)), (4, .int v4), (7, .long (mDG (f, th, m, car, tur, pre, n, k, kp, kq, ko))), (16, .int (nI b6)), (17, .int (-1)), (18, .int (nI (i441 + 1)))]) [0, 1, 2, 3, 4, 5, 6, 7, 8] rfl ?_
          exact ih441 (i441 + 1) (by omega) V485 hV485 (by omega)
        · skip
          exact absurd (hno i441 (by omega) (by omega)) k524
      · skip
        have h3 : 2 < i441 := by rcases Nat.lt_or_ge 2 i441 with z | z; exact z; exact absurd (le_nI (i := 2) z (by omega)) k496
        refine g_aload_n F dL_law_499 rfl 1 rfl ?_
        refine g_iload F dL_law_500 8 rfl ?_
        refine g_iconst (v := 0) F dL_law_502 (by decide) ?_
        refine g_callM (B := ([] ++ sws)) (wm := V485) F dL_law_503 (m_would hV485 i441 0 (by omega) (by omega) (by decide) (by decide) hok) rfl gL_law_X4_would hV485.mem.choose_spec rfl kV_X4_would ⟨by decide, by decide⟩ (by simp only [List.append_assoc]) rfl (by exact Nat.le_of_ble_eq_true rfl) ⟨by show cl + 0 + 0 + 0 + 0 ≤ 600130; omega, by show sl + 0 + 0 + 0 + 0 ≤ 7301080; omega⟩ (fun ov503 V503 hV503 => ?_)
        obtain ⟨rfl, hV503⟩ := hV503
        refine g_ws (ws' := ([] ++ (sws ++ V503))) (by simp only [List.append_assoc]) ?_
        refine g_topr (y := nI (PQ f i441)) (w_0 _ _ _ _) ?_
        refine g_aload_n F dL_law_506 rfl 1 rfl ?_
        refine g_iload F dL_law_507 8 rfl ?_
        refine g_iconst (v := 1) F dL_law_509 (by decide) ?_
        refine g_isub F dL_law_510 ?_
        refine g_topr (y := nI (i441 - 1)) (pk_sub (b := 1) (by omega)) ?_
        refine g_iconst (v := 0) F dL_law_511 (by decide) ?_
        refine g_callM (B := ([] ++ sws)) (wm := V503) F dL_law_512 (m_would hV503 (i441 - 1) 0 (by omega) (by omega) (by decide) (by decide) hok) rfl gL_law_X4_would hV503.mem.choose_spec rfl kV_X4_would ⟨by decide, by decide⟩ (by simp only [List.append_assoc]) rfl (by exact Nat.le_of_ble_eq_true rfl) ⟨by show cl + 0 + 0 + 0 + 0 + 0 ≤ 600130; omega, by show sl + 0 + 0 + 0 + 0 + 0 ≤ 7301080; omega⟩ (fun ov512 V512 hV512 => ?_)
        obtain ⟨rfl, hV512⟩ := hV512
        refine g_ws (ws' := ([] ++ (sws ++ V512))) (by simp only [List.append_assoc]) ?_
        refine g_topr (y := nI (PQ f (i441 - 1))) (w_0 _ _ _ _) ?_
        refine g_icmp_ge_t (tgt := 520) F dL_law_515 (by decide) (by have h := PQ_mono f (m := i441 - 1) (by have := mt (le_nI (n := i441) (i := 2)) ; omega); rw [show i441 - 1 + 1 = i441 by omega] at h; exact le_nI h (by have := PQ_m f (m := i441) (by omega); omega)) ?_
        refine g_iload F dL_law_520 9 rfl ?_
        refine g_iload F dL_law_522 6 rfl ?_
        refine g_icmp_gt (tgt := 575) F dL_law_524 (by decide) (fun k524 => ?_) (fun k524 => ?_)
        · skip
          refine g_iinc (L' := [(0, .ref bS), (1, .ref x), (2, .ref y), (3, .int (nI t)), (4, .int v4), (7, .long (mDG (f, th, m, car, tur, pre, n, k, kp, kq, ko))), (16, .int (nI b6)), (17, .int (-1)), (18, .int (nI (i441 + 1))), (19, .int (mAK (CL f i441 car tur) pre 8))]) (v := nI (i441 + 1)) F dL_law_575 8 rfl (nI_1 _) (by decide) [1, 2, 3, 4, 5, 6, 7, 8, 0, 9] rfl ?_
          refine g_goto (tgt := 441) F dL_law_578 (by decide) ?_
          refine g_lv (L' := [(0, .ref bS), (1, .ref x), (2, .ref y), (3, .int (nI t)), (4, .int v4), (7, .long (mDG (f, th, m, car, tur, pre, n, k, kp, kq, ko))), (16, .int (nI b6)), (17, .int (-1)), (18, .int (nI (i441 + 1)))]) [0, 1, 2, 3, 4, 5, 6, 7, 8] rfl ?_
          exact ih441 (i441 + 1) (by omega) V512 hV512 (by omega)
        · skip
          exact absurd (hno i441 (by omega) (by omega)) k524
  exact lp441 (7 - 2) 2 (by omega) wm hm (by omega)
set_option maxHeartbeats 4000000 in
set_option maxRecDepth 100000 in
theorem law_402 {E : gE} {X : gX} {bS nS x y : Nat} {xs : Nat → Int32} {f th : AF} {m : Nat} {car tur pre : Int32} {n : Nat} {k kp : AF} {kq : Nat} {ko : Int32} {sws wm : va_W} {N t cl sl : Nat} {v4 : Int32} (F : gF E X cL_law RL wsL_law (some .boolean) room_1 22) (hm : MWP E x (f, th, m, car, tur, pre, n, k, kp, kq, ko) wm) (hok : OkS N (f, th, m, car, tur, pre, n, k, kp, kq, ko)) (hN : N < 1000) (hcl : cl ≤ 600000) (hsl : sl ≤ 7000000) (kont : ∀ w, MWP E x (f, th, m, car, tur, pre, n, k, kp, kq, ko) w → G E X cl sl 776 [(0, .ref bS), (1, .ref x), (2, .ref y), (3, .int (nI t))] [] ([] ++ (sws ++ w))) : G E X cl sl 402 [(0, .ref bS), (1, .ref x), (2, .ref y), (3, .int (nI t)), (4, .int v4), (7, .long (mDG (f, th, m, car, tur, pre, n, k, kp, kq, ko))), (11, .int (mSumF f 96))] [] ([] ++ (sws ++ wm)) := by
  have hn : n < 2147483648 := by have := hok.2.2.2.2.2.2.1; omega
  have hm1 : 1 ≤ m := by have := hok.2.2.1.1; omega
  have hm2 : 2 ≤ m := hok.2.2.1.1
  have hm6 : m ≤ 6 := hok.2.2.1.2
  have hp6 : PQ f m ≤ 6 := Nat.le_trans (PQ_m f hm1) hm6
  have hpm : PQ f m ≤ m := PQ_m f hm1
  have hp1 : 1 ≤ PQ f m := PQ_1 f m
  refine g_aload_n F dL_law_402 rfl 1 rfl ?_
  refine g_callM (B := ([] ++ sws)) (wm := wm) F dL_law_403 (m_mean hm) rfl gL_law_X4_mean hm.mem.choose_spec rfl kV_X4_mean ⟨by decide, by decide⟩ (by simp only [List.append_assoc]) rfl (by exact Nat.le_of_ble_eq_true rfl) ⟨by show cl + 0 ≤ 600130; omega, by show sl + 0 ≤ 7301080; omega⟩ (fun ov403 V403 hV403 => ?_)
  obtain ⟨rfl, hV403⟩ := hV403
  refine g_ws (ws' := ([] ++ (sws ++ V403))) (by simp only [List.append_assoc]) ?_
  refine g_iload F dL_law_406 6 rfl ?_
  refine g_i2d F dL_law_408 ?_
  refine g_ldc2d (v := 4636455816377925632) F dL_law_409 (inL_i (i := 11) rfl) ?_
  refine g_ddiv F dL_law_412 (sMean_n _) ?_
  refine g_dcmp F dL_law_413 ?_
  refine g_if_eq_t (tgt := 419) F dL_law_414 (by decide) (mean_self _) ?_
  refine g_iload F dL_law_419 4 rfl ?_
  refine g_iconst (v := 4) F dL_law_421 (by decide) ?_
  refine g_ishr F dL_law_422 ?_
  refine g_bipush (v := 97) F dL_law_423 (by decide) ?_
  refine g_callSA (R := ([] ++ (sws ++ V403))) F dL_law_425 (c_L_below E (v4 >>> (4 &&& 31)) 97 (by first | assumption | decide | omega) (by first | assumption | decide | omega)) rfl gL_law_L_below kS_L_below ⟨by decide, by decide⟩ (ps3 (List.Perm.nil)) rfl (Nat.le_of_ble_eq_true rfl) ⟨by show cl + 0 + 0 ≤ 600130; omega, by show sl + 0 + 0 ≤ 7301080; omega⟩ (fun a425 => ?_)
  refine g_ws (ws' := ([] ++ (sws ++ V403))) rfl ?_
  obtain ⟨b6, hb6, eb6⟩ : ∃ b, b < 97 ∧ nI (zBl (v4 >>> (4 &&& 31)) 97) = nI b := zBl_ex _ (by decide)
  refine g_topr eb6 ?_
  refine g_istore (L' := [(0, .ref bS), (1, .ref x), (2, .ref y), (3, .int (nI t)), (4, .int v4), (7, .long (mDG (f, th, m, car, tur, pre, n, k, kp, kq, ko))), (11, .int (mSumF f 96)), (16, .int (nI b6))]) F dL_law_428 (by decide) [1, 2, 3, 4, 5, 6, 7, 0] rfl ?_
  refine g_aload_n F dL_law_430 rfl 1 rfl ?_
  refine g_iload F dL_law_431 7 rfl ?_
  refine g_callM (B := ([] ++ sws)) (wm := V403) F dL_law_433 (m_advise hV403 (nI b6) (nI_pos (by omega)) (le_nI (i := 96) (by omega) (by omega)) hok) rfl gL_law_X4_advise hV403.mem.choose_spec rfl kV_X4_advise ⟨by decide, by decide⟩ (by simp only [List.append_assoc]) rfl (by exact Nat.le_of_ble_eq_true rfl) ⟨by show cl + 0 + 0 + 0 ≤ 600130; omega, by show sl + 0 + 0 + 0 ≤ 7301080; omega⟩ (fun ov433 V433 hV433 => ?_)
  obtain ⟨rfl, hV433⟩ := hV433
  refine g_ws (ws' := ([] ++ (sws ++ V433))) (by simp only [List.append_assoc]) ?_
  rcases adv_I hok.1 hok.2.2.2.1 tur pre (nI b6) 5 (Nat.le_refl _) with ⟨hno, e5⟩ | ⟨q, hq1, hq2, e5, -, hq5, hq6⟩
  · skip
    refine g_topr (y := (-1)) e5 ?_
    refine g_istore (L' := [(0, .ref bS), (1, .ref x), (2, .ref y), (3, .int (nI t)), (4, .int v4), (7, .long (mDG (f, th, m, car, tur, pre, n, k, kp, kq, ko))), (11, .int (mSumF f 96)), (16, .int (nI b6)), (17, .int (-1))]) F dL_law_436 (by decide) [1, 2, 3, 4, 5, 6, 7, 8, 0] rfl ?_
    refine g_lv (L' := [(0, .ref bS), (1, .ref x), (2, .ref y), (3, .int (nI t)), (4, .int v4), (7, .long (mDG (f, th, m, car, tur, pre, n, k, kp, kq, ko))), (16, .int (nI b6)), (17, .int (-1))]) [0, 1, 2, 3, 4, 5, 7, 8] rfl ?_
    refine g_cs (cells' := cl) (slots' := sl) (by show cl + 0 + 0 + 0 ≤ cl; omega) (by show sl + 0 + 0 + 0 ≤ sl; omega) ?_
    exact law_438n (nS := nS) (xs := xs) F hV433 hok hN hcl hsl hb6 hno kont
  · skip
    refine g_topr (y := nI q) e5 ?_
    refine g_istore (L' := [(0, .ref bS), (1, .ref x), (2, .ref y), (3, .int (nI t)), (4, .int v4), (7, .long (mDG (f, th, m, car, tur, pre, n, k, kp, kq, ko))), (11, .int (mSumF f 96)), (16, .int (nI b6)), (17, .int (nI q))]) F dL_law_436 (by decide) [1, 2, 3, 4, 5, 6, 7, 8, 0] rfl ?_
    refine g_lv (L' := [(0, .ref bS), (1, .ref x), (2, .ref y), (3, .int (nI t)), (4, .int v4), (7, .long (mDG (f, th, m, car, tur, pre, n, k, kp, kq, ko))), (16, .int (nI b6)), (17, .int (nI q))]) [0, 1, 2, 3, 4, 5, 7, 8] rfl ?_
    refine g_cs (cells' := cl) (slots' := sl) (by show cl + 0 + 0 + 0 ≤ cl; omega) (by show sl + 0 + 0 + 0 ≤ sl; omega) ?_
    exact law_438q (nS := nS) (xs := xs) F hV433 hok hN hcl hsl hb6 hq1 hq2 hq5 hq6 kont
set_option maxHeartbeats 4000000 in
set_option maxRecDepth 100000 in
theorem law_246 {E : gE} {X : gX} {bS nS x y : Nat} {xs : Nat → Int32} {f th : AF} {m : Nat} {car tur pre : Int32} {n : Nat} {k kp : AF} {kq : Nat} {ko : Int32} {sws wm : va_W} {N t cl sl : Nat} {v4 : Int32} (F : gF E X cL_law RL wsL_law (some .boolean) room_1 22) (hm : MWP E x (f, th, m, car, tur, pre, n, k, kp, kq, ko) wm) (hok : OkS N (f, th, m, car, tur, pre, n, k, kp, kq, ko)) (hN : N < 1000) (hcl : cl ≤ 600000) (hsl : sl ≤ 7000000) (kont : ∀ w, MWP E x (f, th, m, car, tur, pre, n, k, kp, kq, ko) w → G E X cl sl 776 [(0, .ref bS), (1, .ref x), (2, .ref y), (3, .int (nI t))] [] ([] ++ (sws ++ w))) : G E X cl sl 246 [(0, .ref bS), (1, .ref x), (2, .ref y), (3, .int (nI t)), (4, .int v4), (7, .long (mDG (f, th, m, car, tur, pre, n, k, kp, kq, ko))), (9, .int (dkF f 96)), (10, .int (ltF f 96)), (11, .int (mSumF f 96)), (13, .int (nI (cntP (kpF (arF f 96)) 256)))] [] ([] ++ (sws ++ wm)) := by
  have hn : n < 2147483648 := by have := hok.2.2.2.2.2.2.1; omega
  have hm1 : 1 ≤ m := by have := hok.2.2.1.1; omega
  have hm2 : 2 ≤ m := hok.2.2.1.1
  have hm6 : m ≤ 6 := hok.2.2.1.2
  have hp6 : PQ f m ≤ 6 := Nat.le_trans (PQ_m f hm1) hm6
  have hpm : PQ f m ≤ m := PQ_m f hm1
  have hp1 : 1 ≤ PQ f m := PQ_1 f m
  refine g_aload_n F dL_law_246 rfl 1 rfl ?_
  refine g_iconst (v := 0) F dL_law_247 (by decide) ?_
  refine g_callM (B := ([] ++ sws)) (wm := wm) F dL_law_248 (m_count hm 0 (by omega) hn) rfl gL_law_X4_count hm.mem.choose_spec rfl kV_X4_count ⟨by decide, by decide⟩ (by simp only [List.append_assoc]) rfl (by exact Nat.le_of_ble_eq_true rfl) ⟨by show cl + 0 ≤ 600130; omega, by show sl + 0 ≤ 7301080; omega⟩ (fun ov248 V248 hV248 => ?_)
  obtain ⟨rfl, hV248⟩ := hV248
  refine g_ws (ws' := ([] ++ (sws ++ V248))) (by simp only [List.append_assoc]) ?_
  refine g_istore (L' := [(0, .ref bS), (1, .ref x), (2, .ref y), (3, .int (nI t)), (4, .int v4), (7, .long (mDG (f, th, m, car, tur, pre, n, k, kp, kq, ko))), (9, .int (dkF f 96)), (10, .int (ltF f 96)), (11, .int (mSumF f 96)), (13, .int (nI (cntP (kpF (arF f 96)) 256))), (14, .int (nI m))]) F dL_law_251 (by decide) [1, 2, 3, 4, 5, 6, 7, 8, 9, 10, 0] rfl ?_
  refine g_iconst (v := 0) F dL_law_253 (by decide) ?_
  refine g_istore (L' := [(0, .ref bS), (1, .ref x), (2, .ref y), (3, .int (nI t)), (4, .int v4), (7, .long (mDG (f, th, m, car, tur, pre, n, k, kp, kq, ko))), (9, .int (dkF f 96)), (10, .int (ltF f 96)), (11, .int (mSumF f 96)), (13, .int (nI (cntP (kpF (arF f 96)) 256))), (14, .int (nI m)), (15, .int 0)]) F dL_law_254 (by decide) [1, 2, 3, 4, 5, 6, 7, 8, 9, 10, 11, 0] rfl ?_
  refine g_iconst (v := 0) F dL_law_256 (by decide) ?_
  refine g_istore (L' := [(0, .ref bS), (1, .ref x), (2, .ref y), (3, .int (nI t)), (4, .int v4), (7, .long (mDG (f, th, m, car, tur, pre, n, k, kp, kq, ko))), (9, .int (dkF f 96)), (10, .int (ltF f 96)), (11, .int (mSumF f 96)), (13, .int (nI (cntP (kpF (arF f 96)) 256))), (14, .int (nI m)), (15, .int 0), (16, .int 0)]) F dL_law_257 (by decide) [1, 2, 3, 4, 5, 6, 7, 8, 9, 10, 11, 12, 0] rfl ?_
  have lp259 : ∀ (n259 i259 : Nat), i259 + n259 = 6 → ∀ (w259 : va_W), (MWP E x (f, th, m, car, tur, pre, n, k, kp, kq, ko) w259) → G E X (cl + 0) (sl + 0) 259 [(0, .ref bS), (1, .ref x), (2, .ref y), (3, .int (nI t)), (4, .int v4), (7, .long (mDG (f, th, m, car, tur, pre, n, k, kp, kq, ko))), (9, .int (dkF f 96)), (10, .int (ltF f 96)), (11, .int (mSumF f 96)), (13, .int (nI (cntP (kpF (arF f 96)) 256))), (14, .int (nI m)), (15, .int (nI (min i259 (PQ f m)))), (16, .int (nI i259))] [] ([] ++ (sws ++ w259)) := by
    intro n259
    induction n259 with
    | zero =>
      intro i259 hi259 w259  hm259
      have he259 : i259 = 6 := by omega
      rw [he259]
      refine g_iload F dL_law_259 12 rfl ?_
      refine g_bipush (v := 6) F dL_law_261 (by decide) ?_
      refine g_icmp_ge_t (tgt := 332) F dL_law_263 (by decide) (by decide) ?_
      rw [Nat.min_eq_right hp6]
      refine g_iload F dL_law_332 11 rfl ?_
      refine g_iconst (v := 1) F dL_law_334 (by decide) ?_
      refine g_icmp_lt_f (tgt := 369) F dL_law_335 (by decide) (nI_nlt (b := 1) hp1 (by omega)) ?_
      refine g_iload F dL_law_338 11 rfl ?_
      refine g_iload F dL_law_340 10 rfl ?_
      refine g_icmp_gt_f (tgt := 369) F dL_law_342 (by decide) (nI_nlt hpm (by omega)) ?_
      refine g_iload F dL_law_345 11 rfl ?_
      refine g_aload_n F dL_law_347 rfl 1 rfl ?_
      refine g_iload F dL_law_348 10 rfl ?_
      refine g_iconst (v := 0) F dL_law_350 (by decide) ?_
      refine g_callM (B := ([] ++ sws)) (wm := w259) F dL_law_351 (m_would hm259 m 0 (by omega) (by omega) (by decide) (by decide) hok) rfl gL_law_X4_would hm259.mem.choose_spec rfl kV_X4_would ⟨by decide, by decide⟩ (by simp only [List.append_assoc]) rfl (by exact Nat.le_of_ble_eq_true rfl) ⟨by show cl + 0 + 0 ≤ 600130; omega, by show sl + 0 + 0 ≤ 7301080; omega⟩ (fun ov351 V351 hV351 => ?_)
      obtain ⟨rfl, hV351⟩ := hV351
      refine g_ws (ws' := ([] ++ (sws ++ V351))) (by simp only [List.append_assoc]) ?_
      refine g_topr (y := nI (PQ f m)) (w_0 _ _ _ _) ?_
      refine g_icmp_ne_f (tgt := 369) F dL_law_354 (by decide) (fun z => z rfl) ?_
      refine g_iload F dL_law_357 11 rfl ?_
      refine g_iload F dL_law_359 10 rfl ?_
      refine g_iload F dL_law_361 9 rfl ?_
      refine g_min F dL_law_363 (List.mem_of_getElem? (i := 4) rfl) (inL_i (i := 5) rfl) (inL_i (i := 6) rfl) (inL_i (i := 7) rfl) (by decide) (Nat.le_of_ble_eq_true rfl) (by show cl + 0 + 0 ≤ 600130; omega) (by show sl + 0 + 0 ≤ 7301080; omega) ?_
      refine g_icmp_ge_t (tgt := 371) F dL_law_366 (by decide) (many_ge hok.1 hm1 hm6) ?_
      refine g_iload F dL_law_371 11 rfl ?_
      refine g_iload F dL_law_373 10 rfl ?_
      refine g_icmp_ge (tgt := 402) F dL_law_375 (by decide) (fun k375 => ?_) (fun k375 => ?_)
      · skip
        refine g_lv (L' := [(0, .ref bS), (1, .ref x), (2, .ref y), (3, .int (nI t)), (4, .int v4), (7, .long (mDG (f, th, m, car, tur, pre, n, k, kp, kq, ko))), (11, .int (mSumF f 96))]) [0, 1, 2, 3, 4, 5, 8] rfl ?_
        refine g_cs (cells' := cl) (slots' := sl) (by show cl + 0 + 0 ≤ cl; omega) (by show sl + 0 + 0 ≤ sl; omega) ?_
        exact law_402 (nS := nS) (xs := xs) F hV351 hok hN hcl hsl kont
      · skip
        have hlt : PQ f m < m := by rcases Nat.lt_or_ge (PQ f m) m with z | z; exact z; exact absurd (le_nI z (by omega)) k375
        refine g_aload_n F dL_law_378 rfl 1 rfl ?_
        refine g_iload F dL_law_379 10 rfl ?_
        refine g_iconst (v := 1) F dL_law_381 (by decide) ?_
        refine g_callM (B := ([] ++ sws)) (wm := V351) F dL_law_382 (m_would hV351 m 1 (by omega) (by omega) (by decide) (by decide) hok) rfl gL_law_X4_would hV351.mem.choose_spec rfl kV_X4_would ⟨by decide, by decide⟩ (by simp only [List.append_assoc]) rfl (by exact Nat.le_of_ble_eq_true rfl) ⟨by show cl + 0 + 0 + 0 ≤ 600130; omega, by show sl + 0 + 0 + 0 ≤ 7301080; omega⟩ (fun ov382 V382 hV382 => ?_)
        obtain ⟨rfl, hV382⟩ := hV382
        refine g_ws (ws' := ([] ++ (sws ++ V382))) (by simp only [List.append_assoc]) ?_
        refine g_topr (y := 0) ((w_1 _ _ _ _).trans (OF_0 hok.1 hok.2.2.1.1 hm6 hok.2.2.2.1 tur hlt)) ?_
        refine g_if_ne_f (tgt := 400) F dL_law_385 (by decide) (fun z => z rfl) ?_
        refine g_iload F dL_law_388 11 rfl ?_
        refine g_aload_n F dL_law_390 rfl 1 rfl ?_
        refine g_bipush (v := 6) F dL_law_391 (by decide) ?_
        refine g_iconst (v := 0) F dL_law_393 (by decide) ?_
        refine g_callM (B := ([] ++ sws)) (wm := V382) F dL_law_394 (m_would hV382 6 0 (by omega) (by omega) (by decide) (by decide) hok) rfl gL_law_X4_would hV382.mem.choose_spec rfl kV_X4_would ⟨by decide, by decide⟩ (by simp only [List.append_assoc]) rfl (by exact Nat.le_of_ble_eq_true rfl) ⟨by show cl + 0 + 0 + 0 + 0 ≤ 600130; omega, by show sl + 0 + 0 + 0 + 0 ≤ 7301080; omega⟩ (fun ov394 V394 hV394 => ?_)
        obtain ⟨rfl, hV394⟩ := hV394
        refine g_ws (ws' := ([] ++ (sws ++ V394))) (by simp only [List.append_assoc]) ?_
        refine g_topr (y := nI (PQ f 6)) (w_0 _ _ _ _) ?_
        refine g_icmp_eq_t (tgt := 402) F dL_law_397 (by decide) (by rw [(PQ_stop hm1 hlt).2 6 hm6]) ?_
        refine g_lv (L' := [(0, .ref bS), (1, .ref x), (2, .ref y), (3, .int (nI t)), (4, .int v4), (7, .long (mDG (f, th, m, car, tur, pre, n, k, kp, kq, ko))), (11, .int (mSumF f 96))]) [0, 1, 2, 3, 4, 5, 8] rfl ?_
        refine g_cs (cells' := cl) (slots' := sl) (by show cl + 0 + 0 + 0 + 0 ≤ cl; omega) (by show sl + 0 + 0 + 0 + 0 ≤ sl; omega) ?_
        exact law_402 (nS := nS) (xs := xs) F hV394 hok hN hcl hsl kont
    | succ n259 ih259 =>
      intro i259 hi259 w259  hm259
      have hl259 : i259 < 6 := by omega
      refine g_iload F dL_law_259 12 rfl ?_
      refine g_bipush (v := 6) F dL_law_261 (by decide) ?_
      refine g_icmp_ge_f (tgt := 332) F dL_law_263 (by decide) (nle_nI (n := 6) hl259 (by omega)) ?_
      refine g_aload_n F dL_law_266 rfl 1 rfl ?_
      refine g_iload F dL_law_267 12 rfl ?_
      refine g_callM (B := ([] ++ sws)) (wm := w259) F dL_law_269 (m_palette hm259 i259 (by omega) hok) rfl gL_law_X4_palette hm259.mem.choose_spec rfl kV_X4_palette ⟨by decide, by decide⟩ (by simp only [List.append_assoc]) rfl (by exact Nat.le_of_ble_eq_true rfl) ⟨by show cl + 0 + 0 ≤ 600130; omega, by show sl + 0 + 0 ≤ 7301080; omega⟩ (fun ov269 V269 hV269 => ?_)
      obtain ⟨rfl, hV269⟩ := hV269
      refine g_ws (ws' := ([] ++ (sws ++ V269))) (by simp only [List.append_assoc]) ?_
      refine g_istore (L' := [(0, .ref bS), (1, .ref x), (2, .ref y), (3, .int (nI t)), (4, .int v4), (7, .long (mDG (f, th, m, car, tur, pre, n, k, kp, kq, ko))), (9, .int (dkF f 96)), (10, .int (ltF f 96)), (11, .int (mSumF f 96)), (13, .int (nI (cntP (kpF (arF f 96)) 256))), (14, .int (nI m)), (15, .int (nI (min i259 (PQ f m)))), (16, .int (nI i259)), (17, .int (if i259 < PQ f m then PP f m i259 else (-1)))]) F dL_law_272 (by decide) [1, 2, 3, 4, 5, 6, 7, 8, 9, 10, 11, 12, 13, 0] rfl ?_
      refine g_iload F dL_law_274 13 rfl ?_
      refine g_if_ge (tgt := 282) F dL_law_276 (by decide) (fun k276 => ?_) (fun k276 => ?_)
      · skip
        refine g_iload F dL_law_282 12 rfl ?_
        refine g_iload F dL_law_284 11 rfl ?_
        refine g_icmp_ne_f (tgt := 321) F dL_law_286 (by decide) (fun z => z (by rw [Nat.min_eq_left (by have := pc_yes k276; omega)])) ?_
        refine g_iload F dL_law_289 13 rfl ?_
        refine g_iload F dL_law_291 6 rfl ?_
        refine g_icmp_lt_f (tgt := 321) F dL_law_293 (by decide) (by rw [if_pos (pc_yes k276)]; exact Int32.not_lt.mpr (pp_lo hok.1 hm1 hm6 (pc_yes k276)).1) ?_
        refine g_iload F dL_law_296 13 rfl ?_
        refine g_iload F dL_law_298 7 rfl ?_
        refine g_icmp_gt_f (tgt := 321) F dL_law_300 (by decide) (by rw [if_pos (pc_yes k276)]; exact Int32.not_lt.mpr (pp_lo hok.1 hm1 hm6 (pc_yes k276)).2) ?_
        refine g_iload F dL_law_303 12 rfl ?_
        refine g_if_le (tgt := 323) F dL_law_305 (by decide) (fun k305 => ?_) (fun k305 => ?_)
        · skip
          refine g_iinc (L' := [(0, .ref bS), (1, .ref x), (2, .ref y), (3, .int (nI t)), (4, .int v4), (7, .long (mDG (f, th, m, car, tur, pre, n, k, kp, kq, ko))), (9, .int (dkF f 96)), (10, .int (ltF f 96)), (11, .int (mSumF f 96)), (13, .int (nI (cntP (kpF (arF f 96)) 256))), (14, .int (nI m)), (15, .int (nI (min (i259 + 1) (PQ f m)))), (16, .int (nI i259)), (17, .int (if i259 < PQ f m then PP f m i259 else (-1)))]) (v := nI (min (i259 + 1) (PQ f m))) F dL_law_323 11 rfl ((nI_1 (min i259 (PQ f m))).trans (congrArg nI (by have := pc_yes k276; omega))) (by decide) [1, 2, 3, 4, 5, 6, 7, 8, 9, 10, 11, 0, 12, 13] rfl ?_
          refine g_iinc (L' := [(0, .ref bS), (1, .ref x), (2, .ref y), (3, .int (nI t)), (4, .int v4), (7, .long (mDG (f, th, m, car, tur, pre, n, k, kp, kq, ko))), (9, .int (dkF f 96)), (10, .int (ltF f 96)), (11, .int (mSumF f 96)), (13, .int (nI (cntP (kpF (arF f 96)) 256))), (14, .int (nI m)), (15, .int (nI (min (i259 + 1) (PQ f m)))), (16, .int (nI (i259 + 1))), (17, .int (if i259 < PQ f m then PP f m i259 else (-1)))]) (v := nI (i259 + 1)) F dL_law_326 12 rfl (nI_1 _) (by decide) [1, 2, 3, 4, 5, 6, 7, 8, 9, 10, 11, 12, 0, 13] rfl ?_
          refine g_goto (tgt := 259) F dL_law_329 (by decide) ?_
          refine g_lv (L' := [(0, .ref bS), (1, .ref x), (2, .ref y), (3, .int (nI t)), (4, .int v4), (7, .long (mDG (f, th, m, car, tur, pre, n, k, kp, kq, ko))), (9, .int (dkF f 96)), (10, .int (ltF f 96)), (11, .int (mSumF f 96)), (13, .int (nI (cntP (kpF (arF f 96)) 256))), (14, .int (nI m)), (15, .int (nI (min (i259 + 1) (PQ f m)))), (16, .int (nI (i259 + 1)))]) [0, 1, 2, 3, 4, 5, 6, 7, 8, 9, 10, 11, 12] rfl ?_
          exact ih259 (i259 + 1) (by omega) V269 hV269
        · skip
          refine g_iload F dL_law_308 13 rfl ?_
          refine g_aload_n F dL_law_310 rfl 1 rfl ?_
          refine g_iload F dL_law_311 12 rfl ?_
          refine g_iconst (v := 1) F dL_law_313 (by decide) ?_
          refine g_isub F dL_law_314 ?_
          refine g_topr (y := nI (i259 - 1)) (pk_sub (b := 1) (by have := mt (nI_le0 (by omega)).mpr k305; omega)) ?_
          refine g_callM (B := ([] ++ sws)) (wm := V269) F dL_law_315 (m_palette hV269 (i259 - 1) (by omega) hok) rfl gL_law_X4_palette hV269.mem.choose_spec rfl kV_X4_palette ⟨by decide, by decide⟩ (by simp only [List.append_assoc]) rfl (by exact Nat.le_of_ble_eq_true rfl) ⟨by show cl + 0 + 0 + 0 ≤ 600130; omega, by show sl + 0 + 0 + 0 ≤ 7301080; omega⟩ (fun ov315 V315 hV315 => ?_)
          obtain ⟨rfl, hV315⟩ := hV315
          refine g_ws (ws' := ([] ++ (sws ++ V315))) (by simp only [List.append_assoc]) ?_
          refine g_icmp_ge_t (tgt := 323) F dL_law_318 (by decide) (pp_prev hok.1 hm1 hm6 (by have := mt (nI_le0 (by omega)).mpr k305; omega) (pc_yes k276)) ?_
          refine g_iinc (L' := [(0, .ref bS), (1, .ref x), (2, .ref y), (3, .int (nI t)), (4, .int v4), (7, .long (mDG (f, th, m, car, tur, pre, n, k, kp, kq, ko))), (9, .int (dkF f 96)), (10, .int (ltF f 96)), (11, .int (mSumF f 96)), (13, .int (nI (cntP (kpF (arF f 96)) 256))), (14, .int (nI m)), (15, .int (nI (min (i259 + 1) (PQ f m)))), (16, .int (nI i259)), (17, .int (if i259 < PQ f m then PP f m i259 else (-1)))]) (v := nI (min (i259 + 1) (PQ f m))) F dL_law_323 11 rfl ((nI_1 (min i259 (PQ f m))).trans (congrArg nI (by have := pc_yes k276; omega))) (by decide) [1, 2, 3, 4, 5, 6, 7, 8, 9, 10, 11, 0, 12, 13] rfl ?_
          refine g_iinc (L' := [(0, .ref bS), (1, .ref x), (2, .ref y), (3, .int (nI t)), (4, .int v4), (7, .long (mDG (f, th, m, car, tur, pre, n, k, kp, kq, ko))), (9, .int (dkF f 96)), (10, .int (ltF f 96)), (11, .int (mSumF f 96)), (13, .int (nI (cntP (kpF (arF f 96)) 256))), (14, .int (nI m)), (15, .int (nI (min (i259 + 1) (PQ f m)))), (16, .int (nI (i259 + 1))), (17, .int (if i259 < PQ f m then PP f m i259 else (-1)))]) (v := nI (i259 + 1)) F dL_law_326 12 rfl (nI_1 _) (by decide) [1, 2, 3, 4, 5, 6, 7, 8, 9, 10, 11, 12, 0, 13] rfl ?_
          refine g_goto (tgt := 259) F dL_law_329 (by decide) ?_
          refine g_lv (L' := [(0, .ref bS), (1, .ref x), (2, .ref y), (3, .int (nI t)), (4, .int v4), (7, .long (mDG (f, th, m, car, tur, pre, n, k, kp, kq, ko))), (9, .int (dkF f 96)), (10, .int (ltF f 96)), (11, .int (mSumF f 96)), (13, .int (nI (cntP (kpF (arF f 96)) 256))), (14, .int (nI m)), (15, .int (nI (min (i259 + 1) (PQ f m)))), (16, .int (nI (i259 + 1)))]) [0, 1, 2, 3, 4, 5, 6, 7, 8, 9, 10, 11, 12] rfl ?_
          exact ih259 (i259 + 1) (by omega) V315 hV315
      · skip
        have hmn : min i259 (PQ f m) = min (i259 + 1) (PQ f m) := by have := pc_no hok.1 hm1 hm6 k276; omega
        rw [hmn]
        refine g_goto (tgt := 326) F dL_law_279 (by decide) ?_
        refine g_iinc (L' := [(0, .ref bS), (1, .ref x), (2, .ref y), (3, .int (nI t)), (4, .int v4), (7, .long (mDG (f, th, m, car, tur, pre, n, k, kp, kq, ko))), (9, .int (dkF f 96)), (10, .int (ltF f 96)), (11, .int (mSumF f 96)), (13, .int (nI (cntP (kpF (arF f 96)) 256))), (14, .int (nI m)), (15, .int (nI (min (i259 + 1) (PQ f m)))), (16, .int (nI (i259 + 1))), (17, .int (if i259 < PQ f m then PP f m i259 else (-1)))]) (v := nI (i259 + 1)) F dL_law_326 12 rfl (nI_1 _) (by decide) [1, 2, 3, 4, 5, 6, 7, 8, 9, 10, 11, 12, 0, 13] rfl ?_
        refine g_goto (tgt := 259) F dL_law_329 (by decide) ?_
        refine g_lv (L' := [(0, .ref bS), (1, .ref x), (2, .ref y), (3, .int (nI t)), (4, .int v4), (7, .long (mDG (f, th, m, car, tur, pre, n, k, kp, kq, ko))), (9, .int (dkF f 96)), (10, .int (ltF f 96)), (11, .int (mSumF f 96)), (13, .int (nI (cntP (kpF (arF f 96)) 256))), (14, .int (nI m)), (15, .int (nI (min (i259 + 1) (PQ f m)))), (16, .int (nI (i259 + 1)))]) [0, 1, 2, 3, 4, 5, 6, 7, 8, 9, 10, 11, 12] rfl ?_
        exact ih259 (i259 + 1) (by omega) V269 hV269
  exact lp259 6 0 (by omega) V248 hV248
set_option maxHeartbeats 4000000 in
set_option maxRecDepth 100000 in
theorem law_109 {E : gE} {X : gX} {bS nS x y : Nat} {xs : Nat → Int32} {f th : AF} {m : Nat} {car tur pre : Int32} {n : Nat} {k kp : AF} {kq : Nat} {ko : Int32} {sws wm : va_W} {N t cl sl : Nat} {v4 : Int32} (F : gF E X cL_law RL wsL_law (some .boolean) room_1 22) (hm : MWP E x (f, th, m, car, tur, pre, n, k, kp, kq, ko) wm) (hok : OkS N (f, th, m, car, tur, pre, n, k, kp, kq, ko)) (hN : N < 1000) (hcl : cl ≤ 599000) (hsl : sl ≤ 6999000) (kont : ∀ w, MWP E x (f, th, m, car, tur, pre, n, k, kp, kq, ko) w → G E X (cl + 1) (sl + 256) 776 [(0, .ref bS), (1, .ref x), (2, .ref y), (3, .int (nI t))] [] ([] ++ (sws ++ w))) : G E X cl sl 109 [(0, .ref bS), (1, .ref x), (2, .ref y), (3, .int (nI t)), (4, .int v4)] [] ([] ++ (sws ++ wm)) := by
  have hn : n < 2147483648 := by have := hok.2.2.2.2.2.2.1; omega
  have hm1 : 1 ≤ m := by have := hok.2.2.1.1; omega
  have hm2 : 2 ≤ m := hok.2.2.1.1
  have hm6 : m ≤ 6 := hok.2.2.1.2
  have hp6 : PQ f m ≤ 6 := Nat.le_trans (PQ_m f hm1) hm6
  have hpm : PQ f m ≤ m := PQ_m f hm1
  have hp1 : 1 ≤ PQ f m := PQ_1 f m
  refine g_aload_n F dL_law_109 rfl 1 rfl ?_
  refine g_callM (B := ([] ++ sws)) (wm := wm) F dL_law_110 (m_digest hm hn) rfl gL_law_X4_digest hm.mem.choose_spec rfl kV_X4_digest ⟨by decide, by decide⟩ (by simp only [List.append_assoc]) rfl (by exact Nat.le_of_ble_eq_true rfl) ⟨by show cl + 0 ≤ 600130; omega, by show sl + 0 ≤ 7301080; omega⟩ (fun ov110 V110 hV110 => ?_)
  obtain ⟨rfl, hV110⟩ := hV110
  refine g_ws (ws' := ([] ++ (sws ++ V110))) (by simp only [List.append_assoc]) ?_
  refine g_lstore (L' := [(0, .ref bS), (1, .ref x), (2, .ref y), (3, .int (nI t)), (4, .int v4), (7, .long (mDG (f, th, m, car, tur, pre, n, k, kp, kq, ko)))]) F dL_law_113 (by decide) [1, 2, 3, 4, 5, 0] rfl ?_
  refine g_sipush (v := 255) F dL_law_115 (by decide) ?_
  refine g_istore (L' := [(0, .ref bS), (1, .ref x), (2, .ref y), (3, .int (nI t)), (4, .int v4), (7, .long (mDG (f, th, m, car, tur, pre, n, k, kp, kq, ko))), (9, .int 255)]) F dL_law_118 (by decide) [1, 2, 3, 4, 5, 6, 0] rfl ?_
  refine g_iconst (v := 0) F dL_law_120 (by decide) ?_
  refine g_istore (L' := [(0, .ref bS), (1, .ref x), (2, .ref y), (3, .int (nI t)), (4, .int v4), (7, .long (mDG (f, th, m, car, tur, pre, n, k, kp, kq, ko))), (9, .int 255), (10, .int 0)]) F dL_law_121 (by decide) [1, 2, 3, 4, 5, 6, 7, 0] rfl ?_
  refine g_iconst (v := 0) F dL_law_123 (by decide) ?_
  refine g_istore (L' := [(0, .ref bS), (1, .ref x), (2, .ref y), (3, .int (nI t)), (4, .int v4), (7, .long (mDG (f, th, m, car, tur, pre, n, k, kp, kq, ko))), (9, .int 255), (10, .int 0), (11, .int 0)]) F dL_law_124 (by decide) [1, 2, 3, 4, 5, 6, 7, 8, 0] rfl ?_
  refine g_sipush (v := 256) F dL_law_126 (by decide) ?_
  refine g_newz (N' := 256) F dL_law_129 (inL_i (i := 3) rfl) (by decide) (rfl) (by omega) (by show cl + 0 + 1 ≤ 600130; omega) (by show sl + 0 + 256 ≤ 7301080; omega) (fun q129 => g_front ?_)
  refine g_ws (ws' := ([(q129, .inl (E.2.1.1 101, 256, .inl (fun _ => 0)))] ++ (sws ++ V110))) rfl ?_
  refine g_astore (L' := [(0, .ref bS), (1, .ref x), (2, .ref y), (3, .int (nI t)), (4, .int v4), (7, .long (mDG (f, th, m, car, tur, pre, n, k, kp, kq, ko))), (9, .int 255), (10, .int 0), (11, .int 0), (12, .ref q129)]) F dL_law_131 (by decide) [1, 2, 3, 4, 5, 6, 7, 8, 9, 0] rfl ?_
  refine g_iconst (v := 0) F dL_law_133 (by decide) ?_
  refine g_istore (L' := [(0, .ref bS), (1, .ref x), (2, .ref y), (3, .int (nI t)), (4, .int v4), (7, .long (mDG (f, th, m, car, tur, pre, n, k, kp, kq, ko))), (9, .int 255), (10, .int 0), (11, .int 0), (12, .ref q129), (13, .int 0)]) F dL_law_134 (by decide) [1, 2, 3, 4, 5, 6, 7, 8, 9, 10, 0] rfl ?_
  have lp136 : ∀ (n136 i136 : Nat), i136 + n136 = 96 → ∀ (w136 : va_W), (MWP E x (f, th, m, car, tur, pre, n, k, kp, kq, ko) w136) → G E X (cl + 0 + 1) (sl + 0 + 256) 136 [(0, .ref bS), (1, .ref x), (2, .ref y), (3, .int (nI t)), (4, .int v4), (7, .long (mDG (f, th, m, car, tur, pre, n, k, kp, kq, ko))), (9, .int (dkF f i136)), (10, .int (ltF f i136)), (11, .int (mSumF f i136)), (12, .ref q129), (13, .int (nI i136))] [] ([(q129, .inl (E.2.1.1 101, 256, .inl (arF f i136)))] ++ (sws ++ w136)) := by
    intro n136
    induction n136 with
    | zero =>
      intro i136 hi136 w136  hm136
      have he136 : i136 = 96 := by omega
      rw [he136]
      refine g_iload F dL_law_136 10 rfl ?_
      refine g_bipush (v := 96) F dL_law_138 (by decide) ?_
      refine g_icmp_ge_t (tgt := 196) F dL_law_140 (by decide) (by decide) ?_
      refine g_iconst (v := 0) F dL_law_196 (by decide) ?_
      refine g_istore (L' := [(0, .ref bS), (1, .ref x), (2, .ref y), (3, .int (nI t)), (4, .int v4), (7, .long (mDG (f, th, m, car, tur, pre, n, k, kp, kq, ko))), (9, .int (dkF f 96)), (10, .int (ltF f 96)), (11, .int (mSumF f 96)), (12, .ref q129), (13, .int 0)]) F dL_law_197 (by decide) [1, 2, 3, 4, 5, 6, 7, 8, 9, 10, 0] rfl ?_
      refine g_aload F dL_law_199 9 rfl ?_
      refine g_astore (L' := [(0, .ref bS), (1, .ref x), (2, .ref y), (3, .int (nI t)), (4, .int v4), (7, .long (mDG (f, th, m, car, tur, pre, n, k, kp, kq, ko))), (9, .int (dkF f 96)), (10, .int (ltF f 96)), (11, .int (mSumF f 96)), (12, .ref q129), (13, .int 0), (14, .ref q129)]) F dL_law_201 (by decide) [1, 2, 3, 4, 5, 6, 7, 8, 9, 10, 11, 0] rfl ?_
      refine g_aload F dL_law_203 11 rfl ?_
      refine g_alenx (v := 256) F dL_law_205 0 2 rfl rfl rfl ?_
      refine g_istore (L' := [(0, .ref bS), (1, .ref x), (2, .ref y), (3, .int (nI t)), (4, .int v4), (7, .long (mDG (f, th, m, car, tur, pre, n, k, kp, kq, ko))), (9, .int (dkF f 96)), (10, .int (ltF f 96)), (11, .int (mSumF f 96)), (12, .ref q129), (13, .int 0), (14, .ref q129), (15, .int 256)]) F dL_law_206 (by decide) [1, 2, 3, 4, 5, 6, 7, 8, 9, 10, 11, 12, 0] rfl ?_
      refine g_iconst (v := 0) F dL_law_208 (by decide) ?_
      refine g_istore (L' := [(0, .ref bS), (1, .ref x), (2, .ref y), (3, .int (nI t)), (4, .int v4), (7, .long (mDG (f, th, m, car, tur, pre, n, k, kp, kq, ko))), (9, .int (dkF f 96)), (10, .int (ltF f 96)), (11, .int (mSumF f 96)), (12, .ref q129), (13, .int 0), (14, .ref q129), (15, .int 256), (16, .int 0)]) F dL_law_209 (by decide) [1, 2, 3, 4, 5, 6, 7, 8, 9, 10, 11, 12, 13, 0] rfl ?_
      have lp211 : ∀ (n211 i211 : Nat), i211 + n211 = 256 → ∀ (w211 : va_W), (MWP E x (f, th, m, car, tur, pre, n, k, kp, kq, ko) w211) → G E X (cl + 0 + 1) (sl + 0 + 256) 211 [(0, .ref bS), (1, .ref x), (2, .ref y), (3, .int (nI t)), (4, .int v4), (7, .long (mDG (f, th, m, car, tur, pre, n, k, kp, kq, ko))), (9, .int (dkF f 96)), (10, .int (ltF f 96)), (11, .int (mSumF f 96)), (12, .ref q129), (13, .int (nI (cntP (kpF (arF f 96)) i211))), (14, .ref q129), (15, .int 256), (16, .int (nI i211))] [] ([(q129, .inl (E.2.1.1 101, 256, .inl (arF f 96)))] ++ (sws ++ w211)) := by
        intro n211
        induction n211 with
        | zero =>
          intro i211 hi211 w211  hm211
          have he211 : i211 = 256 := by omega
          rw [he211]
          refine g_iload F dL_law_211 13 rfl ?_
          refine g_iload F dL_law_213 12 rfl ?_
          refine g_icmp_ge_t (tgt := 246) F dL_law_215 (by decide) (by decide) ?_
          refine g_perm (ws' := ([] ++ (sws ++ w211)) ++ ([(q129, .inl (E.2.1.1 101, 256, .inl (arF f 96)))] ++ [])) (ps4 (pmc (A := []) (List.Perm.nil)) (by simp only [List.append_assoc, List.nil_append, List.append_nil]; exact List.Perm.refl _)) (g_drop ?_)
          refine g_lv (L' := [(0, .ref bS), (1, .ref x), (2, .ref y), (3, .int (nI t)), (4, .int v4), (7, .long (mDG (f, th, m, car, tur, pre, n, k, kp, kq, ko))), (9, .int (dkF f 96)), (10, .int (ltF f 96)), (11, .int (mSumF f 96)), (13, .int (nI (cntP (kpF (arF f 96)) 256)))]) [0, 1, 2, 3, 4, 5, 6, 7, 8, 10] rfl ?_
          refine g_cs (cells' := (cl + 1)) (slots' := (sl + 256)) (by show cl + 0 + 1 ≤ (cl + 1); omega) (by show sl + 0 + 256 ≤ (sl + 256); omega) ?_
          exact law_246 (nS := nS) (xs := xs) F hm211 hok hN (by omega) (by omega) kont
        | succ n211 ih211 =>
          intro i211 hi211 w211  hm211
          have hl211 : i211 < 256 := by omega
          refine g_iload F dL_law_211 13 rfl ?_
          refine g_iload F dL_law_213 12 rfl ?_
          refine g_icmp_ge_f (tgt := 246) F dL_law_215 (by decide) (nle_nI (n := 256) hl211 (by omega)) ?_
          refine g_aload F dL_law_218 11 rfl ?_
          refine g_iload F dL_law_220 13 rfl ?_
          refine g_zald (k := i211) F dL_law_222 0 rfl (by omega) (by first | decide | omega) ?_
          refine g_istore (L' := [(0, .ref bS), (1, .ref x), (2, .ref y), (3, .int (nI t)), (4, .int v4), (7, .long (mDG (f, th, m, car, tur, pre, n, k, kp, kq, ko))), (9, .int (dkF f 96)), (10, .int (ltF f 96)), (11, .int (mSumF f 96)), (12, .ref q129), (13, .int (nI (cntP (kpF (arF f 96)) i211))), (14, .ref q129), (15, .int 256), (16, .int (nI i211)), (17, .int ((arF f 96) i211))]) F dL_law_223 (by decide) [1, 2, 3, 4, 5, 6, 7, 8, 9, 10, 11, 12, 13, 14, 0] rfl ?_
          refine g_iload F dL_law_225 10 rfl ?_
          refine g_iload F dL_law_227 14 rfl ?_
          have jn237 : G E X (cl + 0 + 1) (sl + 0 + 256) 237 [(0, .ref bS), (1, .ref x), (2, .ref y), (3, .int (nI t)), (4, .int v4), (7, .long (mDG (f, th, m, car, tur, pre, n, k, kp, kq, ko))), (9, .int (dkF f 96)), (10, .int (ltF f 96)), (11, .int (mSumF f 96)), (12, .ref q129), (13, .int (nI (cntP (kpF (arF f 96)) i211))), (14, .ref q129), (15, .int 256), (16, .int (nI i211)), (17, .int ((arF f 96) i211))] [.int (if arF f 96 i211 = 0 then 0 else 1), .int (nI (cntP (kpF (arF f 96)) i211))] ([(q129, .inl (E.2.1.1 101, 256, .inl (arF f 96)))] ++ (sws ++ w211)) := by
            refine g_iadd F dL_law_237 ?_
            refine g_topr (y := nI (cntP (kpF (arF f 96)) (i211 + 1))) (kp_s _ _) ?_
            refine g_istore (L' := [(0, .ref bS), (1, .ref x), (2, .ref y), (3, .int (nI t)), (4, .int v4), (7, .long (mDG (f, th, m, car, tur, pre, n, k, kp, kq, ko))), (9, .int (dkF f 96)), (10, .int (ltF f 96)), (11, .int (mSumF f 96)), (12, .ref q129), (13, .int (nI (cntP (kpF (arF f 96)) (i211 + 1)))), (14, .ref q129), (15, .int 256), (16, .int (nI i211)), (17, .int ((arF f 96) i211))]) F dL_law_238 (by decide) [1, 2, 3, 4, 5, 6, 7, 8, 9, 10, 0, 11, 12, 13, 14] rfl ?_
            refine g_iinc (L' := [(0, .ref bS), (1, .ref x), (2, .ref y), (3, .int (nI t)), (4, .int v4), (7, .long (mDG (f, th, m, car, tur, pre, n, k, kp, kq, ko))), (9, .int (dkF f 96)), (10, .int (ltF f 96)), (11, .int (mSumF f 96)), (12, .ref q129), (13, .int (nI (cntP (kpF (arF f 96)) (i211 + 1)))), (14, .ref q129), (15, .int 256), (16, .int (nI (i211 + 1))), (17, .int ((arF f 96) i211))]) (v := nI (i211 + 1)) F dL_law_240 13 rfl (nI_1 _) (by decide) [1, 2, 3, 4, 5, 6, 7, 8, 9, 10, 11, 12, 13, 0, 14] rfl ?_
            refine g_goto (tgt := 211) F dL_law_243 (by decide) ?_
            refine g_lv (L' := [(0, .ref bS), (1, .ref x), (2, .ref y), (3, .int (nI t)), (4, .int v4), (7, .long (mDG (f, th, m, car, tur, pre, n, k, kp, kq, ko))), (9, .int (dkF f 96)), (10, .int (ltF f 96)), (11, .int (mSumF f 96)), (12, .ref q129), (13, .int (nI (cntP (kpF (arF f 96)) (i211 + 1)))), (14, .ref q129), (15, .int 256), (16, .int (nI (i211 + 1)))]) [0, 1, 2, 3, 4, 5, 6, 7, 8, 9, 10, 11, 12, 13] rfl ?_
            exact ih211 (i211 + 1) (by omega) w211 hm211
          refine g_if_eq (tgt := 236) F dL_law_229 (by decide) (fun k229 => ?_) (fun k229 => ?_)
          · skip
            refine g_iconst (v := 0) F dL_law_236 (by decide) ?_
            exact g_topr (by simp [k229]) jn237
          · skip
            refine g_iconst (v := 1) F dL_law_232 (by decide) ?_
            refine g_goto (tgt := 237) F dL_law_233 (by decide) ?_
            exact g_topr (by simp [k229]) jn237
      exact lp211 256 0 (by omega) w136 hm136
    | succ n136 ih136 =>
      intro i136 hi136 w136  hm136
      have hl136 : i136 < 96 := by omega
      refine g_iload F dL_law_136 10 rfl ?_
      refine g_bipush (v := 96) F dL_law_138 (by decide) ?_
      refine g_icmp_ge_f (tgt := 196) F dL_law_140 (by decide) (nle_nI (n := 96) hl136 (by omega)) ?_
      refine g_aload_n F dL_law_143 rfl 1 rfl ?_
      refine g_iload F dL_law_144 10 rfl ?_
      refine g_bipush (v := 12) F dL_law_146 (by decide) ?_
      refine g_irem (v := nI (i136 % 12)) F dL_law_148 (by decide) ((pk_rem (d := 12) (by omega) (by omega) (by omega)).symm) ?_
      refine g_iload F dL_law_149 10 rfl ?_
      refine g_bipush (v := 12) F dL_law_151 (by decide) ?_
      refine g_idiv F dL_law_153 (by decide) ?_
      refine g_topr (y := nI (i136 / 12)) (pk_div (d := 12) (by omega) (by omega) (by omega)) ?_
      refine g_callM (B := ([(q129, .inl (E.2.1.1 101, 256, .inl (arF f i136)))] ++ sws)) (wm := w136) F dL_law_154 (m_shade hm136 (i136 % 12) (i136 / 12) (by omega) (by omega)) rfl gL_law_X4_shade hm136.mem.choose_spec rfl kV_X4_shade ⟨by decide, by decide⟩ (by simp only [List.append_assoc]) rfl (by exact Nat.le_of_ble_eq_true rfl) ⟨by show cl + 0 + 1 + 0 ≤ 600130; omega, by show sl + 0 + 256 + 0 ≤ 7301080; omega⟩ (fun ov154 V154 hV154 => ?_)
      obtain ⟨rfl, hV154⟩ := hV154
      refine g_ws (ws' := ([(q129, .inl (E.2.1.1 101, 256, .inl (arF f i136)))] ++ (sws ++ V154))) (by simp only [List.append_assoc]) ?_
      refine g_topr (y := f i136) (by congr 1; omega) ?_
      obtain ⟨v136, h136, e136⟩ := hok.1 i136 hl136
      refine g_istore (L' := [(0, .ref bS), (1, .ref x), (2, .ref y), (3, .int (nI t)), (4, .int v4), (7, .long (mDG (f, th, m, car, tur, pre, n, k, kp, kq, ko))), (9, .int (dkF f i136)), (10, .int (ltF f i136)), (11, .int (mSumF f i136)), (12, .ref q129), (13, .int (nI i136)), (14, .int (f i136))]) F dL_law_157 (by decide) [1, 2, 3, 4, 5, 6, 7, 8, 9, 10, 11, 0] rfl ?_
      refine g_iload F dL_law_159 6 rfl ?_
      refine g_iload F dL_law_161 11 rfl ?_
      refine g_min F dL_law_163 (List.mem_of_getElem? (i := 4) rfl) (inL_i (i := 5) rfl) (inL_i (i := 6) rfl) (inL_i (i := 7) rfl) (by decide) (Nat.le_of_ble_eq_true rfl) (by show cl + 0 + 1 + 0 ≤ 600130; omega) (by show sl + 0 + 256 + 0 ≤ 7301080; omega) ?_
      refine g_istore (L' := [(0, .ref bS), (1, .ref x), (2, .ref y), (3, .int (nI t)), (4, .int v4), (7, .long (mDG (f, th, m, car, tur, pre, n, k, kp, kq, ko))), (9, .int (sMin (dkF f i136) (f i136))), (10, .int (ltF f i136)), (11, .int (mSumF f i136)), (12, .ref q129), (13, .int (nI i136)), (14, .int (f i136))]) F dL_law_166 (by decide) [1, 2, 3, 4, 5, 6, 0, 7, 8, 9, 10, 11] rfl ?_
      refine g_iload F dL_law_168 7 rfl ?_
      refine g_iload F dL_law_170 11 rfl ?_
      refine g_max F dL_law_172 (List.mem_of_getElem? (i := 8) rfl) (inL_i (i := 9) rfl) (inL_i (i := 6) rfl) (inL_i (i := 10) rfl) (by decide) (Nat.le_of_ble_eq_true rfl) (by show cl + 0 + 1 + 0 ≤ 600130; omega) (by show sl + 0 + 256 + 0 ≤ 7301080; omega) ?_
      refine g_istore (L' := [(0, .ref bS), (1, .ref x), (2, .ref y), (3, .int (nI t)), (4, .int v4), (7, .long (mDG (f, th, m, car, tur, pre, n, k, kp, kq, ko))), (9, .int (sMin (dkF f i136) (f i136))), (10, .int (sMax (ltF f i136) (f i136))), (11, .int (mSumF f i136)), (12, .ref q129), (13, .int (nI i136)), (14, .int (f i136))]) F dL_law_175 (by decide) [1, 2, 3, 4, 5, 6, 7, 0, 8, 9, 10, 11] rfl ?_
      refine g_aload F dL_law_177 9 rfl ?_
      refine g_iload F dL_law_179 11 rfl ?_
      refine g_topr (y := nI v136) (e136) ?_
      refine g_iconst (v := 1) F dL_law_181 (by decide) ?_
      refine g_zast (k := v136) (ws' := ([(q129, .inl (E.2.1.1 101, 256, .inl (upd (arF f i136) v136 1)))] ++ (sws ++ V154))) F dL_law_182 0 rfl (by omega) (by first | decide | omega) rfl ?_
      refine g_ws (ws' := ([(q129, .inl (E.2.1.1 101, 256, .inl (arF f (i136 + 1))))] ++ (sws ++ V154))) (by rw [ar_s e136 h136]) ?_
      refine g_iload F dL_law_183 8 rfl ?_
      refine g_iload F dL_law_185 11 rfl ?_
      refine g_iadd F dL_law_187 ?_
      refine g_istore (L' := [(0, .ref bS), (1, .ref x), (2, .ref y), (3, .int (nI t)), (4, .int v4), (7, .long (mDG (f, th, m, car, tur, pre, n, k, kp, kq, ko))), (9, .int (sMin (dkF f i136) (f i136))), (10, .int (sMax (ltF f i136) (f i136))), (11, .int ((mSumF f i136) + (f i136))), (12, .ref q129), (13, .int (nI i136)), (14, .int (f i136))]) F dL_law_188 (by decide) [1, 2, 3, 4, 5, 6, 7, 8, 0, 9, 10, 11] rfl ?_
      refine g_iinc (L' := [(0, .ref bS), (1, .ref x), (2, .ref y), (3, .int (nI t)), (4, .int v4), (7, .long (mDG (f, th, m, car, tur, pre, n, k, kp, kq, ko))), (9, .int (sMin (dkF f i136) (f i136))), (10, .int (sMax (ltF f i136) (f i136))), (11, .int ((mSumF f i136) + (f i136))), (12, .ref q129), (13, .int (nI (i136 + 1))), (14, .int (f i136))]) (v := nI (i136 + 1)) F dL_law_190 10 rfl (nI_1 _) (by decide) [1, 2, 3, 4, 5, 6, 7, 8, 9, 10, 0, 11] rfl ?_
      refine g_goto (tgt := 136) F dL_law_193 (by decide) ?_
      refine g_lv (L' := [(0, .ref bS), (1, .ref x), (2, .ref y), (3, .int (nI t)), (4, .int v4), (7, .long (mDG (f, th, m, car, tur, pre, n, k, kp, kq, ko))), (9, .int (sMin (dkF f i136) (f i136))), (10, .int (sMax (ltF f i136) (f i136))), (11, .int ((mSumF f i136) + (f i136))), (12, .ref q129), (13, .int (nI (i136 + 1)))]) [0, 1, 2, 3, 4, 5, 6, 7, 8, 9, 10] rfl ?_
      exact ih136 (i136 + 1) (by omega) V154 hV154
  exact lp136 96 0 (by omega) V110 hV110
end MWPS
