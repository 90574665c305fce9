/-! the law: its body, piece by piece -/
section MWPS
theorem inL_i {w : Cond} {i : Nat} (h : wsL_law0[i]? = some w) : w ∈ wsL_law :=
  List.mem_append_left _ (List.mem_append_left _ (List.mem_append_left _ (List.mem_of_getElem? h)))
theorem w_0 (q : Nat) (o : Int32) (cl : AF) (pre : Int32) : mWould q o cl pre 0 = nI q := by
  unfold mWould; rw [if_neg (by decide)]
theorem w_1 (q : Nat) (o : Int32) (cl : AF) (pre : Int32) : mWould q o cl pre 1 = o := by
  unfold mWould; rw [if_pos (by decide), if_neg (by decide)]
theorem w_2 (q : Nat) (o : Int32) (cl : AF) (pre : Int32) : mWould q o cl pre 2 = mAK cl pre 8 := by
  unfold mWould; rw [if_pos (by decide), if_pos (by decide)]
theorem ar_s {f : AF} {i v : Nat} (e : f i = nI v) (hv : v < 256) : upd (arF f i) v 1 = arF f (i + 1) := by
  rw [arF, e, nI_clamp (show v < 2 ^ 31 by omega)]
theorem kn_lo (k : AF) (pre : Int32) (y : Nat) : ¬ mKn k pre y < 1 := by
  obtain ⟨v, h1, h2, e⟩ := kn_bd k pre y
  rw [e]; exact nI_nlt (b := 1) h1 (by omega)
theorem kn_hi (k : AF) (pre : Int32) (y : Nat) : mKn k pre y ≤ 12 := by
  obtain ⟨v, h1, h2, e⟩ := kn_bd k pre y
  rw [e]; exact le_nI (i := 12) h2 (by omega)
theorem ak_lo (k : AF) (pre : Int32) : ¬ mAK k pre 8 < 8 := by
  obtain ⟨v, h1, h2, e⟩ := ak_bd k pre 8
  rw [e]; exact nI_nlt (b := 8) h1 (by omega)
theorem ak_hi (k : AF) (pre : Int32) : ¬ 96 < mAK k pre 8 := by
  obtain ⟨v, h1, h2, e⟩ := ak_bd k pre 8
  rw [e]; exact nI_nlt (a := 96) (by omega) (by omega)
theorem of_lo {f : AF} (hf : okF f) {m : Nat} (h1 : 1 ≤ m) (h6 : m ≤ 6) (car tur : Int32) : ¬ OF f m car tur < 0 := by
  obtain ⟨t, h, e⟩ := OF_nn hf h1 h6 car tur
  rw [e]; exact nI_pos (by omega)
theorem th_lo {th : AF} (h : okT th) {c : Nat} (hc : c < 6) : ¬ th c < 0 := by
  obtain ⟨v, hv, e⟩ := h c hc
  rw [e]; exact nI_pos (by omega)
theorem pp_nn {f : AF} (hf : okF f) {m : Nat} (h1 : 1 ≤ m) (h6 : m ≤ 6) {c : Nat} (hc : c < PQ f m) : 0 ≤ PP f m c := by
  obtain ⟨v, hv, e⟩ := pp_256 hf h1 h6 c hc
  rw [e]; exact nI_pos' (by omega)
theorem pc_yes {f : AF} {m c : Nat} (h : 0 ≤ (if c < PQ f m then PP f m c else (-1))) : c < PQ f m := by
  by_cases z : c < PQ f m
  · exact z
  · rw [if_neg z] at h
    exact absurd h (by decide)
theorem pc_no {f : AF} (hf : okF f) {m c : Nat} (h1 : 1 ≤ m) (h6 : m ≤ 6) (h : ¬ 0 ≤ (if c < PQ f m then PP f m c else (-1))) : ¬ c < PQ f m := by
  intro z
  rw [if_pos z] at h
  exact h (pp_nn hf h1 h6 z)
theorem lcmp_0 (x : Int64) : lg_cmp x x = 0 := by simp [lg_cmp]
theorem nI_m1 {q : Nat} (h : q < 2147483648) : ¬ nI q < (-1) := fun z => nI_pos h (Int32.lt_trans z (by decide))
theorem pp_prev {f : AF} (hf : okF f) {m c : Nat} (h1 : 1 ≤ m) (h6 : m ≤ 6) (h0 : 0 < c) (h : c < PQ f m) : (if c - 1 < PQ f m then PP f m (c - 1) else (-1)) ≤ (if c < PQ f m then PP f m c else (-1)) := by
  rw [if_pos h, if_pos (by omega)]
  have h2 := pp_sort hf h1 h6 (k := c - 1) (by omega)
  rw [show c - 1 + 1 = c by omega] at h2
  exact h2
set_option maxHeartbeats 4000000 in
set_option maxRecDepth 100000 in
theorem law_764 {E : gE} {X : gX} {bS nS x y : Nat} {xs : Nat → Int32} {f th : AF} {m : Nat} {car tur pre : Int32} {n : Nat} {k kp : AF} {kq : Nat} {ko : Int32} {sws wm : va_W} {N t cl sl : Nat} {v4 : Int32} (F : gF E X cL_law RL wsL_law (some .boolean) room_1 22) (hm : MWP E x (f, th, m, car, tur, pre, n, k, kp, kq, ko) wm) (hok : OkS N (f, th, m, car, tur, pre, n, k, kp, kq, ko)) (hN : N < 1000) (hcl : cl ≤ 600000) (hsl : sl ≤ 7000000) (kont : ∀ w, MWP E x (f, th, m, car, tur, pre, n, k, kp, kq, ko) w → G E X cl sl 776 [(0, .ref bS), (1, .ref x), (2, .ref y), (3, .int (nI t))] [] ([] ++ (sws ++ w))) : G E X cl sl 764 [(0, .ref bS), (1, .ref x), (2, .ref y), (3, .int (nI t)), (4, .int v4), (7, .long (mDG (f, th, m, car, tur, pre, n, k, kp, kq, ko)))] [] ([] ++ (sws ++ wm)) := by
  have hn : n < 2147483648 := by have := hok.2.2.2.2.2.2.1; omega
  have hm1 : 1 ≤ m := by have := hok.2.2.1.1; omega
  have hm6 : m ≤ 6 := hok.2.2.1.2
  have hp6 : PQ f m ≤ 6 := Nat.le_trans (PQ_m f hm1) hm6
  have hpm : PQ f m ≤ m := PQ_m f hm1
  have hp1 : 1 ≤ PQ f m := PQ_1 f m
  refine g_aload_n F dL_law_764 rfl 1 rfl ?_
  refine g_callM (B := ([] ++ sws)) (wm := wm) F dL_law_765 (m_digest hm hn) rfl gL_law_X4_digest hm.mem.choose_spec rfl kV_X4_digest ⟨by decide, by decide⟩ (by simp only [List.append_assoc]) rfl (by exact Nat.le_of_ble_eq_true rfl) ⟨by show cl + 0 ≤ 600130; omega, by show sl + 0 ≤ 7301080; omega⟩ (fun ov765 V765 hV765 => ?_)
  obtain ⟨rfl, hV765⟩ := hV765
  refine g_ws (ws' := ([] ++ (sws ++ V765))) (by simp only [List.append_assoc]) ?_
  refine g_lload F dL_law_768 5 rfl ?_
  refine g_lcmp F dL_law_770 ?_
  refine g_if_eq_t (tgt := 776) F dL_law_771 (by decide) (lcmp_0 _) ?_
  refine g_lv (L' := [(0, .ref bS), (1, .ref x), (2, .ref y), (3, .int (nI t))]) [0, 1, 2, 3] rfl ?_
  refine g_cs (cells' := cl) (slots' := sl) (by show cl + 0 ≤ cl; omega) (by show sl + 0 ≤ sl; omega) ?_
  exact kont _ hV765
set_option maxHeartbeats 4000000 in
set_option maxRecDepth 100000 in
theorem law_624 {E : gE} {X : gX} {bS nS x y : Nat} {xs : Nat → Int32} {f th : AF} {m : Nat} {car tur pre : Int32} {n : Nat} {k kp : AF} {kq : Nat} {ko : Int32} {sws wm : va_W} {N t cl sl : Nat} {v4 : Int32} (F : gF E X cL_law RL wsL_law (some .boolean) room_1 22) (hm : MWP E x (f, th, m, car, tur, pre, n, k, kp, kq, ko) wm) (hok : OkS N (f, th, m, car, tur, pre, n, k, kp, kq, ko)) (hN : N < 1000) (hcl : cl ≤ 600000) (hsl : sl ≤ 7000000) (kont : ∀ w, MWP E x (f, th, m, car, tur, pre, n, k, kp, kq, ko) w → G E X cl sl 776 [(0, .ref bS), (1, .ref x), (2, .ref y), (3, .int (nI t))] [] ([] ++ (sws ++ w))) : G E X cl sl 624 [(0, .ref bS), (1, .ref x), (2, .ref y), (3, .int (nI t)), (4, .int v4), (7, .long (mDG (f, th, m, car, tur, pre, n, k, kp, kq, ko)))] [] ([] ++ (sws ++ wm)) := by
  have hn : n < 2147483648 := by have := hok.2.2.2.2.2.2.1; omega
  have hm1 : 1 ≤ m := by have := hok.2.2.1.1; omega
  have hm6 : m ≤ 6 := hok.2.2.1.2
  have hp6 : PQ f m ≤ 6 := Nat.le_trans (PQ_m f hm1) hm6
  have hpm : PQ f m ≤ m := PQ_m f hm1
  have hp1 : 1 ≤ PQ f m := PQ_1 f m
  refine g_aload_n F dL_law_624 rfl 1 rfl ?_
  refine g_iconst (v := 4) F dL_law_625 (by decide) ?_
  refine g_callM (B := ([] ++ sws)) (wm := wm) F dL_law_626 (m_count hm 4 (by omega) hn) rfl gL_law_X4_count hm.mem.choose_spec rfl kV_X4_count ⟨by decide, by decide⟩ (by simp only [List.append_assoc]) rfl (by exact Nat.le_of_ble_eq_true rfl) ⟨by show cl + 0 ≤ 600130; omega, by show sl + 0 ≤ 7301080; omega⟩ (fun ov626 V626 hV626 => ?_)
  obtain ⟨rfl, hV626⟩ := hV626
  refine g_ws (ws' := ([] ++ (sws ++ V626))) (by simp only [List.append_assoc]) ?_
  refine g_if_le (tgt := 764) F dL_law_629 (by decide) (fun k629 => ?_) (fun k629 => ?_)
  · skip
    refine g_cs (cells' := cl) (slots' := sl) (by show cl + 0 ≤ cl; omega) (by show sl + 0 ≤ sl; omega) ?_
    exact law_764 (nS := nS) (xs := xs) F hV626 hok hN hcl hsl kont
  · skip
    have hn0 : 0 < n := by have := mt (nI_le0 hn).mpr k629; omega
    obtain ⟨hk1, hk2, hk3, hk4⟩ := hok.2.2.2.2.2.2.2 hn0
    refine g_iconst (v := 0) F dL_law_632 (by decide) ?_
    refine g_istore (L' := [(0, .ref bS), (1, .ref x), (2, .ref y), (3, .int (nI t)), (4, .int v4), (7, .long (mDG (f, th, m, car, tur, pre, n, k, kp, kq, ko))), (18, .int 0)]) F dL_law_633 (by decide) [1, 2, 3, 4, 5, 6, 0] rfl ?_
    refine g_iconst (v := 0) F dL_law_635 (by decide) ?_
    refine g_istore (L' := [(0, .ref bS), (1, .ref x), (2, .ref y), (3, .int (nI t)), (4, .int v4), (7, .long (mDG (f, th, m, car, tur, pre, n, k, kp, kq, ko))), (18, .int 0), (19, .int 0)]) F dL_law_636 (by decide) [1, 2, 3, 4, 5, 6, 7, 0] rfl ?_
    refine g_iconst (v := 0) F dL_law_638 (by decide) ?_
    refine g_istore (L' := [(0, .ref bS), (1, .ref x), (2, .ref y), (3, .int (nI t)), (4, .int v4), (7, .long (mDG (f, th, m, car, tur, pre, n, k, kp, kq, ko))), (18, .int 0), (19, .int 0), (20, .int 0)]) F dL_law_639 (by decide) [1, 2, 3, 4, 5, 6, 7, 8, 0] rfl ?_
    have lp641 : ∀ (n641 i641 : Nat), i641 + n641 = 6 → ∀ (w641 : va_W), (MWP E x (f, th, m, car, tur, pre, n, k, kp, kq, ko) w641) → G E X (cl + 0) (sl + 0) 641 [(0, .ref bS), (1, .ref x), (2, .ref y), (3, .int (nI t)), (4, .int v4), (7, .long (mDG (f, th, m, car, tur, pre, n, k, kp, kq, ko))), (18, .int (csF k i641)), (19, .int 0), (20, .int (nI i641))] [] ([] ++ (sws ++ w641)) := by
      intro n641
      induction n641 with
      | zero =>
        intro i641 hi641 w641  hm641
        have he641 : i641 = 6 := by omega
        rw [he641]
        refine g_iload F dL_law_641 8 rfl ?_
        refine g_bipush (v := 6) F dL_law_643 (by decide) ?_
        refine g_icmp_ge_t (tgt := 698) F dL_law_645 (by decide) (by decide) ?_
        refine g_iconst (v := 0) F dL_law_698 (by decide) ?_
        refine g_istore (L' := [(0, .ref bS), (1, .ref x), (2, .ref y), (3, .int (nI t)), (4, .int v4), (7, .long (mDG (f, th, m, car, tur, pre, n, k, kp, kq, ko))), (18, .int (csF k 6)), (19, .int 0), (20, .int 0)]) F dL_law_699 (by decide) [1, 2, 3, 4, 5, 6, 7, 8, 0] rfl ?_
        have lp701 : ∀ (n701 i701 : Nat), i701 + n701 = 8 → ∀ (w701 : va_W), (MWP E x (f, th, m, car, tur, pre, n, k, kp, kq, ko) w701) → G E X (cl + 0) (sl + 0) 701 [(0, .ref bS), (1, .ref x), (2, .ref y), (3, .int (nI t)), (4, .int v4), (7, .long (mDG (f, th, m, car, tur, pre, n, k, kp, kq, ko))), (18, .int (csF k 6)), (19, .int (mAK k pre i701)), (20, .int (nI i701))] [] ([] ++ (sws ++ w701)) := by
          intro n701
          induction n701 with
          | zero =>
            intro i701 hi701 w701  hm701
            have he701 : i701 = 8 := by omega
            rw [he701]
            refine g_iload F dL_law_701 8 rfl ?_
            refine g_bipush (v := 8) F dL_law_703 (by decide) ?_
            refine g_icmp_ge_t (tgt := 744) F dL_law_705 (by decide) (by decide) ?_
            refine g_iload F dL_law_744 6 rfl ?_
            refine g_bipush (v := 96) F dL_law_746 (by decide) ?_
            refine g_icmp_ne_f (tgt := 762) F dL_law_748 (by decide) (fun z => z (cs_6 hk2 hk3)) ?_
            refine g_iload F dL_law_751 7 rfl ?_
            refine g_aload_n F dL_law_753 rfl 1 rfl ?_
            refine g_bipush (v := 7) F dL_law_754 (by decide) ?_
            refine g_callM (B := ([] ++ sws)) (wm := w701) F dL_law_756 (m_count hm701 7 (by omega) hn) rfl gL_law_X4_count hm701.mem.choose_spec rfl kV_X4_count ⟨by decide, by decide⟩ (by simp only [List.append_assoc]) rfl (by exact Nat.le_of_ble_eq_true rfl) ⟨by show cl + 0 + 0 ≤ 600130; omega, by show sl + 0 + 0 ≤ 7301080; omega⟩ (fun ov756 V756 hV756 => ?_)
            obtain ⟨rfl, hV756⟩ := hV756
            refine g_ws (ws' := ([] ++ (sws ++ V756))) (by simp only [List.append_assoc]) ?_
            refine g_topr (y := mAK k pre 8) (if_neg k629) ?_
            refine g_icmp_eq_t (tgt := 764) F dL_law_759 (by decide) (rfl) ?_
            refine g_lv (L' := [(0, .ref bS), (1, .ref x), (2, .ref y), (3, .int (nI t)), (4, .int v4), (7, .long (mDG (f, th, m, car, tur, pre, n, k, kp, kq, ko)))]) [0, 1, 2, 3, 4, 5] rfl ?_
            refine g_cs (cells' := cl) (slots' := sl) (by show cl + 0 + 0 ≤ cl; omega) (by show sl + 0 + 0 ≤ sl; omega) ?_
            exact law_764 (nS := nS) (xs := xs) F hV756 hok hN hcl hsl kont
          | succ n701 ih701 =>
            intro i701 hi701 w701  hm701
            have hl701 : i701 < 8 := by omega
            refine g_iload F dL_law_701 8 rfl ?_
            refine g_bipush (v := 8) F dL_law_703 (by decide) ?_
            refine g_icmp_ge_f (tgt := 744) F dL_law_705 (by decide) (nle_nI (n := 8) hl701 (by omega)) ?_
            refine g_aload_n F dL_law_708 rfl 1 rfl ?_
            refine g_iload F dL_law_709 8 rfl ?_
            refine g_callM (B := ([] ++ sws)) (wm := w701) F dL_law_711 (m_knots hm701 i701 (by omega) hn0 hn) rfl gL_law_X4_knots hm701.mem.choose_spec rfl kV_X4_knots ⟨by decide, by decide⟩ (by simp only [List.append_assoc]) rfl (by exact Nat.le_of_ble_eq_true rfl) ⟨by show cl + 0 + 0 ≤ 600130; omega, by show sl + 0 + 0 ≤ 7301080; omega⟩ (fun ov711 V711 hV711 => ?_)
            obtain ⟨rfl, hV711⟩ := hV711
            refine g_ws (ws' := ([] ++ (sws ++ V711))) (by simp only [List.append_assoc]) ?_
            refine g_istore (L' := [(0, .ref bS), (1, .ref x), (2, .ref y), (3, .int (nI t)), (4, .int v4), (7, .long (mDG (f, th, m, car, tur, pre, n, k, kp, kq, ko))), (18, .int (csF k 6)), (19, .int (mAK k pre i701)), (20, .int (nI i701)), (21, .int (mKn k pre i701))]) F dL_law_714 (by decide) [1, 2, 3, 4, 5, 6, 7, 8, 9, 0] rfl ?_
            refine g_iload F dL_law_716 9 rfl ?_
            refine g_iconst (v := 1) F dL_law_718 (by decide) ?_
            refine g_icmp_lt_f (tgt := 729) F dL_law_719 (by decide) (kn_lo _ _ _) ?_
            refine g_iload F dL_law_722 9 rfl ?_
            refine g_bipush (v := 12) F dL_law_724 (by decide) ?_
            refine g_icmp_le_t (tgt := 731) F dL_law_726 (by decide) (kn_hi _ _ _) ?_
            refine g_iload F dL_law_731 7 rfl ?_
            refine g_iload F dL_law_733 9 rfl ?_
            refine g_iadd F dL_law_735 ?_
            refine g_istore (L' := [(0, .ref bS), (1, .ref x), (2, .ref y), (3, .int (nI t)), (4, .int v4), (7, .long (mDG (f, th, m, car, tur, pre, n, k, kp, kq, ko))), (18, .int (csF k 6)), (19, .int ((mAK k pre i701) + (mKn k pre i701))), (20, .int (nI i701)), (21, .int (mKn k pre i701))]) F dL_law_736 (by decide) [1, 2, 3, 4, 5, 6, 7, 0, 8, 9] rfl ?_
            refine g_iinc (L' := [(0, .ref bS), (1, .ref x), (2, .ref y), (3, .int (nI t)), (4, .int v4), (7, .long (mDG (f, th, m, car, tur, pre, n, k, kp, kq, ko))), (18, .int (csF k 6)), (19, .int ((mAK k pre i701) + (mKn k pre i701))), (20, .int (nI (i701 + 1))), (21, .int (mKn k pre i701))]) (v := nI (i701 + 1)) F dL_law_738 8 rfl (nI_1 _) (by decide) [1, 2, 3, 4, 5, 6, 7, 8, 0, 9] rfl ?_
            refine g_goto (tgt := 701) F dL_law_741 (by decide) ?_
            refine g_lv (L' := [(0, .ref bS), (1, .ref x), (2, .ref y), (3, .int (nI t)), (4, .int v4), (7, .long (mDG (f, th, m, car, tur, pre, n, k, kp, kq, ko))), (18, .int (csF k 6)), (19, .int ((mAK k pre i701) + (mKn k pre i701))), (20, .int (nI (i701 + 1)))]) [0, 1, 2, 3, 4, 5, 6, 7, 8] rfl ?_
            exact ih701 (i701 + 1) (by omega) V711 hV711
        exact lp701 8 0 (by omega) w641 hm641
      | succ n641 ih641 =>
        intro i641 hi641 w641  hm641
        have hl641 : i641 < 6 := by omega
        refine g_iload F dL_law_641 8 rfl ?_
        refine g_bipush (v := 6) F dL_law_643 (by decide) ?_
        refine g_icmp_ge_f (tgt := 698) F dL_law_645 (by decide) (nle_nI (n := 6) hl641 (by omega)) ?_
        refine g_iload F dL_law_648 6 rfl ?_
        refine g_aload_n F dL_law_650 rfl 1 rfl ?_
        refine g_iload F dL_law_651 8 rfl ?_
        refine g_iconst (v := 1) F dL_law_653 (by decide) ?_
        refine g_callM (B := ([] ++ sws)) (wm := w641) F dL_law_654 (m_thread1 hm641 i641 (by omega) hn) rfl gL_law_X4_thread hm641.mem.choose_spec rfl kV_X4_thread ⟨by decide, by decide⟩ (by simp only [List.append_assoc]) rfl (by exact Nat.le_of_ble_eq_true rfl) ⟨by show cl + 0 + 0 ≤ 600130; omega, by show sl + 0 + 0 ≤ 7301080; omega⟩ (fun ov654 V654 hV654 => ?_)
        obtain ⟨rfl, hV654⟩ := hV654
        refine g_ws (ws' := ([] ++ (sws ++ V654))) (by simp only [List.append_assoc]) ?_
        refine g_topr (y := mCo k (nI i641) 96) (if_neg (by omega)) ?_
        refine g_iadd F dL_law_657 ?_
        refine g_istore (L' := [(0, .ref bS), (1, .ref x), (2, .ref y), (3, .int (nI t)), (4, .int v4), (7, .long (mDG (f, th, m, car, tur, pre, n, k, kp, kq, ko))), (18, .int ((csF k i641) + (mCo k (nI i641) 96))), (19, .int 0), (20, .int (nI i641))]) F dL_law_658 (by decide) [1, 2, 3, 4, 5, 6, 0, 7, 8] rfl ?_
        refine g_aload_n F dL_law_660 rfl 1 rfl ?_
        refine g_iload F dL_law_661 8 rfl ?_
        refine g_iconst (v := 0) F dL_law_663 (by decide) ?_
        refine g_callM (B := ([] ++ sws)) (wm := V654) F dL_law_664 (m_thread0 hV654 i641 (by omega)) rfl gL_law_X4_thread hV654.mem.choose_spec rfl kV_X4_thread ⟨by decide, by decide⟩ (by simp only [List.append_assoc]) rfl (by exact Nat.le_of_ble_eq_true rfl) ⟨by show cl + 0 + 0 + 0 ≤ 600130; omega, by show sl + 0 + 0 + 0 ≤ 7301080; omega⟩ (fun ov664 V664 hV664 => ?_)
        obtain ⟨rfl, hV664⟩ := hV664
        refine g_ws (ws' := ([] ++ (sws ++ V664))) (by simp only [List.append_assoc]) ?_
        refine g_if_lt_f (tgt := 690) F dL_law_667 (by decide) (th_lo hok.2.1 hl641) ?_
        refine g_aload_n F dL_law_670 rfl 1 rfl ?_
        refine g_iload F dL_law_671 8 rfl ?_
        refine g_iconst (v := 1) F dL_law_673 (by decide) ?_
        refine g_callM (B := ([] ++ sws)) (wm := V664) F dL_law_674 (m_thread1 hV664 i641 (by omega) hn) rfl gL_law_X4_thread hV664.mem.choose_spec rfl kV_X4_thread ⟨by decide, by decide⟩ (by simp only [List.append_assoc]) rfl (by exact Nat.le_of_ble_eq_true rfl) ⟨by show cl + 0 + 0 + 0 + 0 ≤ 600130; omega, by show sl + 0 + 0 + 0 + 0 ≤ 7301080; omega⟩ (fun ov674 V674 hV674 => ?_)
        obtain ⟨rfl, hV674⟩ := hV674
        refine g_ws (ws' := ([] ++ (sws ++ V674))) (by simp only [List.append_assoc]) ?_
        refine g_topr (y := mCo k (nI i641) 96) (if_neg (by omega)) ?_
        refine g_if_le (tgt := 692) F dL_law_677 (by decide) (fun k677 => ?_) (fun k677 => ?_)
        · skip
          refine g_iinc (L' := [(0, .ref bS), (1, .ref x), (2, .ref y), (3, .int (nI t)), (4, .int v4), (7, .long (mDG (f, th, m, car, tur, pre, n, k, kp, kq, ko))), (18, .int ((csF k i641) + (mCo k (nI i641) 96))), (19, .int 0), (20, .int (nI (i641 + 1)))]) (v := nI (i641 + 1)) F dL_law_692 8 rfl (nI_1 _) (by decide) [1, 2, 3, 4, 5, 6, 7, 8, 0] rfl ?_
          refine g_goto (tgt := 641) F dL_law_695 (by decide) ?_
          exact ih641 (i641 + 1) (by omega) V674 hV674
        · skip
          refine g_aload_n F dL_law_680 rfl 1 rfl ?_
          refine g_iload F dL_law_681 8 rfl ?_
          refine g_iconst (v := 2) F dL_law_683 (by decide) ?_
          refine g_callM (B := ([] ++ sws)) (wm := V674) F dL_law_684 (m_thread2 hV674 i641 (by omega) hn) rfl gL_law_X4_thread hV674.mem.choose_spec rfl kV_X4_thread ⟨by decide, by decide⟩ (by simp only [List.append_assoc]) rfl (by exact Nat.le_of_ble_eq_true rfl) ⟨by show cl + 0 + 0 + 0 + 0 + 0 ≤ 600130; omega, by show sl + 0 + 0 + 0 + 0 + 0 ≤ 7301080; omega⟩ (fun ov684 V684 hV684 => ?_)
          obtain ⟨rfl, hV684⟩ := hV684
          refine g_ws (ws' := ([] ++ (sws ++ V684))) (by simp only [List.append_assoc]) ?_
          refine g_topr (y := kp i641) (by rw [if_neg (by omega), if_pos (co_no hk3 hk2 hl641 k677)]) ?_
          refine g_if_ge_t (tgt := 692) F dL_law_687 (by decide) (by obtain ⟨v, hv, e⟩ := hk4 i641 (co_no hk3 hk2 hl641 k677); rw [e]; exact nI_pos' (by omega)) ?_
          refine g_iinc (L' := [(0, .ref bS), (1, .ref x), (2, .ref y), (3, .int (nI t)), (4, .int v4), (7, .long (mDG (f, th, m, car, tur, pre, n, k, kp, kq, ko))), (18, .int ((csF k i641) + (mCo k (nI i641) 96))), (19, .int 0), (20, .int (nI (i641 + 1)))]) (v := nI (i641 + 1)) F dL_law_692 8 rfl (nI_1 _) (by decide) [1, 2, 3, 4, 5, 6, 7, 8, 0] rfl ?_
          refine g_goto (tgt := 641) F dL_law_695 (by decide) ?_
          exact ih641 (i641 + 1) (by omega) V684 hV684
    exact lp641 6 0 (by omega) V626 hV626
end MWPS
