/-! Sim: a palette -/
section SIMC
/-- one shade sinks to its place -/
def zSh (s : Int32) : Nat → AF → AF × Nat
  | 0, a => (a, 0)
  | i + 1, a => if s < a i then zSh s i (upd a (i + 1) (a i)) else (a, i + 1)
def zSo (c : Nat → AF) : Nat → AF
  | 0 => fun _ => 0
  | k + 1 => upd (zSh (c (k / 12) (k % 12)) k (zSo c k)).1 (zSh (c (k / 12) (k % 12)) k (zSo c k)).2 (c (k / 12) (k % 12))
theorem zSh_go {s : Int32} {i : Nat} {a : AF} (hi : 0 < i) (h : s < a (i - 1)) : zSh s i a = zSh s (i - 1) (upd a i (a (i - 1))) := by
  obtain ⟨j, rfl⟩ : ∃ j, i = j + 1 := ⟨i - 1, by omega⟩
  rw [Nat.add_sub_cancel] at h ⊢
  rw [zSh, if_pos h]
theorem zSh_stop {s : Int32} {i : Nat} {a : AF} (h : 0 < i → ¬ s < a (i - 1)) : zSh s i a = (a, i) := by
  cases i with
  | zero => rfl
  | succ j =>
    have h := h (Nat.zero_lt_succ j)
    rw [Nat.add_sub_cancel] at h
    rw [zSh, if_neg h]
theorem zSo_1 {c : Nat → AF} {k i : Nat} {a : AF} (h : zSh (c (k / 12) (k % 12)) k (zSo c k) = (a, i)) : zSo c (k + 1) = upd a i (c (k / 12) (k % 12)) := by rw [zSo, h]
/-- the widest box so far, and how wide -/
def zBest (so : AF) (e : Nat → Nat) : Nat → Int32 × Int32
  | 0 => ((-1), 0)
  | k + 1 => if aSpr so e k ≤ (zBest so e k).2 then zBest so e k else (nI k, aSpr so e k)
theorem zBest_pos (so : AF) (e : Nat → Nat) : ∀ n, 0 ≤ (zBest so e n).2
  | 0 => Int32.le_refl _
  | n + 1 => by
    have ih := zBest_pos so e n
    rw [zBest]
    split
    · exact ih
    · rename_i h
      exact Int32.le_trans ih (Int32.le_of_lt (Int32.not_le.mp h))
theorem zBest_ix (so : AF) (e : Nat → Nat) : ∀ n, (zBest so e n).1 = (-1) ∨ ∃ k, k < n ∧ (zBest so e n).1 = nI k ∧ 0 < aSpr so e k
  | 0 => Or.inl rfl
  | n + 1 => by
    have h0 := zBest_pos so e n
    rw [zBest]
    split
    · rcases zBest_ix so e n with h | ⟨k, h1, h2, h3⟩
      · exact Or.inl h
      · exact Or.inr ⟨k, by omega, h2, h3⟩
    · rename_i h
      exact Or.inr ⟨n, by omega, rfl, Int32.lt_of_le_of_lt h0 (Int32.not_le.mp h)⟩
theorem zBest_0 {so : AF} {e : Nat → Nat} {n : Nat} (h : 0 ≤ (zBest so e n).1) : ∃ k, k < n ∧ (zBest so e n).1 = nI k ∧ 0 < aSpr so e k := by
  rcases zBest_ix so e n with h1 | h1
  · rw [h1] at h; exact absurd h (by decide)
  · exact h1
def zFit (so : AF) : Nat → Nat → (Nat → Nat) → (Nat → Nat) × Nat
  | 0, q, e => (e, q)
  | n + 1, q, e => if 0 ≤ (zBest so e q).1 then zFit so n (q + 1) (aSpl e (zBest so e q).1.toNatClampNeg) else (e, q)
theorem zFit_go {so : AF} {n q : Nat} {e : Nat → Nat} {k : Nat} (hn : 0 < n) (hk : k < 2147483648) (h : (zBest so e q).1 = nI k) : zFit so n q e = zFit so (n - 1) (q + 1) (aSpl e k) := by
  obtain ⟨j, rfl⟩ : ∃ j, n = j + 1 := ⟨n - 1, by omega⟩
  rw [zFit, h, if_pos (nI_pos' (show k < 2 ^ 31 by omega)), cl_nI hk]
  rfl
theorem zFit_no {so : AF} {n q : Nat} {e : Nat → Nat} (h : ¬ 0 ≤ (zBest so e q).1) : zFit so n q e = (e, q) := by
  cases n with
  | zero => rfl
  | succ n => rw [zFit, if_neg h]
def spF {α : Type} (b : Nat → α) (k : Nat) (x1 x2 : α) : Nat → α := fun j => if j < k then b j else if j = k then x1 else if j = k + 1 then x2 else b (j - 1)
def zMore (b : Nat → Nat) (k : Nat) : Nat → (Nat → Option Nat)
  | 0 => fun _ => none
  | i + 1 => va_up (zMore b k i) (if i ≤ k then i else i + 1) (some (b i))
theorem zMore_at (b : Nat → Nat) (k : Nat) : ∀ n j, zMore b k n j = if j ≤ k then (if j < n then some (b j) else none) else if j = k + 1 then none else if j ≤ n then some (b (j - 1)) else none
  | 0, j => by
    show none = _
    split
    · rfl
    · split
      · rfl
      · rw [if_neg (by omega)]
  | n + 1, j => by
    have ih := zMore_at b k n j
    show va_up (zMore b k n) _ _ j = _
    by_cases e : j = (if n ≤ k then n else n + 1)
    · subst e
      rw [va_up_self]
      by_cases h : n ≤ k
      · simp only [h, if_true]
        rw [if_pos (by omega)]
      · simp only [h, if_false]
        rw [if_neg (by omega), if_neg (by omega), if_pos (by omega)]
        rfl
    · rw [va_up_ne _ _ e, ih]
      by_cases h : n ≤ k
      · simp only [h, if_true] at e
        by_cases h1 : j ≤ k
        · rw [if_pos h1, if_pos h1]
          by_cases h2 : j < n
          · rw [if_pos h2, if_pos (by omega)]
          · rw [if_neg h2, if_neg (by omega)]
        · rw [if_neg h1, if_neg h1]
          by_cases h2 : j = k + 1
          · rw [if_pos h2, if_pos h2]
          · rw [if_neg h2, if_neg h2, if_neg (by omega), if_neg (by omega)]
      · simp only [h, if_false] at e
        by_cases h1 : j ≤ k
        · rw [if_pos h1, if_pos h1, if_pos (by omega), if_pos (by omega)]
        · rw [if_neg h1, if_neg h1]
          by_cases h2 : j = k + 1
          · rw [if_pos h2, if_pos h2]
          · rw [if_neg h2, if_neg h2]
            by_cases h3 : j ≤ n
            · rw [if_pos h3, if_pos (by omega)]
            · rw [if_neg h3, if_neg (by omega)]
theorem zMore_end (b : Nat → Nat) {k q x1 x2 : Nat} (hk : k < q) : ∀ j, j < q + 1 → va_up (va_up (zMore b k q) k (some x1)) (k + 1) (some x2) j = some (spF b k x1 x2 j) := by
  intro j hj
  unfold spF
  by_cases e2 : j = k + 1
  · subst e2
    rw [va_up_self, if_neg (by omega), if_neg (by omega), if_pos rfl]
  · rw [va_up_ne _ _ e2]
    by_cases e1 : j = k
    · subst e1
      rw [va_up_self, if_neg (by omega), if_pos rfl]
    · rw [va_up_ne _ _ e1, zMore_at]
      by_cases h : j < k
      · rw [if_pos (by omega), if_pos (by omega), if_pos h]
      · rw [if_neg (by omega), if_neg e2, if_pos (by omega), if_neg h, if_neg e1, if_neg e2]
/-- two pieces for one -/
theorem sp_perm {α : Type} (g : Nat → α) (x1 x2 : α) {k q : Nat} (hk : k < q) : (x1 :: x2 :: (List.range q).map g).Perm (g k :: (List.range (q + 1)).map (spF g k x1 x2)) := by
  obtain ⟨m, rfl⟩ : ∃ m, q = k + 1 + m := ⟨q - k - 1, by omega⟩
  have h1 : (List.range (k + 1 + m)).map g = (List.range k).map g ++ g k :: (List.range m).map (fun j => g (k + 1 + j)) := by
    rw [List.range_add, List.map_append, List.range_succ, List.map_append, List.map_map]
    simp
  have h2 : (List.range (k + 1 + m + 1)).map (spF g k x1 x2) = (List.range k).map g ++ x1 :: x2 :: (List.range m).map (fun j => g (k + 1 + j)) := by
    rw [show k + 1 + m + 1 = (k + 1 + 1) + m by omega, List.range_add, List.map_append, List.range_succ, List.map_append, List.range_succ, List.map_append, List.map_map]
    have e1 : (List.range k).map (spF g k x1 x2) = (List.range k).map g := List.map_congr_left (fun j hj => by simp only [spF, if_pos (List.mem_range.mp hj)])
    have e2 : spF g k x1 x2 k = x1 := by simp [spF]
    have e3 : spF g k x1 x2 (k + 1) = x2 := by
      unfold spF
      rw [if_neg (by omega), if_neg (by omega), if_pos rfl]
    have e4 : (List.range m).map (spF g k x1 x2 ∘ (fun x => k + 1 + 1 + x)) = (List.range m).map (fun j => g (k + 1 + j)) := List.map_congr_left (fun j _ => by
      show spF g k x1 x2 (k + 1 + 1 + j) = _
      unfold spF
      rw [if_neg (by omega), if_neg (by omega), if_neg (by omega), show k + 1 + 1 + j - 1 = k + 1 + j by omega])
    rw [e1, e4]
    simp [e2, e3]
  rw [h1, h2]
  have h3 : (x1 :: x2 :: ((List.range k).map g ++ g k :: (List.range m).map (fun j => g (k + 1 + j)))).Perm (g k :: x1 :: x2 :: ((List.range k).map g ++ (List.range m).map (fun j => g (k + 1 + j)))) :=
    ((List.Perm.cons x1 ((List.Perm.cons x2 List.perm_middle).trans (List.Perm.swap _ _ _))).trans (List.Perm.swap _ _ _))
  refine h3.trans (List.Perm.cons _ ?_)
  have h4 : ((List.range k).map g ++ x1 :: x2 :: (List.range m).map (fun j => g (k + 1 + j))).Perm (x1 :: x2 :: ((List.range k).map g ++ (List.range m).map (fun j => g (k + 1 + j)))) :=
    List.perm_middle.trans (List.Perm.cons x1 List.perm_middle)
  exact h4.symm
/-- the boxes of the sorted row, by their ends -/
abbrev bN (e : Nat → Nat) : Nat → Nat := fun j => e (j + 1) - e j
abbrev bC (so : AF) (e : Nat → Nat) : Nat → AF := fun j k => so (e j + k)
theorem box_split {E : gE} {b e : Nat → Nat} {so : AF} {k q n1 n2 : Nat} (hk : k < q) (hm : e k < e (k + 1)) :
    ((n2, .inl (E.2.2, (e (k + 1) - e k) - (e (k + 1) - e k) / 2, .inl (fun j => so (e k + ((e (k + 1) - e k) / 2 + j))))) :: (n1, .inl (E.2.2, (e (k + 1) - e k) / 2 - 0, .inl (fun j => so (e k + (0 + j))))) :: gW E b (bN e) (bC so e) q : va_W).Perm
    ((b k, .inl (E.2.2, bN e k, .inl (bC so e k))) :: gW E (spF b k n1 n2) (bN (aSpl e k)) (bC so (aSpl e k)) (q + 1)) := by
  refine (List.Perm.swap _ _ _).trans ?_
  have h := sp_perm (fun y => ((b y, .inl (E.2.2, bN e y, .inl (bC so e y))) : Nat × va_E)) (n1, .inl (E.2.2, (e (k + 1) - e k) / 2 - 0, .inl (fun j => so (e k + (0 + j))))) (n2, .inl (E.2.2, (e (k + 1) - e k) - (e (k + 1) - e k) / 2, .inl (fun j => so (e k + ((e (k + 1) - e k) / 2 + j))))) hk
  refine h.trans ?_
  have h2 : (List.range (q + 1)).map (spF (fun y => ((b y, .inl (E.2.2, bN e y, .inl (bC so e y))) : Nat × va_E)) k (n1, .inl (E.2.2, (e (k + 1) - e k) / 2 - 0, .inl (fun j => so (e k + (0 + j))))) (n2, .inl (E.2.2, (e (k + 1) - e k) - (e (k + 1) - e k) / 2, .inl (fun j => so (e k + ((e (k + 1) - e k) / 2 + j)))))) = gW E (spF b k n1 n2) (bN (aSpl e k)) (bC so (aSpl e k)) (q + 1) := by
    unfold gW
    refine List.map_congr_left (fun j _ => ?_)
    have hN : ∀ {a a' : Nat} {n n' : Nat} {f f' : AF}, a = a' → n = n' → f = f' → ((a, .inl (E.2.2, n, .inl f)) : Nat × va_E) = (a', .inl (E.2.2, n', .inl f')) := by
      rintro _ _ _ _ _ _ rfl rfl rfl; rfl
    by_cases h1 : j < k
    · simp only [spF, if_pos h1]
      refine hN rfl ?_ ?_
      · show e (j + 1) - e j = aSpl e k (j + 1) - aSpl e k j
        simp only [aSpl]
        rw [if_pos (by omega), if_pos (by omega)]
      · funext x
        show so (e j + x) = so (aSpl e k j + x)
        simp only [aSpl]
        rw [if_pos (by omega)]
    · by_cases h2 : j = k
      · subst h2
        simp only [spF, if_neg (Nat.lt_irrefl j), if_true]
        refine hN rfl ?_ ?_
        · show _ = aSpl e j (j + 1) - aSpl e j j
          simp only [aSpl]
          rw [if_neg (by omega), if_pos (Nat.le_refl j)]
          simp only [if_true]
          omega
        · funext x
          show so (e j + (0 + x)) = so (aSpl e j j + x)
          simp only [aSpl]
          rw [if_pos (Nat.le_refl j), Nat.zero_add]
      · by_cases h3 : j = k + 1
        · subst h3
          simp only [spF, if_neg (show ¬ k + 1 < k by omega), if_neg (show ¬ k + 1 = k by omega), if_true]
          refine hN rfl ?_ ?_
          · show _ = aSpl e k (k + 1 + 1) - aSpl e k (k + 1)
            simp only [aSpl]
            rw [if_neg (show ¬ k + 1 + 1 ≤ k by omega), if_neg (show ¬ k + 1 + 1 = k + 1 by omega), if_neg (show ¬ k + 1 ≤ k by omega)]
            simp only [if_true, Nat.add_sub_cancel]
            omega
          · funext x
            show so (e k + ((e (k + 1) - e k) / 2 + x)) = so (aSpl e k (k + 1) + x)
            simp only [aSpl]
            rw [if_neg (show ¬ k + 1 ≤ k by omega)]
            simp only [if_true]
            rw [Nat.add_assoc]
        · simp only [spF, if_neg h1, if_neg h2, if_neg h3]
          refine hN rfl ?_ ?_
          · show e (j - 1 + 1) - e (j - 1) = aSpl e k (j + 1) - aSpl e k j
            simp only [aSpl]
            rw [if_neg (show ¬ j + 1 ≤ k by omega), if_neg (show ¬ j + 1 = k + 1 by omega), if_neg (show ¬ j ≤ k by omega), if_neg h3, show j + 1 - 1 = j by omega, show j - 1 + 1 = j by omega]
          · funext x
            show so (e (j - 1) + x) = so (aSpl e k j + x)
            simp only [aSpl]
            rw [if_neg (show ¬ j ≤ k by omega), if_neg h3]
  rw [h2]
theorem box_one {E : gE} {q : Nat} {so : AF} : ([(q, .inl (E.2.2, 96, .inl so))] : va_W) = gW E (fun _ => q) (bN aE0) (bC so aE0) 1 := by
  have h : bC so aE0 0 = so := by
    funext x
    show so (0 + x) = so x
    rw [Nat.zero_add]
  show _ = ([(q, .inl (E.2.2, 96, .inl (bC so aE0 0)))] : va_W)
  rw [h]
/-- the means, one behind the other -/
def zMdX (a : AF) (so : AF) (k s : Nat) : Nat → AF
  | 0 => a
  | t + 1 => upd (zMdX a so k s t) k (zMdX a so k s t k + so (s + t))
def zMd (so : AF) (e : Nat → Nat) : Nat → AF
  | 0 => fun _ => 0
  | k + 1 => upd (zMdX (zMd so e k) so k (e k) (e (k + 1) - e k)) k (zMdX (zMd so e k) so k (e k) (e (k + 1) - e k) k / nI (e (k + 1) - e k))
theorem nI_n1 : ¬ (0 : Int32) ≤ (-1) := by decide
theorem d_pos {n : Nat} (h : 0 < n) (hn : n < 2147483648) : ¬ nI n = 0 := fun e => by
  have := (nI_eq (a := n) (b := 0) (show n < 2 ^ 31 by omega) (by omega)).mp e
  omega
theorem ph256 {n1 n2 mo bx s1 s2 old : Nat × va_E} {P P2 : va_W} (B : va_W) (h : (n2 :: n1 :: P).Perm (old :: P2)) : ([n2, n1, mo, bx, s1, s2] ++ (P ++ B)).Perm (([mo, s1, s2] ++ (P2 ++ B)) ++ [bx, old]) := by
  have h1 : ([n2, n1, mo, bx, s1, s2] ++ (P ++ B)).Perm ([mo, bx, s1, s2] ++ ((n2 :: n1 :: P) ++ B)) := by
    refine (psw [n2, n1] [mo, bx, s1, s2] (P ++ B)).trans ?_
    exact List.Perm.refl _
  refine h1.trans ((List.Perm.append_left _ (List.Perm.append_right B h)).trans ?_)
  show (mo :: bx :: s1 :: s2 :: old :: (P2 ++ B)).Perm ((mo :: s1 :: s2 :: (P2 ++ B)) ++ [bx, old])
  refine List.Perm.trans ?_ (List.perm_append_comm (l₁ := [bx, old]) (l₂ := mo :: s1 :: s2 :: (P2 ++ B)))
  exact (pmc (A := [bx, old]) (pmc (A := []) (pmc (A := [old]) (pmc (A := [old]) (pmc (A := []) (List.Perm.refl _))))))
set_option maxHeartbeats 4000000 in
set_option maxRecDepth 100000 in
theorem c_X5_palette (E : gE) (y : Nat) (pa : Nat) (sa : Nat) (kp : Nat) (kk : Nat) (col : Int32) (car : Int32) (tur : Int32) (pre : Int32) (cl : Int32) (ko : Int32) (m : Nat) (r : Nat → Nat) (c : Nat → AF) (hm1 : 1 ≤ m) (hm : m ≤ 6) : CtP E yX5_palette wsX5_palette ({ frames := 1, cells := 18, slots := 1093, locals := 24 }) [.ref y, .int (nI m)] ([(y, .inr (5, [.ref pa, .int col, .int car, .int tur, .int pre, .ref sa, .int cl, .ref kp, .ref kk, .int ko])), (pa, qE E 8 r)] ++ (gW E r (fun _ => 12) c 8 ++ [])) (fun o V => ∃ q : Nat, o = some (.ref q) ∧ V = (q, .inl (E.2.2, (zFit (zSo c 96) (m - 1) 1 aE0).2, .inl (zMd (zSo c 96) (zFit (zSo c 96) (m - 1) 1 aE0).1 (zFit (zSo c 96) (m - 1) 1 aE0).2))) :: ([(y, .inr (5, [.ref pa, .int col, .int car, .int tur, .int pre, .ref sa, .int cl, .ref kp, .ref kk, .int ko])), (pa, qE E 8 r)] ++ (gW E r (fun _ => 12) c 8 ++ []))) := by
  refine CtP.of (cc := cX5_palette) (maxL := 10) (ret := (some (.array .int))) (own := RX5) (L := [(0, .ref y), (1, .int (nI m))]) (by decide) rfl rfl (Nat.le_of_ble_eq_true rfl) rfl ?_
  intro X F hQ
  have i5 : ∀ w ∈ u_ws RX5 TX5 10, w ∈ wsX5_palette := gsub [8, 9, 10, 11, 12, 13, 14, 15, 16, 17] rfl
  refine g_bipush (v := 96) F dX5_palette_0 (by decide) ?_
  refine g_newa (N' := 96) F dX5_palette_2 (List.mem_of_getElem? (i := 1) rfl) (by decide) (rfl) (by omega) (by show 0 + 1 ≤ 18; omega) (by show 0 + 96 ≤ 1093; omega) (fun q2 => g_front ?_)
  refine g_ws (ws' := ([(q2, .inl (E.2.2, 96, .inl (fun _ => 0))), (y, .inr (5, [.ref pa, .int col, .int car, .int tur, .int pre, .ref sa, .int cl, .ref kp, .ref kk, .int ko])), (pa, qE E 8 r)] ++ (gW E r (fun _ => 12) c 8 ++ []))) rfl ?_
  refine g_astore_n (L' := [(0, .ref y), (1, .int (nI m)), (2, .ref q2)]) F dX5_palette_4 rfl (by decide) [1, 2, 0] rfl ?_
  refine g_iconst (v := 0) F dX5_palette_5 (by decide) ?_
  refine g_istore_n (L' := [(0, .ref y), (1, .int (nI m)), (2, .ref q2), (3, .int 0)]) F dX5_palette_6 rfl (by decide) [1, 2, 3, 0] rfl ?_
  have lp7 : ∀ (n7 i7 : Nat), i7 + n7 = 96 → G E X (0 + 1) (0 + 96) 7 [(0, .ref y), (1, .int (nI m)), (2, .ref q2), (3, .int (nI i7))] [] ([(q2, .inl (E.2.2, 96, .inl (zSo c i7))), (y, .inr (5, [.ref pa, .int col, .int car, .int tur, .int pre, .ref sa, .int cl, .ref kp, .ref kk, .int ko])), (pa, qE E 8 r)] ++ (gW E r (fun _ => 12) c 8 ++ [])) := by
    intro n7
    induction n7 with
    | zero =>
      intro i7 hi7
      have he7 : i7 = 96 := by omega
      rw [he7]
      refine g_iload_n F dX5_palette_7 rfl 3 rfl ?_
      refine g_bipush (v := 96) F dX5_palette_8 (by decide) ?_
      refine g_icmp_ge_t (tgt := 76) F dX5_palette_10 (by decide) (by decide) ?_
      refine g_iconst (v := 1) F dX5_palette_76 (by decide) ?_
      refine g_anew (N' := 1) F dX5_palette_77 (List.mem_of_getElem? (i := 3) rfl) (by decide) (rfl) (by omega) (by show 0 + 1 + 1 ≤ 18; omega) (by show 0 + 96 + 1 ≤ 1093; omega) (fun q77 => g_front ?_)
      refine g_ws (ws' := ([(q77, qF E 1 (fun _ => none)), (q2, .inl (E.2.2, 96, .inl (zSo c 96))), (y, .inr (5, [.ref pa, .int col, .int car, .int tur, .int pre, .ref sa, .int cl, .ref kp, .ref kk, .int ko])), (pa, qE E 8 r)] ++ (gW E r (fun _ => 12) c 8 ++ []))) rfl ?_
      refine g_dup F dX5_palette_80 rfl ?_
      refine g_iconst (v := 0) F dX5_palette_81 (by decide) ?_
      refine g_aload_n F dX5_palette_82 rfl 2 rfl ?_
      refine g_aast (k := 0) (ws' := ([(q77, qF E 1 (va_up (fun _ => none) 0 (some q2))), (q2, .inl (E.2.2, 96, .inl (zSo c 96))), (y, .inr (5, [.ref pa, .int col, .int car, .int tur, .int pre, .ref sa, .int cl, .ref kp, .ref kk, .int ko])), (pa, qE E 8 r)] ++ (gW E r (fun _ => 12) c 8 ++ []))) F dX5_palette_83 0 1 rfl rfl (by omega) (by first | decide | omega) rfl ?_
      refine g_perm (ws' := [(q77, qF E 1 (va_up (fun _ => none) 0 (some q2))), (y, .inr (5, [.ref pa, .int col, .int car, .int tur, .int pre, .ref sa, .int cl, .ref kp, .ref kk, .int ko])), (pa, qE E 8 r)] ++ ([(q2, .inl (E.2.2, 96, .inl (zSo c 96)))] ++ (gW E r (fun _ => 12) c 8 ++ []))) (by show List.Perm (_ ++ ((gW E r (fun _ => 12) c 8 ++ []))) _; rw [← List.append_assoc]; exact List.Perm.append_right _ (pmc (A := []) (pmc (A := [_, _]) (pmc (A := []) (pmc (A := []) (List.Perm.nil)))))) ?_
      rw [box_one]
      refine g_ws (ws' := ([(q77, qF E 1 (va_up (fun _ => none) 0 (some q2))), (y, .inr (5, [.ref pa, .int col, .int car, .int tur, .int pre, .ref sa, .int cl, .ref kp, .ref kk, .int ko])), (pa, qE E 8 r)] ++ (gW E (fun _ => q2) (bN aE0) (bC (zSo c 96) aE0) 1 ++ (gW E r (fun _ => 12) c 8 ++ [])))) rfl ?_
      refine g_req (ws' := ([(q77, qE E 1 (fun _ => q2)), (y, .inr (5, [.ref pa, .int col, .int car, .int tur, .int pre, .ref sa, .int cl, .ref kp, .ref kk, .int ko])), (pa, qE E 8 r)] ++ (gW E (fun _ => q2) (bN aE0) (bC (zSo c 96) aE0) 1 ++ (gW E r (fun _ => 12) c 8 ++ [])))) (g := fun j => some ((fun _ => q2) j)) 0 rfl (fun j hj => by rw [Nat.lt_one_iff.mp hj]; rfl) rfl ?_
      refine g_astore_n (L' := [(0, .ref y), (1, .int (nI m)), (2, .ref q2), (3, .ref q77)]) F dX5_palette_84 rfl (by decide) [1, 2, 3, 0] rfl ?_
      have lp85 : ∀ (n85 i85 : Nat), i85 + n85 = m → ∀ (ev bq : Nat → Nat) (bx : Nat), (PA ev i85) → (zFit (zSo c 96) (m - i85) i85 ev = zFit (zSo c 96) (m - 1) 1 aE0) → G E X (0 + 1 + 1 + (i85 - 1) * 3) (0 + 96 + 1 + (i85 - 1) * 198) 85 [(0, .ref y), (1, .int (nI m)), (2, .ref q2), (3, .ref bx)] [] ([(bx, qE E i85 bq), (y, .inr (5, [.ref pa, .int col, .int car, .int tur, .int pre, .ref sa, .int cl, .ref kp, .ref kk, .int ko])), (pa, qE E 8 r)] ++ (gW E bq (bN ev) (bC (zSo c 96) ev) i85 ++ (gW E r (fun _ => 12) c 8 ++ []))) := by
        intro n85
        induction n85 with
        | zero =>
          intro i85 hi85 ev bq  bx  hPA hZ
          have he85 : i85 = m := by omega
          rw [he85] at hPA hZ
          rw [he85]
          refine g_aload_n F dX5_palette_85 rfl 3 rfl ?_
          refine g_alenx (v := nI m) F dX5_palette_86 0 1 rfl rfl rfl ?_
          refine g_iload_n F dX5_palette_87 rfl 1 rfl ?_
          refine g_icmp_ge_t (tgt := 259) F dX5_palette_88 (by decide) (le_nI (Nat.le_refl _) (by omega)) ?_
          have hz : zFit (zSo c 96) (m - 1) 1 aE0 = (ev, m) := by rw [← hZ, Nat.sub_self]; rfl
          have hq6 : m ≤ 6 := by omega
          have hq1 := hPA.1
          refine g_aload_n F dX5_palette_259 rfl 3 rfl ?_
          refine g_alenx (v := nI m) F dX5_palette_260 0 1 rfl rfl rfl ?_
          refine g_newa (N' := m) F dX5_palette_261 (List.mem_of_getElem? (i := 1) rfl) (nI_pos (by omega)) (nI_clamp (by omega)) (by omega) (by show 0 + 1 + 1 + (m - 1) * 3 + 1 ≤ 18; omega) (by show 0 + 96 + 1 + (m - 1) * 198 + m ≤ 1093; omega) (fun q261 => g_front ?_)
          refine g_ws (ws' := ([(q261, .inl (E.2.2, m, .inl (fun _ => 0))), (bx, qE E m bq), (y, .inr (5, [.ref pa, .int col, .int car, .int tur, .int pre, .ref sa, .int cl, .ref kp, .ref kk, .int ko])), (pa, qE E 8 r)] ++ (gW E bq (bN ev) (bC (zSo c 96) ev) m ++ (gW E r (fun _ => 12) c 8 ++ [])))) rfl ?_
          refine g_astore (L' := [(0, .ref y), (1, .int (nI m)), (2, .ref q2), (3, .ref bx), (4, .ref q261)]) F dX5_palette_263 (by decide) [1, 2, 3, 4, 0] rfl ?_
          refine g_iconst (v := 0) F dX5_palette_265 (by decide) ?_
          refine g_istore (L' := [(0, .ref y), (1, .int (nI m)), (2, .ref q2), (3, .ref bx), (4, .ref q261), (5, .int 0)]) F dX5_palette_266 (by decide) [1, 2, 3, 4, 5, 0] rfl ?_
          have lp268 : ∀ (n268 i268 : Nat), i268 + n268 = m → G E X (0 + 1 + 1 + (m - 1) * 3 + 1) (0 + 96 + 1 + (m - 1) * 198 + m) 268 [(0, .ref y), (1, .int (nI m)), (2, .ref q2), (3, .ref bx), (4, .ref q261), (5, .int (nI i268))] [] ([(q261, .inl (E.2.2, m, .inl (zMd (zSo c 96) ev i268))), (bx, qE E m bq), (y, .inr (5, [.ref pa, .int col, .int car, .int tur, .int pre, .ref sa, .int cl, .ref kp, .ref kk, .int ko])), (pa, qE E 8 r)] ++ (gW E bq (bN ev) (bC (zSo c 96) ev) m ++ (gW E r (fun _ => 12) c 8 ++ []))) := by
            intro n268
            induction n268 with
            | zero =>
              intro i268 hi268
              have he268 : i268 = m := by omega
              rw [he268]
              refine g_iload F dX5_palette_268 5 rfl ?_
              refine g_aload F dX5_palette_270 4 rfl ?_
              refine g_alen (v := nI m) F dX5_palette_272 0 rfl rfl ?_
              refine g_icmp_ge_t (tgt := 339) F dX5_palette_273 (by decide) (le_nI (Nat.le_refl _) (by omega)) ?_
              refine g_aload F dX5_palette_339 4 rfl ?_
              refine g_perm (ws' := ([(q261, .inl (E.2.2, m, .inl (zMd (zSo c 96) ev m))), (y, .inr (5, [.ref pa, .int col, .int car, .int tur, .int pre, .ref sa, .int cl, .ref kp, .ref kk, .int ko])), (pa, qE E 8 r)] ++ (gW E r (fun _ => 12) c 8 ++ [])) ++ ([(bx, qE E m bq)] ++ (gW E bq (bN ev) (bC (zSo c 96) ev) m ++ []))) (ps4 (pmc (A := []) (pmc (A := [_, _]) (pmc (A := []) (pmc (A := []) (List.Perm.nil))))) (by simp only [List.append_assoc, List.nil_append, List.append_nil]; exact List.perm_append_comm)) (g_drop ?_)
              refine g_cs (cells' := 18) (slots' := 1093) (by show 0 + 1 + 1 + (m - 1) * 3 + 1 ≤ 18; omega) (by show 0 + 96 + 1 + (m - 1) * 198 + m ≤ 1093; omega) ?_
              exact g_aretP F hQ dX5_palette_341 (Or.inr ⟨_, rfl⟩) (⟨q261, rfl, by rw [hz]; rfl⟩)
            | succ n268 ih268 =>
              intro i268 hi268
              have hl268 : i268 < m := by omega
              have hlt := hPA.2.2.2 i268 hl268
              have hle := PA.le hPA (a := i268 + 1) (by omega)
              refine g_iload F dX5_palette_268 5 rfl ?_
              refine g_aload F dX5_palette_270 4 rfl ?_
              refine g_alen (v := nI m) F dX5_palette_272 0 rfl rfl ?_
              refine g_icmp_ge_f (tgt := 339) F dX5_palette_273 (by decide) (nle_nI hl268 (by omega)) ?_
              refine g_aload_n F dX5_palette_276 rfl 3 rfl ?_
              refine g_iload F dX5_palette_277 5 rfl ?_
              refine g_aald (k := i268) F dX5_palette_279 1 rfl (by omega) (by first | decide | omega) rfl ?_
              refine g_astore (L' := [(0, .ref y), (1, .int (nI m)), (2, .ref q2), (3, .ref bx), (4, .ref q261), (5, .int (nI i268)), (6, .ref (bq i268))]) F dX5_palette_280 (by decide) [1, 2, 3, 4, 5, 6, 0] rfl ?_
              refine g_aload F dX5_palette_282 6 rfl ?_
              refine g_alenG0 (y := i268) F dX5_palette_284 rfl (by omega) ?_
              refine g_topr (y := nI (ev (i268 + 1) - ev i268)) rfl ?_
              refine g_istore (L' := [(0, .ref y), (1, .int (nI m)), (2, .ref q2), (3, .ref bx), (4, .ref q261), (5, .int (nI i268)), (6, .ref (bq i268)), (7, .int (nI (ev (i268 + 1) - ev i268)))]) F dX5_palette_285 (by decide) [1, 2, 3, 4, 5, 6, 7, 0] rfl ?_
              refine g_iconst (v := 0) F dX5_palette_287 (by decide) ?_
              refine g_istore (L' := [(0, .ref y), (1, .int (nI m)), (2, .ref q2), (3, .ref bx), (4, .ref q261), (5, .int (nI i268)), (6, .ref (bq i268)), (7, .int (nI (ev (i268 + 1) - ev i268))), (8, .int 0)]) F dX5_palette_288 (by decide) [1, 2, 3, 4, 5, 6, 7, 8, 0] rfl ?_
              have lp290 : ∀ (n290 i290 : Nat), i290 + n290 = ev (i268 + 1) - ev i268 → G E X (0 + 1 + 1 + (m - 1) * 3 + 1) (0 + 96 + 1 + (m - 1) * 198 + m) 290 [(0, .ref y), (1, .int (nI m)), (2, .ref q2), (3, .ref bx), (4, .ref q261), (5, .int (nI i268)), (6, .ref (bq i268)), (7, .int (nI (ev (i268 + 1) - ev i268))), (8, .int (nI i290))] [] ([(q261, .inl (E.2.2, m, .inl (zMdX (zMd (zSo c 96) ev i268) (zSo c 96) i268 (ev i268) i290))), (bx, qE E m bq), (y, .inr (5, [.ref pa, .int col, .int car, .int tur, .int pre, .ref sa, .int cl, .ref kp, .ref kk, .int ko])), (pa, qE E 8 r)] ++ (gW E bq (bN ev) (bC (zSo c 96) ev) m ++ (gW E r (fun _ => 12) c 8 ++ []))) := by
                intro n290
                induction n290 with
                | zero =>
                  intro i290 hi290
                  have he290 : i290 = ev (i268 + 1) - ev i268 := by omega
                  skip
                  rw [he290]
                  refine g_iload F dX5_palette_290 8 rfl ?_
                  refine g_iload F dX5_palette_292 7 rfl ?_
                  refine g_icmp_ge_t (tgt := 320) F dX5_palette_294 (by decide) (le_nI (Nat.le_refl _) (by omega)) ?_
                  refine g_aload F dX5_palette_320 4 rfl ?_
                  refine g_iload F dX5_palette_322 5 rfl ?_
                  refine g_dup2 F dX5_palette_324 rfl rfl ?_
                  refine g_ialdN (k := i268) F dX5_palette_325 0 rfl (by omega) (by first | decide | omega) ?_
                  refine g_aload_n F dX5_palette_326 rfl 3 rfl ?_
                  refine g_iload F dX5_palette_327 5 rfl ?_
                  refine g_aald (k := i268) F dX5_palette_329 1 rfl (by omega) (by first | decide | omega) rfl ?_
                  refine g_alenG0 (y := i268) F dX5_palette_330 rfl (by omega) ?_
                  refine g_topr (y := nI (ev (i268 + 1) - ev i268)) rfl ?_
                  refine g_idiv F dX5_palette_331 (d_pos (by omega) (by omega)) ?_
                  refine g_iastN (k := i268) (ws' := ([(q261, .inl (E.2.2, m, .inl (upd (zMdX (zMd (zSo c 96) ev i268) (zSo c 96) i268 (ev i268) (ev (i268 + 1) - ev i268)) i268 (((zMdX (zMd (zSo c 96) ev i268) (zSo c 96) i268 (ev i268) (ev (i268 + 1) - ev i268)) i268) / (nI (ev (i268 + 1) - ev i268)))))), (bx, qE E m bq), (y, .inr (5, [.ref pa, .int col, .int car, .int tur, .int pre, .ref sa, .int cl, .ref kp, .ref kk, .int ko])), (pa, qE E 8 r)] ++ (gW E bq (bN ev) (bC (zSo c 96) ev) m ++ (gW E r (fun _ => 12) c 8 ++ [])))) F dX5_palette_332 0 rfl (by omega) (by first | decide | omega) rfl ?_
                  refine g_iinc (L' := [(0, .ref y), (1, .int (nI m)), (2, .ref q2), (3, .ref bx), (4, .ref q261), (5, .int (nI (i268 + 1))), (6, .ref (bq i268)), (7, .int (nI (ev (i268 + 1) - ev i268))), (8, .int (nI (ev (i268 + 1) - ev i268)))]) (v := nI (i268 + 1)) F dX5_palette_333 5 rfl (nI_1 _) (by decide) [1, 2, 3, 4, 5, 0, 6, 7, 8] rfl ?_
                  refine g_goto (tgt := 268) F dX5_palette_336 (by decide) ?_
                  refine g_lv (L' := [(0, .ref y), (1, .int (nI m)), (2, .ref q2), (3, .ref bx), (4, .ref q261), (5, .int (nI (i268 + 1)))]) [0, 1, 2, 3, 4, 5] rfl ?_
                  exact ih268 (i268 + 1) (by omega)
                | succ n290 ih290 =>
                  intro i290 hi290
                  have hl290 : i290 < ev (i268 + 1) - ev i268 := by omega
                  refine g_iload F dX5_palette_290 8 rfl ?_
                  refine g_iload F dX5_palette_292 7 rfl ?_
                  refine g_icmp_ge_f (tgt := 320) F dX5_palette_294 (by decide) (nle_nI hl290 (by omega)) ?_
                  refine g_aload F dX5_palette_297 6 rfl ?_
                  refine g_iload F dX5_palette_299 8 rfl ?_
                  refine g_ialdG0 (y := i268) (k := i290) F dX5_palette_301 rfl (by omega) (hl290) (by show ev (i268 + 1) - ev i268 < 2147483648; omega) ?_
                  refine g_istore (L' := [(0, .ref y), (1, .int (nI m)), (2, .ref q2), (3, .ref bx), (4, .ref q261), (5, .int (nI i268)), (6, .ref (bq i268)), (7, .int (nI (ev (i268 + 1) - ev i268))), (8, .int (nI i290)), (9, .int ((zSo c 96) (ev i268 + i290)))]) F dX5_palette_302 (by decide) [1, 2, 3, 4, 5, 6, 7, 8, 9, 0] rfl ?_
                  refine g_aload F dX5_palette_304 4 rfl ?_
                  refine g_iload F dX5_palette_306 5 rfl ?_
                  refine g_dup2 F dX5_palette_308 rfl rfl ?_
                  refine g_ialdN (k := i268) F dX5_palette_309 0 rfl (by omega) (by first | decide | omega) ?_
                  refine g_iload F dX5_palette_310 9 rfl ?_
                  refine g_iadd F dX5_palette_312 ?_
                  refine g_iastN (k := i268) (ws' := ([(q261, .inl (E.2.2, m, .inl (upd (zMdX (zMd (zSo c 96) ev i268) (zSo c 96) i268 (ev i268) i290) i268 (((zMdX (zMd (zSo c 96) ev i268) (zSo c 96) i268 (ev i268) i290) i268) + ((zSo c 96) (ev i268 + i290)))))), (bx, qE E m bq), (y, .inr (5, [.ref pa, .int col, .int car, .int tur, .int pre, .ref sa, .int cl, .ref kp, .ref kk, .int ko])), (pa, qE E 8 r)] ++ (gW E bq (bN ev) (bC (zSo c 96) ev) m ++ (gW E r (fun _ => 12) c 8 ++ [])))) F dX5_palette_313 0 rfl (by omega) (by first | decide | omega) rfl ?_
                  refine g_iinc (L' := [(0, .ref y), (1, .int (nI m)), (2, .ref q2), (3, .ref bx), (4, .ref q261), (5, .int (nI i268)), (6, .ref (bq i268)), (7, .int (nI (ev (i268 + 1) - ev i268))), (8, .int (nI (i290 + 1))), (9, .int ((zSo c 96) (ev i268 + i290)))]) (v := nI (i290 + 1)) F dX5_palette_314 8 rfl (nI_1 _) (by decide) [1, 2, 3, 4, 5, 6, 7, 8, 0, 9] rfl ?_
                  refine g_goto (tgt := 290) F dX5_palette_317 (by decide) ?_
                  refine g_lv (L' := [(0, .ref y), (1, .int (nI m)), (2, .ref q2), (3, .ref bx), (4, .ref q261), (5, .int (nI i268)), (6, .ref (bq i268)), (7, .int (nI (ev (i268 + 1) - ev i268))), (8, .int (nI (i290 + 1)))]) [0, 1, 2, 3, 4, 5, 6, 7, 8] rfl ?_
                  exact ih290 (i290 + 1) (by omega)
              exact lp290 (ev (i268 + 1) - ev i268) 0 (by omega)
          exact lp268 m 0 (by omega)
        | succ n85 ih85 =>
          intro i85 hi85 ev bq  bx  hPA hZ
          have hl85 : i85 < m := by omega
          refine g_aload_n F dX5_palette_85 rfl 3 rfl ?_
          refine g_alenx (v := nI i85) F dX5_palette_86 0 1 rfl rfl rfl ?_
          refine g_iload_n F dX5_palette_87 rfl 1 rfl ?_
          refine g_icmp_ge_f (tgt := 259) F dX5_palette_88 (by decide) (nle_nI hl85 (by omega)) ?_
          refine g_iconst (v := (-1)) F dX5_palette_91 (by decide) ?_
          refine g_istore (L' := [(0, .ref y), (1, .int (nI m)), (2, .ref q2), (3, .ref bx), (4, .int (-1))]) F dX5_palette_92 (by decide) [1, 2, 3, 4, 0] rfl ?_
          refine g_iconst (v := 0) F dX5_palette_94 (by decide) ?_
          refine g_istore (L' := [(0, .ref y), (1, .int (nI m)), (2, .ref q2), (3, .ref bx), (4, .int (-1)), (5, .int 0)]) F dX5_palette_95 (by decide) [1, 2, 3, 4, 5, 0] rfl ?_
          refine g_iconst (v := 0) F dX5_palette_97 (by decide) ?_
          refine g_istore (L' := [(0, .ref y), (1, .int (nI m)), (2, .ref q2), (3, .ref bx), (4, .int (-1)), (5, .int 0), (6, .int 0)]) F dX5_palette_98 (by decide) [1, 2, 3, 4, 5, 6, 0] rfl ?_
          have lp100 : ∀ (n100 i100 : Nat), i100 + n100 = i85 → G E X (0 + 1 + 1 + (i85 - 1) * 3) (0 + 96 + 1 + (i85 - 1) * 198) 100 [(0, .ref y), (1, .int (nI m)), (2, .ref q2), (3, .ref bx), (4, .int ((zBest (zSo c 96) ev i100).1)), (5, .int ((zBest (zSo c 96) ev i100).2)), (6, .int (nI i100))] [] ([(bx, qE E i85 bq), (y, .inr (5, [.ref pa, .int col, .int car, .int tur, .int pre, .ref sa, .int cl, .ref kp, .ref kk, .int ko])), (pa, qE E 8 r)] ++ (gW E bq (bN ev) (bC (zSo c 96) ev) i85 ++ (gW E r (fun _ => 12) c 8 ++ []))) := by
            intro n100
            induction n100 with
            | zero =>
              intro i100 hi100
              have he100 : i100 = i85 := by omega
              rw [he100]
              refine g_iload F dX5_palette_100 6 rfl ?_
              refine g_aload_n F dX5_palette_102 rfl 3 rfl ?_
              refine g_alenx (v := nI i85) F dX5_palette_103 0 1 rfl rfl rfl ?_
              refine g_icmp_ge_t (tgt := 152) F dX5_palette_104 (by decide) (le_nI (Nat.le_refl _) (by omega)) ?_
              refine g_iload F dX5_palette_152 4 rfl ?_
              refine g_if_ge (tgt := 160) F dX5_palette_154 (by decide) (fun k154 => ?_) (fun k154 => ?_)
              · skip
                obtain ⟨kb, hkb, ekb, hsp⟩ := zBest_0 k154
                rw [ekb]
                have hl2 := PA_two (so := (zSo c 96)) hPA hkb (fun h => by rw [h] at hsp; exact absurd hsp (by decide))
                have hle := PA.le hPA (a := kb + 1) (by omega)
                have hq5 : i85 < 6 := by omega
                refine g_aload_n F dX5_palette_160 rfl 3 rfl ?_
                refine g_alenx (v := nI i85) F dX5_palette_161 0 1 rfl rfl rfl ?_
                refine g_iconst (v := 1) F dX5_palette_162 (by decide) ?_
                refine g_iadd F dX5_palette_163 ?_
                refine g_topr (y := nI (i85 + 1)) (nI_1 _) ?_
                refine g_anew (N' := (i85 + 1)) F dX5_palette_164 (List.mem_of_getElem? (i := 3) rfl) (nI_pos (by omega)) (nI_clamp (by omega)) (by omega) (by show 0 + 1 + 1 + (i85 - 1) * 3 + 1 ≤ 18; omega) (by show 0 + 96 + 1 + (i85 - 1) * 198 + (i85 + 1) ≤ 1093; omega) (fun q164 => g_front ?_)
                refine g_ws (ws' := ([(q164, qF E (i85 + 1) (fun _ => none)), (bx, qE E i85 bq), (y, .inr (5, [.ref pa, .int col, .int car, .int tur, .int pre, .ref sa, .int cl, .ref kp, .ref kk, .int ko])), (pa, qE E 8 r)] ++ (gW E bq (bN ev) (bC (zSo c 96) ev) i85 ++ (gW E r (fun _ => 12) c 8 ++ [])))) rfl ?_
                refine g_astore (L' := [(0, .ref y), (1, .int (nI m)), (2, .ref q2), (3, .ref bx), (4, .int (nI kb)), (5, .int ((zBest (zSo c 96) ev i85).2)), (6, .ref q164)]) F dX5_palette_167 (by decide) [1, 2, 3, 4, 5, 6, 0] rfl ?_
                refine g_iconst (v := 0) F dX5_palette_169 (by decide) ?_
                refine g_istore (L' := [(0, .ref y), (1, .int (nI m)), (2, .ref q2), (3, .ref bx), (4, .int (nI kb)), (5, .int ((zBest (zSo c 96) ev i85).2)), (6, .ref q164), (7, .int 0)]) F dX5_palette_170 (by decide) [1, 2, 3, 4, 5, 6, 7, 0] rfl ?_
                have lp172 : ∀ (n172 i172 : Nat), i172 + n172 = i85 → G E X (0 + 1 + 1 + (i85 - 1) * 3 + 1) (0 + 96 + 1 + (i85 - 1) * 198 + (i85 + 1)) 172 [(0, .ref y), (1, .int (nI m)), (2, .ref q2), (3, .ref bx), (4, .int (nI kb)), (5, .int ((zBest (zSo c 96) ev i85).2)), (6, .ref q164), (7, .int (nI i172))] [] ([(q164, qF E (i85 + 1) (zMore bq kb i172)), (bx, qE E i85 bq), (y, .inr (5, [.ref pa, .int col, .int car, .int tur, .int pre, .ref sa, .int cl, .ref kp, .ref kk, .int ko])), (pa, qE E 8 r)] ++ (gW E bq (bN ev) (bC (zSo c 96) ev) i85 ++ (gW E r (fun _ => 12) c 8 ++ []))) := by
                  intro n172
                  induction n172 with
                  | zero =>
                    intro i172 hi172
                    have he172 : i172 = i85 := by omega
                    rw [he172]
                    refine g_iload F dX5_palette_172 7 rfl ?_
                    refine g_aload_n F dX5_palette_174 rfl 3 rfl ?_
                    refine g_alenx (v := nI i85) F dX5_palette_175 1 1 rfl rfl rfl ?_
                    refine g_icmp_ge_t (tgt := 208) F dX5_palette_176 (by decide) (le_nI (Nat.le_refl _) (by omega)) ?_
                    refine g_aload_n F dX5_palette_208 rfl 3 rfl ?_
                    refine g_iload F dX5_palette_209 4 rfl ?_
                    refine g_aald (k := kb) F dX5_palette_211 1 rfl (by omega) (by first | decide | omega) rfl ?_
                    refine g_alenG0 (y := kb) F dX5_palette_212 rfl (by omega) ?_
                    refine g_topr (y := nI (ev (kb + 1) - ev kb)) rfl ?_
                    refine g_iconst (v := 2) F dX5_palette_213 (by decide) ?_
                    refine g_idiv F dX5_palette_214 (by decide) ?_
                    refine g_topr (y := nI ((ev (kb + 1) - ev kb) / 2)) (pk_div (d := 2) (by omega) (by omega) (by omega)) ?_
                    refine g_istore (L' := [(0, .ref y), (1, .int (nI m)), (2, .ref q2), (3, .ref bx), (4, .int (nI kb)), (5, .int ((zBest (zSo c 96) ev i85).2)), (6, .ref q164), (7, .int (nI ((ev (kb + 1) - ev kb) / 2)))]) F dX5_palette_215 (by decide) [1, 2, 3, 4, 5, 6, 7, 0] rfl ?_
                    refine g_aload F dX5_palette_217 6 rfl ?_
                    refine g_iload F dX5_palette_219 4 rfl ?_
                    refine g_aload_n F dX5_palette_221 rfl 3 rfl ?_
                    refine g_iload F dX5_palette_222 4 rfl ?_
                    refine g_aald (k := kb) F dX5_palette_224 1 rfl (by omega) (by first | decide | omega) rfl ?_
                    refine g_iconst (v := 0) F dX5_palette_225 (by decide) ?_
                    refine g_iload F dX5_palette_226 7 rfl ?_
                    obtain ⟨R228, hR228⟩ := prow1 (E := E) (r := bq) (n := bN ev) (c := bC (zSo c 96) ev) (h := i85) (y := kb) (S := [(q164, qF E (i85 + 1) (zMore bq kb i85)), (bx, qE E i85 bq), (y, .inr (5, [.ref pa, .int col, .int car, .int tur, .int pre, .ref sa, .int cl, .ref kp, .ref kk, .int ko])), (pa, qE E 8 r)]) (B := (gW E r (fun _ => 12) c 8 ++ [])) hkb
                    refine g_callSA (R := R228) F dX5_palette_228 (c_X5_piece E (bq kb) (ev (kb + 1) - ev kb) 0 ((ev (kb + 1) - ev kb) / 2) (bC (zSo c 96) ev kb) (Nat.zero_le _) (by omega) (by omega)) rfl gX5_palette_X5_piece kS_X5_piece ⟨by decide, by decide⟩ hR228 rfl (Nat.le_of_ble_eq_true rfl) ⟨by show 0 + 1 + 1 + (i85 - 1) * 3 + 1 + 1 ≤ 18; omega, by show 0 + 96 + 1 + (i85 - 1) * 198 + (i85 + 1) + 96 ≤ 1093; omega⟩ (fun a228 => ?_)
                    refine g_ws (ws' := ([(a228 0, .inl (E.2.2, ((ev (kb + 1) - ev kb) / 2) - (0), .inl (fun j => (zSo c 96) (ev kb + (0 + j))))), (q164, qF E (i85 + 1) (zMore bq kb i85)), (bx, qE E i85 bq), (y, .inr (5, [.ref pa, .int col, .int car, .int tur, .int pre, .ref sa, .int cl, .ref kp, .ref kk, .int ko])), (pa, qE E 8 r)] ++ (gW E bq (bN ev) (bC (zSo c 96) ev) i85 ++ (gW E r (fun _ => 12) c 8 ++ [])))) rfl ?_
                    refine g_aast (k := kb) (ws' := ([(a228 0, .inl (E.2.2, ((ev (kb + 1) - ev kb) / 2) - (0), .inl (fun j => (zSo c 96) (ev kb + (0 + j))))), (q164, qF E (i85 + 1) (va_up (zMore bq kb i85) kb (some (a228 0)))), (bx, qE E i85 bq), (y, .inr (5, [.ref pa, .int col, .int car, .int tur, .int pre, .ref sa, .int cl, .ref kp, .ref kk, .int ko])), (pa, qE E 8 r)] ++ (gW E bq (bN ev) (bC (zSo c 96) ev) i85 ++ (gW E r (fun _ => 12) c 8 ++ [])))) F dX5_palette_231 1 0 rfl rfl (by omega) (by first | decide | omega) rfl ?_
                    refine g_aload F dX5_palette_232 6 rfl ?_
                    refine g_iload F dX5_palette_234 4 rfl ?_
                    refine g_iconst (v := 1) F dX5_palette_236 (by decide) ?_
                    refine g_iadd F dX5_palette_237 ?_
                    refine g_topr (y := nI (kb + 1)) (nI_1 _) ?_
                    refine g_aload_n F dX5_palette_238 rfl 3 rfl ?_
                    refine g_iload F dX5_palette_239 4 rfl ?_
                    refine g_aald (k := kb) F dX5_palette_241 2 rfl (by omega) (by first | decide | omega) rfl ?_
                    refine g_iload F dX5_palette_242 7 rfl ?_
                    refine g_aload_n F dX5_palette_244 rfl 3 rfl ?_
                    refine g_iload F dX5_palette_245 4 rfl ?_
                    refine g_aald (k := kb) F dX5_palette_247 2 rfl (by omega) (by first | decide | omega) rfl ?_
                    refine g_alenG0 (y := kb) F dX5_palette_248 rfl (by omega) ?_
                    refine g_topr (y := nI (ev (kb + 1) - ev kb)) rfl ?_
                    obtain ⟨R249, hR249⟩ := prow1 (E := E) (r := bq) (n := bN ev) (c := bC (zSo c 96) ev) (h := i85) (y := kb) (S := [(a228 0, .inl (E.2.2, ((ev (kb + 1) - ev kb) / 2) - (0), .inl (fun j => (zSo c 96) (ev kb + (0 + j))))), (q164, qF E (i85 + 1) (va_up (zMore bq kb i85) kb (some (a228 0)))), (bx, qE E i85 bq), (y, .inr (5, [.ref pa, .int col, .int car, .int tur, .int pre, .ref sa, .int cl, .ref kp, .ref kk, .int ko])), (pa, qE E 8 r)]) (B := (gW E r (fun _ => 12) c 8 ++ [])) hkb
                    refine g_callSA (R := R249) F dX5_palette_249 (c_X5_piece E (bq kb) (ev (kb + 1) - ev kb) ((ev (kb + 1) - ev kb) / 2) (ev (kb + 1) - ev kb) (bC (zSo c 96) ev kb) (by omega) (Nat.le_refl _) (by omega)) rfl gX5_palette_X5_piece kS_X5_piece ⟨by decide, by decide⟩ hR249 rfl (Nat.le_of_ble_eq_true rfl) ⟨by show 0 + 1 + 1 + (i85 - 1) * 3 + 1 + 1 + 1 ≤ 18; omega, by show 0 + 96 + 1 + (i85 - 1) * 198 + (i85 + 1) + 96 + 96 ≤ 1093; omega⟩ (fun a249 => ?_)
                    refine g_ws (ws' := ([(a249 0, .inl (E.2.2, (ev (kb + 1) - ev kb) - ((ev (kb + 1) - ev kb) / 2), .inl (fun j => (zSo c 96) (ev kb + ((ev (kb + 1) - ev kb) / 2 + j))))), (a228 0, .inl (E.2.2, ((ev (kb + 1) - ev kb) / 2) - (0), .inl (fun j => (zSo c 96) (ev kb + (0 + j))))), (q164, qF E (i85 + 1) (va_up (zMore bq kb i85) kb (some (a228 0)))), (bx, qE E i85 bq), (y, .inr (5, [.ref pa, .int col, .int car, .int tur, .int pre, .ref sa, .int cl, .ref kp, .ref kk, .int ko])), (pa, qE E 8 r)] ++ (gW E bq (bN ev) (bC (zSo c 96) ev) i85 ++ (gW E r (fun _ => 12) c 8 ++ [])))) rfl ?_
                    refine g_aast (k := kb + 1) (ws' := ([(a249 0, .inl (E.2.2, (ev (kb + 1) - ev kb) - ((ev (kb + 1) - ev kb) / 2), .inl (fun j => (zSo c 96) (ev kb + ((ev (kb + 1) - ev kb) / 2 + j))))), (a228 0, .inl (E.2.2, ((ev (kb + 1) - ev kb) / 2) - (0), .inl (fun j => (zSo c 96) (ev kb + (0 + j))))), (q164, qF E (i85 + 1) (va_up (va_up (zMore bq kb i85) kb (some (a228 0))) (kb + 1) (some (a249 0)))), (bx, qE E i85 bq), (y, .inr (5, [.ref pa, .int col, .int car, .int tur, .int pre, .ref sa, .int cl, .ref kp, .ref kk, .int ko])), (pa, qE E 8 r)] ++ (gW E bq (bN ev) (bC (zSo c 96) ev) i85 ++ (gW E r (fun _ => 12) c 8 ++ [])))) F dX5_palette_252 2 0 rfl rfl (by omega) (by first | decide | omega) rfl ?_
                    refine g_aload F dX5_palette_253 6 rfl ?_
                    refine g_astore_n (L' := [(0, .ref y), (1, .int (nI m)), (2, .ref q2), (3, .ref q164), (4, .int (nI kb)), (5, .int ((zBest (zSo c 96) ev i85).2)), (6, .ref q164), (7, .int (nI ((ev (kb + 1) - ev kb) / 2)))]) F dX5_palette_255 rfl (by decide) [1, 2, 3, 0, 4, 5, 6, 7] rfl ?_
                    obtain hbs := box_split (E := E) (b := bq) (e := ev) (so := (zSo c 96)) (k := kb) (q := i85) (n1 := a228 0) (n2 := a249 0) hkb (hPA.2.2.2 kb hkb)
                    refine g_perm (ws' := ([(q164, qF E (i85 + 1) (va_up (va_up (zMore bq kb i85) kb (some (a228 0))) (kb + 1) (some (a249 0)))), (y, .inr (5, [.ref pa, .int col, .int car, .int tur, .int pre, .ref sa, .int cl, .ref kp, .ref kk, .int ko])), (pa, qE E 8 r)] ++ (gW E (spF bq kb (a228 0) (a249 0)) (bN (aSpl ev kb)) (bC (zSo c 96) (aSpl ev kb)) (i85 + 1) ++ (gW E r (fun _ => 12) c 8 ++ []))) ++ [(bx, qE E i85 bq), (bq kb, .inl (E.2.2, bN ev kb, .inl (bC (zSo c 96) ev kb)))]) (ph256 (gW E r (fun _ => 12) c 8 ++ []) hbs) (g_drop ?_)
                    refine g_req (ws' := ([(q164, qE E (i85 + 1) (spF bq kb (a228 0) (a249 0))), (y, .inr (5, [.ref pa, .int col, .int car, .int tur, .int pre, .ref sa, .int cl, .ref kp, .ref kk, .int ko])), (pa, qE E 8 r)] ++ (gW E (spF bq kb (a228 0) (a249 0)) (bN (aSpl ev kb)) (bC (zSo c 96) (aSpl ev kb)) (i85 + 1) ++ (gW E r (fun _ => 12) c 8 ++ [])))) (g := fun j => some (spF bq kb (a228 0) (a249 0) j)) 0 rfl (zMore_end bq hkb) rfl ?_
                    refine g_goto (tgt := 85) F dX5_palette_256 (by decide) ?_
                    refine g_lv (L' := [(0, .ref y), (1, .int (nI m)), (2, .ref q2), (3, .ref q164)]) [0, 1, 2, 3] rfl ?_
                    refine g_cs (cells' := (0 + 1 + 1 + ((i85 + 1) - 1) * 3)) (slots' := (0 + 96 + 1 + ((i85 + 1) - 1) * 198)) (by show 0 + 1 + 1 + (i85 - 1) * 3 + 1 + 1 + 1 ≤ 0 + 1 + 1 + ((i85 + 1) - 1) * 3; omega) (by show 0 + 96 + 1 + (i85 - 1) * 198 + (i85 + 1) + 96 + 96 ≤ 0 + 96 + 1 + ((i85 + 1) - 1) * 198; omega) ?_
                    exact ih85 (i85 + 1) (by omega) (aSpl ev kb) (spF bq kb (a228 0) (a249 0)) q164 (PA_spl hPA hkb hl2) (by rw [← hZ, zFit_go (by omega) (by omega) ekb]; rfl)
                  | succ n172 ih172 =>
                    intro i172 hi172
                    have hl172 : i172 < i85 := by omega
                    refine g_iload F dX5_palette_172 7 rfl ?_
                    refine g_aload_n F dX5_palette_174 rfl 3 rfl ?_
                    refine g_alenx (v := nI i85) F dX5_palette_175 1 1 rfl rfl rfl ?_
                    refine g_icmp_ge_f (tgt := 208) F dX5_palette_176 (by decide) (nle_nI hl172 (by omega)) ?_
                    refine g_aload F dX5_palette_179 6 rfl ?_
                    refine g_iload F dX5_palette_181 7 rfl ?_
                    refine g_iload F dX5_palette_183 4 rfl ?_
                    have jn197 : G E X (0 + 1 + 1 + (i85 - 1) * 3 + 1) (0 + 96 + 1 + (i85 - 1) * 198 + (i85 + 1)) 197 [(0, .ref y), (1, .int (nI m)), (2, .ref q2), (3, .ref bx), (4, .int (nI kb)), (5, .int ((zBest (zSo c 96) ev i85).2)), (6, .ref q164), (7, .int (nI i172))] [.int (nI (if i172 ≤ kb then i172 else i172 + 1)), .ref q164] ([(q164, qF E (i85 + 1) (zMore bq kb i172)), (bx, qE E i85 bq), (y, .inr (5, [.ref pa, .int col, .int car, .int tur, .int pre, .ref sa, .int cl, .ref kp, .ref kk, .int ko])), (pa, qE E 8 r)] ++ (gW E bq (bN ev) (bC (zSo c 96) ev) i85 ++ (gW E r (fun _ => 12) c 8 ++ []))) := by
                      refine g_aload_n F dX5_palette_197 rfl 3 rfl ?_
                      refine g_iload F dX5_palette_198 7 rfl ?_
                      refine g_aald (k := i172) F dX5_palette_200 1 rfl (by omega) (by first | decide | omega) rfl ?_
                      refine g_aast (k := if i172 ≤ kb then i172 else i172 + 1) (ws' := ([(q164, qF E (i85 + 1) (va_up (zMore bq kb i172) (if i172 ≤ kb then i172 else i172 + 1) (some (bq i172)))), (bx, qE E i85 bq), (y, .inr (5, [.ref pa, .int col, .int car, .int tur, .int pre, .ref sa, .int cl, .ref kp, .ref kk, .int ko])), (pa, qE E 8 r)] ++ (gW E bq (bN ev) (bC (zSo c 96) ev) i85 ++ (gW E r (fun _ => 12) c 8 ++ [])))) F dX5_palette_201 0 _ rfl (seg_at hl172) (by split <;> omega) (by first | decide | omega) rfl ?_
                      refine g_iinc (L' := [(0, .ref y), (1, .int (nI m)), (2, .ref q2), (3, .ref bx), (4, .int (nI kb)), (5, .int ((zBest (zSo c 96) ev i85).2)), (6, .ref q164), (7, .int (nI (i172 + 1)))]) (v := nI (i172 + 1)) F dX5_palette_202 7 rfl (nI_1 _) (by decide) [1, 2, 3, 4, 5, 6, 7, 0] rfl ?_
                      refine g_goto (tgt := 172) F dX5_palette_205 (by decide) ?_
                      exact ih172 (i172 + 1) (by omega)
                    refine g_icmp_gt (tgt := 193) F dX5_palette_185 (by decide) (fun k185 => ?_) (fun k185 => ?_)
                    · skip
                      refine g_iload F dX5_palette_193 7 rfl ?_
                      refine g_iconst (v := 1) F dX5_palette_195 (by decide) ?_
                      refine g_iadd F dX5_palette_196 ?_
                      refine g_topr (y := nI (i172 + 1)) (nI_1 _) ?_
                      exact g_topr (by first | exact congrArg nI (if_pos (Nat.not_lt.mp (mt (nI_ltI (by omega) (by omega)).mpr k185))).symm | exact congrArg nI (if_neg (Nat.not_le.mpr ((nI_ltI (by omega) (by omega)).mp k185))).symm) jn197
                    · skip
                      refine g_iload F dX5_palette_188 7 rfl ?_
                      refine g_goto (tgt := 197) F dX5_palette_190 (by decide) ?_
                      exact g_topr (by first | exact congrArg nI (if_pos (Nat.not_lt.mp (mt (nI_ltI (by omega) (by omega)).mpr k185))).symm | exact congrArg nI (if_neg (Nat.not_le.mpr ((nI_ltI (by omega) (by omega)).mp k185))).symm) jn197
                exact lp172 i85 0 (by omega)
              · skip
                refine g_goto (tgt := 259) F dX5_palette_157 (by decide) ?_
                have hz : zFit (zSo c 96) (m - 1) 1 aE0 = (ev, i85) := by rw [← hZ]; exact zFit_no k154
                have hq6 : i85 ≤ 6 := by omega
                have hq1 := hPA.1
                refine g_aload_n F dX5_palette_259 rfl 3 rfl ?_
                refine g_alenx (v := nI i85) F dX5_palette_260 0 1 rfl rfl rfl ?_
                refine g_newa (N' := i85) F dX5_palette_261 (List.mem_of_getElem? (i := 1) rfl) (nI_pos (by omega)) (nI_clamp (by omega)) (by omega) (by show 0 + 1 + 1 + (i85 - 1) * 3 + 1 ≤ 18; omega) (by show 0 + 96 + 1 + (i85 - 1) * 198 + i85 ≤ 1093; omega) (fun q261 => g_front ?_)
                refine g_ws (ws' := ([(q261, .inl (E.2.2, i85, .inl (fun _ => 0))), (bx, qE E i85 bq), (y, .inr (5, [.ref pa, .int col, .int car, .int tur, .int pre, .ref sa, .int cl, .ref kp, .ref kk, .int ko])), (pa, qE E 8 r)] ++ (gW E bq (bN ev) (bC (zSo c 96) ev) i85 ++ (gW E r (fun _ => 12) c 8 ++ [])))) rfl ?_
                refine g_astore (L' := [(0, .ref y), (1, .int (nI m)), (2, .ref q2), (3, .ref bx), (4, .ref q261), (5, .int ((zBest (zSo c 96) ev i85).2)), (6, .int (nI i85))]) F dX5_palette_263 (by decide) [1, 2, 3, 4, 0, 5, 6] rfl ?_
                refine g_iconst (v := 0) F dX5_palette_265 (by decide) ?_
                refine g_istore (L' := [(0, .ref y), (1, .int (nI m)), (2, .ref q2), (3, .ref bx), (4, .ref q261), (5, .int 0), (6, .int (nI i85))]) F dX5_palette_266 (by decide) [1, 2, 3, 4, 5, 0, 6] rfl ?_
                have lp268 : ∀ (n268 i268 : Nat), i268 + n268 = i85 → G E X (0 + 1 + 1 + (i85 - 1) * 3 + 1) (0 + 96 + 1 + (i85 - 1) * 198 + i85) 268 [(0, .ref y), (1, .int (nI m)), (2, .ref q2), (3, .ref bx), (4, .ref q261), (5, .int (nI i268))] [] ([(q261, .inl (E.2.2, i85, .inl (zMd (zSo c 96) ev i268))), (bx, qE E i85 bq), (y, .inr (5, [.ref pa, .int col, .int car, .int tur, .int pre, .ref sa, .int cl, .ref kp, .ref kk, .int ko])), (pa, qE E 8 r)] ++ (gW E bq (bN ev) (bC (zSo c 96) ev) i85 ++ (gW E r (fun _ => 12) c 8 ++ []))) := by
                  intro n268
                  induction n268 with
                  | zero =>
                    intro i268 hi268
                    have he268 : i268 = i85 := by omega
                    rw [he268]
                    refine g_iload F dX5_palette_268 5 rfl ?_
                    refine g_aload F dX5_palette_270 4 rfl ?_
                    refine g_alen (v := nI i85) F dX5_palette_272 0 rfl rfl ?_
                    refine g_icmp_ge_t (tgt := 339) F dX5_palette_273 (by decide) (le_nI (Nat.le_refl _) (by omega)) ?_
                    refine g_aload F dX5_palette_339 4 rfl ?_
                    refine g_perm (ws' := ([(q261, .inl (E.2.2, i85, .inl (zMd (zSo c 96) ev i85))), (y, .inr (5, [.ref pa, .int col, .int car, .int tur, .int pre, .ref sa, .int cl, .ref kp, .ref kk, .int ko])), (pa, qE E 8 r)] ++ (gW E r (fun _ => 12) c 8 ++ [])) ++ ([(bx, qE E i85 bq)] ++ (gW E bq (bN ev) (bC (zSo c 96) ev) i85 ++ []))) (ps4 (pmc (A := []) (pmc (A := [_, _]) (pmc (A := []) (pmc (A := []) (List.Perm.nil))))) (by simp only [List.append_assoc, List.nil_append, List.append_nil]; exact List.perm_append_comm)) (g_drop ?_)
                    refine g_cs (cells' := 18) (slots' := 1093) (by show 0 + 1 + 1 + (i85 - 1) * 3 + 1 ≤ 18; omega) (by show 0 + 96 + 1 + (i85 - 1) * 198 + i85 ≤ 1093; omega) ?_
                    exact g_aretP F hQ dX5_palette_341 (Or.inr ⟨_, rfl⟩) (⟨q261, rfl, by rw [hz]; rfl⟩)
                  | succ n268 ih268 =>
                    intro i268 hi268
                    have hl268 : i268 < i85 := by omega
                    have hlt := hPA.2.2.2 i268 hl268
                    have hle := PA.le hPA (a := i268 + 1) (by omega)
                    refine g_iload F dX5_palette_268 5 rfl ?_
                    refine g_aload F dX5_palette_270 4 rfl ?_
                    refine g_alen (v := nI i85) F dX5_palette_272 0 rfl rfl ?_
                    refine g_icmp_ge_f (tgt := 339) F dX5_palette_273 (by decide) (nle_nI hl268 (by omega)) ?_
                    refine g_aload_n F dX5_palette_276 rfl 3 rfl ?_
                    refine g_iload F dX5_palette_277 5 rfl ?_
                    refine g_aald (k := i268) F dX5_palette_279 1 rfl (by omega) (by first | decide | omega) rfl ?_
                    refine g_astore (L' := [(0, .ref y), (1, .int (nI m)), (2, .ref q2), (3, .ref bx), (4, .ref q261), (5, .int (nI i268)), (6, .ref (bq i268))]) F dX5_palette_280 (by decide) [1, 2, 3, 4, 5, 6, 0] rfl ?_
                    refine g_aload F dX5_palette_282 6 rfl ?_
                    refine g_alenG0 (y := i268) F dX5_palette_284 rfl (by omega) ?_
                    refine g_topr (y := nI (ev (i268 + 1) - ev i268)) rfl ?_
                    refine g_istore (L' := [(0, .ref y), (1, .int (nI m)), (2, .ref q2), (3, .ref bx), (4, .ref q261), (5, .int (nI i268)), (6, .ref (bq i268)), (7, .int (nI (ev (i268 + 1) - ev i268)))]) F dX5_palette_285 (by decide) [1, 2, 3, 4, 5, 6, 7, 0] rfl ?_
                    refine g_iconst (v := 0) F dX5_palette_287 (by decide) ?_
                    refine g_istore (L' := [(0, .ref y), (1, .int (nI m)), (2, .ref q2), (3, .ref bx), (4, .ref q261), (5, .int (nI i268)), (6, .ref (bq i268)), (7, .int (nI (ev (i268 + 1) - ev i268))), (8, .int 0)]) F dX5_palette_288 (by decide) [1, 2, 3, 4, 5, 6, 7, 8, 0] rfl ?_
                    have lp290 : ∀ (n290 i290 : Nat), i290 + n290 = ev (i268 + 1) - ev i268 → G E X (0 + 1 + 1 + (i85 - 1) * 3 + 1) (0 + 96 + 1 + (i85 - 1) * 198 + i85) 290 [(0, .ref y), (1, .int (nI m)), (2, .ref q2), (3, .ref bx), (4, .ref q261), (5, .int (nI i268)), (6, .ref (bq i268)), (7, .int (nI (ev (i268 + 1) - ev i268))), (8, .int (nI i290))] [] ([(q261, .inl (E.2.2, i85, .inl (zMdX (zMd (zSo c 96) ev i268) (zSo c 96) i268 (ev i268) i290))), (bx, qE E i85 bq), (y, .inr (5, [.ref pa, .int col, .int car, .int tur, .int pre, .ref sa, .int cl, .ref kp, .ref kk, .int ko])), (pa, qE E 8 r)] ++ (gW E bq (bN ev) (bC (zSo c 96) ev) i85 ++ (gW E r (fun _ => 12) c 8 ++ []))) := by
                      intro n290
                      induction n290 with
                      | zero =>
                        intro i290 hi290
                        have he290 : i290 = ev (i268 + 1) - ev i268 := by omega
                        skip
                        rw [he290]
                        refine g_iload F dX5_palette_290 8 rfl ?_
                        refine g_iload F dX5_palette_292 7 rfl ?_
                        refine g_icmp_ge_t (tgt := 320) F dX5_palette_294 (by decide) (le_nI (Nat.le_refl _) (by omega)) ?_
                        refine g_aload F dX5_palette_320 4 rfl ?_
                        refine g_iload F dX5_palette_322 5 rfl ?_
                        refine g_dup2 F dX5_palette_324 rfl rfl ?_
                        refine g_ialdN (k := i268) F dX5_palette_325 0 rfl (by omega) (by first | decide | omega) ?_
                        refine g_aload_n F dX5_palette_326 rfl 3 rfl ?_
                        refine g_iload F dX5_palette_327 5 rfl ?_
                        refine g_aald (k := i268) F dX5_palette_329 1 rfl (by omega) (by first | decide | omega) rfl ?_
                        refine g_alenG0 (y := i268) F dX5_palette_330 rfl (by omega) ?_
                        refine g_topr (y := nI (ev (i268 + 1) - ev i268)) rfl ?_
                        refine g_idiv F dX5_palette_331 (d_pos (by omega) (by omega)) ?_
                        refine g_iastN (k := i268) (ws' := ([(q261, .inl (E.2.2, i85, .inl (upd (zMdX (zMd (zSo c 96) ev i268) (zSo c 96) i268 (ev i268) (ev (i268 + 1) - ev i268)) i268 (((zMdX (zMd (zSo c 96) ev i268) (zSo c 96) i268 (ev i268) (ev (i268 + 1) - ev i268)) i268) / (nI (ev (i268 + 1) - ev i268)))))), (bx, qE E i85 bq), (y, .inr (5, [.ref pa, .int col, .int car, .int tur, .int pre, .ref sa, .int cl, .ref kp, .ref kk, .int ko])), (pa, qE E 8 r)] ++ (gW E bq (bN ev) (bC (zSo c 96) ev) i85 ++ (gW E r (fun _ => 12) c 8 ++ [])))) F dX5_palette_332 0 rfl (by omega) (by first | decide | omega) rfl ?_
                        refine g_iinc (L' := [(0, .ref y), (1, .int (nI m)), (2, .ref q2), (3, .ref bx), (4, .ref q261), (5, .int (nI (i268 + 1))), (6, .ref (bq i268)), (7, .int (nI (ev (i268 + 1) - ev i268))), (8, .int (nI (ev (i268 + 1) - ev i268)))]) (v := nI (i268 + 1)) F dX5_palette_333 5 rfl (nI_1 _) (by decide) [1, 2, 3, 4, 5, 0, 6, 7, 8] rfl ?_
                        refine g_goto (tgt := 268) F dX5_palette_336 (by decide) ?_
                        refine g_lv (L' := [(0, .ref y), (1, .int (nI m)), (2, .ref q2), (3, .ref bx), (4, .ref q261), (5, .int (nI (i268 + 1)))]) [0, 1, 2, 3, 4, 5] rfl ?_
                        exact ih268 (i268 + 1) (by omega)
                      | succ n290 ih290 =>
                        intro i290 hi290
                        have hl290 : i290 < ev (i268 + 1) - ev i268 := by omega
                        refine g_iload F dX5_palette_290 8 rfl ?_
                        refine g_iload F dX5_palette_292 7 rfl ?_
                        refine g_icmp_ge_f (tgt := 320) F dX5_palette_294 (by decide) (nle_nI hl290 (by omega)) ?_
                        refine g_aload F dX5_palette_297 6 rfl ?_
                        refine g_iload F dX5_palette_299 8 rfl ?_
                        refine g_ialdG0 (y := i268) (k := i290) F dX5_palette_301 rfl (by omega) (hl290) (by show ev (i268 + 1) - ev i268 < 2147483648; omega) ?_
                        refine g_istore (L' := [(0, .ref y), (1, .int (nI m)), (2, .ref q2), (3, .ref bx), (4, .ref q261), (5, .int (nI i268)), (6, .ref (bq i268)), (7, .int (nI (ev (i268 + 1) - ev i268))), (8, .int (nI i290)), (9, .int ((zSo c 96) (ev i268 + i290)))]) F dX5_palette_302 (by decide) [1, 2, 3, 4, 5, 6, 7, 8, 9, 0] rfl ?_
                        refine g_aload F dX5_palette_304 4 rfl ?_
                        refine g_iload F dX5_palette_306 5 rfl ?_
                        refine g_dup2 F dX5_palette_308 rfl rfl ?_
                        refine g_ialdN (k := i268) F dX5_palette_309 0 rfl (by omega) (by first | decide | omega) ?_
                        refine g_iload F dX5_palette_310 9 rfl ?_
                        refine g_iadd F dX5_palette_312 ?_
                        refine g_iastN (k := i268) (ws' := ([(q261, .inl (E.2.2, i85, .inl (upd (zMdX (zMd (zSo c 96) ev i268) (zSo c 96) i268 (ev i268) i290) i268 (((zMdX (zMd (zSo c 96) ev i268) (zSo c 96) i268 (ev i268) i290) i268) + ((zSo c 96) (ev i268 + i290)))))), (bx, qE E i85 bq), (y, .inr (5, [.ref pa, .int col, .int car, .int tur, .int pre, .ref sa, .int cl, .ref kp, .ref kk, .int ko])), (pa, qE E 8 r)] ++ (gW E bq (bN ev) (bC (zSo c 96) ev) i85 ++ (gW E r (fun _ => 12) c 8 ++ [])))) F dX5_palette_313 0 rfl (by omega) (by first | decide | omega) rfl ?_
                        refine g_iinc (L' := [(0, .ref y), (1, .int (nI m)), (2, .ref q2), (3, .ref bx), (4, .ref q261), (5, .int (nI i268)), (6, .ref (bq i268)), (7, .int (nI (ev (i268 + 1) - ev i268))), (8, .int (nI (i290 + 1))), (9, .int ((zSo c 96) (ev i268 + i290)))]) (v := nI (i290 + 1)) F dX5_palette_314 8 rfl (nI_1 _) (by decide) [1, 2, 3, 4, 5, 6, 7, 8, 0, 9] rfl ?_
                        refine g_goto (tgt := 290) F dX5_palette_317 (by decide) ?_
                        refine g_lv (L' := [(0, .ref y), (1, .int (nI m)), (2, .ref q2), (3, .ref bx), (4, .ref q261), (5, .int (nI i268)), (6, .ref (bq i268)), (7, .int (nI (ev (i268 + 1) - ev i268))), (8, .int (nI (i290 + 1)))]) [0, 1, 2, 3, 4, 5, 6, 7, 8] rfl ?_
                        exact ih290 (i290 + 1) (by omega)
                    exact lp290 (ev (i268 + 1) - ev i268) 0 (by omega)
                refine g_lv (L' := [(0, .ref y), (1, .int (nI m)), (2, .ref q2), (3, .ref bx), (4, .ref q261), (5, .int 0)]) [0, 1, 2, 3, 4, 5] rfl ?_
                exact lp268 i85 0 (by omega)
            | succ n100 ih100 =>
              intro i100 hi100
              have hl100 : i100 < i85 := by omega
              have hlt := hPA.2.2.2 i100 hl100
              have hle := PA.le hPA (a := i100 + 1) (by omega)
              refine g_iload F dX5_palette_100 6 rfl ?_
              refine g_aload_n F dX5_palette_102 rfl 3 rfl ?_
              refine g_alenx (v := nI i85) F dX5_palette_103 0 1 rfl rfl rfl ?_
              refine g_icmp_ge_f (tgt := 152) F dX5_palette_104 (by decide) (nle_nI hl100 (by omega)) ?_
              refine g_aload_n F dX5_palette_107 rfl 3 rfl ?_
              refine g_iload F dX5_palette_108 6 rfl ?_
              refine g_aald (k := i100) F dX5_palette_110 0 rfl (by omega) (by first | decide | omega) rfl ?_
              refine g_aload_n F dX5_palette_111 rfl 3 rfl ?_
              refine g_iload F dX5_palette_112 6 rfl ?_
              refine g_aald (k := i100) F dX5_palette_114 0 rfl (by omega) (by first | decide | omega) rfl ?_
              refine g_alenG0 (y := i100) F dX5_palette_115 rfl (by omega) ?_
              refine g_topr (y := nI (ev (i100 + 1) - ev i100)) rfl ?_
              refine g_iconst (v := 1) F dX5_palette_116 (by decide) ?_
              refine g_isub F dX5_palette_117 ?_
              refine g_topr (y := nI (ev (i100 + 1) - ev i100 - 1)) (pk_sub (b := 1) (by have := hPA.2.2.2 i100 hl100; omega)) ?_
              refine g_ialdG0 (y := i100) (k := ev (i100 + 1) - ev i100 - 1) F dX5_palette_118 rfl (by omega) (by show ev (i100 + 1) - ev i100 - 1 < ev (i100 + 1) - ev i100; omega) (by show ev (i100 + 1) - ev i100 < 2147483648; omega) ?_
              refine g_aload_n F dX5_palette_119 rfl 3 rfl ?_
              refine g_iload F dX5_palette_120 6 rfl ?_
              refine g_aald (k := i100) F dX5_palette_122 0 rfl (by omega) (by first | decide | omega) rfl ?_
              refine g_iconst (v := 0) F dX5_palette_123 (by decide) ?_
              refine g_ialdG0 (y := i100) (k := 0) F dX5_palette_124 rfl (by omega) (by show 0 < ev (i100 + 1) - ev i100; omega) (by show ev (i100 + 1) - ev i100 < 2147483648; omega) ?_
              refine g_isub F dX5_palette_125 ?_
              refine g_topr (y := aSpr (zSo c 96) ev i100) (by unfold aSpr bC; rw [show ev i100 + (ev (i100 + 1) - ev i100 - 1) = ev (i100 + 1) - 1 by have := hPA.2.2.2 i100 hl100; omega]; rfl) ?_
              refine g_istore (L' := [(0, .ref y), (1, .int (nI m)), (2, .ref q2), (3, .ref bx), (4, .int ((zBest (zSo c 96) ev i100).1)), (5, .int ((zBest (zSo c 96) ev i100).2)), (6, .int (nI i100)), (7, .int (aSpr (zSo c 96) ev i100))]) F dX5_palette_126 (by decide) [1, 2, 3, 4, 5, 6, 7, 0] rfl ?_
              refine g_iload F dX5_palette_128 7 rfl ?_
              refine g_iload F dX5_palette_130 5 rfl ?_
              refine g_icmp_gt (tgt := 138) F dX5_palette_132 (by decide) (fun k132 => ?_) (fun k132 => ?_)
              · skip
                refine g_iload F dX5_palette_138 6 rfl ?_
                refine g_istore (L' := [(0, .ref y), (1, .int (nI m)), (2, .ref q2), (3, .ref bx), (4, .int (nI i100)), (5, .int ((zBest (zSo c 96) ev i100).2)), (6, .int (nI i100)), (7, .int (aSpr (zSo c 96) ev i100))]) F dX5_palette_140 (by decide) [1, 2, 3, 4, 0, 5, 6, 7] rfl ?_
                refine g_iload F dX5_palette_142 7 rfl ?_
                refine g_istore (L' := [(0, .ref y), (1, .int (nI m)), (2, .ref q2), (3, .ref bx), (4, .int (nI i100)), (5, .int (aSpr (zSo c 96) ev i100)), (6, .int (nI i100)), (7, .int (aSpr (zSo c 96) ev i100))]) F dX5_palette_144 (by decide) [1, 2, 3, 4, 5, 0, 6, 7] rfl ?_
                refine g_iinc (L' := [(0, .ref y), (1, .int (nI m)), (2, .ref q2), (3, .ref bx), (4, .int (nI i100)), (5, .int (aSpr (zSo c 96) ev i100)), (6, .int (nI (i100 + 1))), (7, .int (aSpr (zSo c 96) ev i100))]) (v := nI (i100 + 1)) F dX5_palette_146 6 rfl (nI_1 _) (by decide) [1, 2, 3, 4, 5, 6, 0, 7] rfl ?_
                refine g_goto (tgt := 100) F dX5_palette_149 (by decide) ?_
                refine g_lv (L' := [(0, .ref y), (1, .int (nI m)), (2, .ref q2), (3, .ref bx), (4, .int (nI i100)), (5, .int (aSpr (zSo c 96) ev i100)), (6, .int (nI (i100 + 1)))]) [0, 1, 2, 3, 4, 5, 6] rfl ?_
                have q := ih100 (i100 + 1) (by omega)
                simp only [zBest] at q
                first
                  | rw [if_neg (Int32.not_le.mpr k132)] at q
                  | rw [if_pos (Int32.not_lt.mp k132)] at q
                exact q
              · skip
                refine g_goto (tgt := 146) F dX5_palette_135 (by decide) ?_
                refine g_iinc (L' := [(0, .ref y), (1, .int (nI m)), (2, .ref q2), (3, .ref bx), (4, .int ((zBest (zSo c 96) ev i100).1)), (5, .int ((zBest (zSo c 96) ev i100).2)), (6, .int (nI (i100 + 1))), (7, .int (aSpr (zSo c 96) ev i100))]) (v := nI (i100 + 1)) F dX5_palette_146 6 rfl (nI_1 _) (by decide) [1, 2, 3, 4, 5, 6, 0, 7] rfl ?_
                refine g_goto (tgt := 100) F dX5_palette_149 (by decide) ?_
                refine g_lv (L' := [(0, .ref y), (1, .int (nI m)), (2, .ref q2), (3, .ref bx), (4, .int ((zBest (zSo c 96) ev i100).1)), (5, .int ((zBest (zSo c 96) ev i100).2)), (6, .int (nI (i100 + 1)))]) [0, 1, 2, 3, 4, 5, 6] rfl ?_
                have q := ih100 (i100 + 1) (by omega)
                simp only [zBest] at q
                first
                  | rw [if_neg (Int32.not_le.mpr k132)] at q
                  | rw [if_pos (Int32.not_lt.mp k132)] at q
                exact q
          exact lp100 i85 0 (by omega)
      refine g_cs (cells' := (0 + 1 + 1 + (1 - 1) * 3)) (slots' := (0 + 96 + 1 + (1 - 1) * 198)) (by show 0 + 1 + 1 ≤ 0 + 1 + 1 + (1 - 1) * 3; omega) (by show 0 + 96 + 1 ≤ 0 + 96 + 1 + (1 - 1) * 198; omega) ?_
      exact lp85 (m - 1) 1 (by omega) aE0 (fun _ => q2) q77 PA_0 rfl
    | succ n7 ih7 =>
      intro i7 hi7
      have hl7 : i7 < 96 := by omega
      refine g_iload_n F dX5_palette_7 rfl 3 rfl ?_
      refine g_bipush (v := 96) F dX5_palette_8 (by decide) ?_
      refine g_icmp_ge_f (tgt := 76) F dX5_palette_10 (by decide) (nle_nI (n := 96) hl7 (by omega)) ?_
      refine g_aload_n F dX5_palette_13 rfl 0 rfl ?_
      refine g_get F dX5_palette_14 1 rfl rfl i5 0 (by decide) rfl (List.mem_of_getElem? (i := 2) rfl) ?_
      refine g_iload_n F dX5_palette_17 rfl 3 rfl ?_
      refine g_bipush (v := 12) F dX5_palette_18 (by decide) ?_
      refine g_idiv F dX5_palette_20 (by decide) ?_
      refine g_topr (y := nI (i7 / 12)) (pk_div (d := 12) (by omega) (by omega) (by omega)) ?_
      refine g_aald (k := i7 / 12) F dX5_palette_21 2 rfl (by omega) (by first | decide | omega) rfl ?_
      refine g_iload_n F dX5_palette_22 rfl 3 rfl ?_
      refine g_bipush (v := 12) F dX5_palette_23 (by decide) ?_
      refine g_irem (v := nI (i7 % 12)) F dX5_palette_25 (by decide) ((pk_rem (d := 12) (by omega) (by omega) (by omega)).symm) ?_
      refine g_ialdG0 (y := i7 / 12) (k := i7 % 12) F dX5_palette_26 rfl (by omega) (by show _ < _; first | decide | omega) (by show _ < _; first | decide | omega) ?_
      refine g_istore (L' := [(0, .ref y), (1, .int (nI m)), (2, .ref q2), (3, .int (nI i7)), (4, .int (c (i7 / 12) (i7 % 12)))]) F dX5_palette_27 (by decide) [1, 2, 3, 4, 0] rfl ?_
      refine g_iload_n F dX5_palette_29 rfl 3 rfl ?_
      refine g_istore (L' := [(0, .ref y), (1, .int (nI m)), (2, .ref q2), (3, .int (nI i7)), (4, .int (c (i7 / 12) (i7 % 12))), (5, .int (nI i7))]) F dX5_palette_30 (by decide) [1, 2, 3, 4, 5, 0] rfl ?_
      have lp32 : ∀ (n32 i32 : Nat), i32 + n32 = i7 → ∀ (av : AF), (zSh (c (i7 / 12) (i7 % 12)) (i7 - i32) av = zSh (c (i7 / 12) (i7 % 12)) i7 (zSo c i7)) → G E X (0 + 1) (0 + 96) 32 [(0, .ref y), (1, .int (nI m)), (2, .ref q2), (3, .int (nI i7)), (4, .int (c (i7 / 12) (i7 % 12))), (5, .int (nI (i7 - i32)))] [] ([(q2, .inl (E.2.2, 96, .inl av)), (y, .inr (5, [.ref pa, .int col, .int car, .int tur, .int pre, .ref sa, .int cl, .ref kp, .ref kk, .int ko])), (pa, qE E 8 r)] ++ (gW E r (fun _ => 12) c 8 ++ [])) := by
        intro n32
        induction n32 with
        | zero =>
          intro i32 hi32 av  ha
          have he32 : i32 = i7 := by omega
          rw [he32] at ha
          rw [he32]
          refine g_iload F dX5_palette_32 5 rfl ?_
          refine g_if_le_t (tgt := 64) F dX5_palette_34 (by decide) (by rw [Nat.sub_self]; decide) ?_
          refine g_aload_n F dX5_palette_64 rfl 2 rfl ?_
          refine g_iload F dX5_palette_65 5 rfl ?_
          refine g_iload F dX5_palette_67 4 rfl ?_
          refine g_iastN (k := i7 - i7) (ws' := ([(q2, .inl (E.2.2, 96, .inl (upd av (i7 - i7) (c (i7 / 12) (i7 % 12))))), (y, .inr (5, [.ref pa, .int col, .int car, .int tur, .int pre, .ref sa, .int cl, .ref kp, .ref kk, .int ko])), (pa, qE E 8 r)] ++ (gW E r (fun _ => 12) c 8 ++ []))) F dX5_palette_69 0 rfl (by omega) (by first | decide | omega) rfl ?_
          refine g_iinc (L' := [(0, .ref y), (1, .int (nI m)), (2, .ref q2), (3, .int (nI (i7 + 1))), (4, .int (c (i7 / 12) (i7 % 12))), (5, .int (nI (i7 - i7)))]) (v := nI (i7 + 1)) F dX5_palette_70 3 rfl (nI_1 _) (by decide) [1, 2, 3, 0, 4, 5] rfl ?_
          refine g_goto (tgt := 7) F dX5_palette_73 (by decide) ?_
          refine g_lv (L' := [(0, .ref y), (1, .int (nI m)), (2, .ref q2), (3, .int (nI (i7 + 1)))]) [0, 1, 2, 3] rfl ?_
          have q := ih7 (i7 + 1) (by omega)
          first
            | rw [zSo_1 (ha.symm.trans (zSh_stop (fun _ => fun h => absurd (Int32.lt_of_lt_of_le h k45) Int32.lt_irrefl)))] at q
            | rw [zSo_1 (ha.symm.trans (zSh_stop (fun h => absurd h (by omega))))] at q
          exact q
        | succ n32 ih32 =>
          intro i32 hi32 av  ha
          have hl32 : i32 < i7 := by omega
          refine g_iload F dX5_palette_32 5 rfl ?_
          refine g_if_le_f (tgt := 64) F dX5_palette_34 (by decide) (fun h => absurd ((nI_le0 (by omega)).mp h) (by omega)) ?_
          refine g_aload_n F dX5_palette_37 rfl 2 rfl ?_
          refine g_iload F dX5_palette_38 5 rfl ?_
          refine g_iconst (v := 1) F dX5_palette_40 (by decide) ?_
          refine g_isub F dX5_palette_41 ?_
          refine g_topr (y := nI (i7 - i32 - 1)) (pk_sub (b := 1) (by omega)) ?_
          refine g_ialdN (k := i7 - i32 - 1) F dX5_palette_42 0 rfl (by omega) (by first | decide | omega) ?_
          refine g_iload F dX5_palette_43 4 rfl ?_
          refine g_icmp_le (tgt := 64) F dX5_palette_45 (by decide) (fun k45 => ?_) (fun k45 => ?_)
          · skip
            refine g_aload_n F dX5_palette_64 rfl 2 rfl ?_
            refine g_iload F dX5_palette_65 5 rfl ?_
            refine g_iload F dX5_palette_67 4 rfl ?_
            refine g_iastN (k := i7 - i32) (ws' := ([(q2, .inl (E.2.2, 96, .inl (upd av (i7 - i32) (c (i7 / 12) (i7 % 12))))), (y, .inr (5, [.ref pa, .int col, .int car, .int tur, .int pre, .ref sa, .int cl, .ref kp, .ref kk, .int ko])), (pa, qE E 8 r)] ++ (gW E r (fun _ => 12) c 8 ++ []))) F dX5_palette_69 0 rfl (by omega) (by first | decide | omega) rfl ?_
            refine g_iinc (L' := [(0, .ref y), (1, .int (nI m)), (2, .ref q2), (3, .int (nI (i7 + 1))), (4, .int (c (i7 / 12) (i7 % 12))), (5, .int (nI (i7 - i32)))]) (v := nI (i7 + 1)) F dX5_palette_70 3 rfl (nI_1 _) (by decide) [1, 2, 3, 0, 4, 5] rfl ?_
            refine g_goto (tgt := 7) F dX5_palette_73 (by decide) ?_
            refine g_lv (L' := [(0, .ref y), (1, .int (nI m)), (2, .ref q2), (3, .int (nI (i7 + 1)))]) [0, 1, 2, 3] rfl ?_
            have q := ih7 (i7 + 1) (by omega)
            first
              | rw [zSo_1 (ha.symm.trans (zSh_stop (fun _ => fun h => absurd (Int32.lt_of_lt_of_le h k45) Int32.lt_irrefl)))] at q
              | rw [zSo_1 (ha.symm.trans (zSh_stop (fun h => absurd h (by omega))))] at q
            exact q
          · skip
            refine g_aload_n F dX5_palette_48 rfl 2 rfl ?_
            refine g_iload F dX5_palette_49 5 rfl ?_
            refine g_aload_n F dX5_palette_51 rfl 2 rfl ?_
            refine g_iload F dX5_palette_52 5 rfl ?_
            refine g_iconst (v := 1) F dX5_palette_54 (by decide) ?_
            refine g_isub F dX5_palette_55 ?_
            refine g_topr (y := nI (i7 - i32 - 1)) (pk_sub (b := 1) (by omega)) ?_
            refine g_ialdN (k := i7 - i32 - 1) F dX5_palette_56 0 rfl (by omega) (by first | decide | omega) ?_
            refine g_iastN (k := i7 - i32) (ws' := ([(q2, .inl (E.2.2, 96, .inl (upd av (i7 - i32) (av (i7 - i32 - 1))))), (y, .inr (5, [.ref pa, .int col, .int car, .int tur, .int pre, .ref sa, .int cl, .ref kp, .ref kk, .int ko])), (pa, qE E 8 r)] ++ (gW E r (fun _ => 12) c 8 ++ []))) F dX5_palette_57 0 rfl (by omega) (by first | decide | omega) rfl ?_
            refine g_iinc (L' := [(0, .ref y), (1, .int (nI m)), (2, .ref q2), (3, .int (nI i7)), (4, .int (c (i7 / 12) (i7 % 12))), (5, .int (nI (i7 - (i32 + 1))))]) (v := nI (i7 - (i32 + 1))) F dX5_palette_58 5 rfl ((add_neg1 _).trans ((pk_sub (b := 1) (by omega)).trans (congrArg nI (by omega)))) (by decide) [1, 2, 3, 4, 5, 0] rfl ?_
            refine g_goto (tgt := 32) F dX5_palette_61 (by decide) ?_
            exact ih32 (i32 + 1) (by omega) (upd av (i7 - i32) (av (i7 - i32 - 1))) (by rw [← ha, zSh_go (by omega) (Int32.not_le.mp k45), Nat.sub_sub])
      exact lp32 i7 0 (by omega) (zSo c i7) (by rw [Nat.sub_zero])
  exact lp7 96 0 (by omega)
end SIMC
