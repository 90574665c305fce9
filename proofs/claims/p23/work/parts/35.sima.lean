/-! Sim: pieces, runs, sums, counts -/
section SIMA
def zPc (f : AF) (i : Nat) : Nat → AF
  | 0 => fun _ => 0
  | k + 1 => upd (zPc f i k) k (f (i + k))
theorem zPc_at (f : AF) (i : Nat) : ∀ n k, k < n → zPc f i n k = f (i + k)
  | n + 1, k, h => by
    rw [zPc]
    by_cases e : k = n
    · subst e; rw [pk_us]
    · rw [pk_un e]; exact zPc_at f i n k (by omega)
/-- the runs ahead of a column: colours and lengths, how many numbers -/
def zRun (g : AF) : Nat → AF × Nat
  | 0 => (fun _ => 0, 0)
  | x + 1 => if 0 < (zRun g x).2 ∧ (zRun g x).1 ((zRun g x).2 - 2) = g x ∧ (zRun g x).1 ((zRun g x).2 - 1) < 9 then (upd (zRun g x).1 ((zRun g x).2 - 1) ((zRun g x).1 ((zRun g x).2 - 1) + 1), (zRun g x).2) else (upd (upd (zRun g x).1 (zRun g x).2 (g x)) ((zRun g x).2 + 1) 1, (zRun g x).2 + 2)
theorem zRun_n (g : AF) : ∀ x, (zRun g x).2 ≤ 2 * x ∧ ((zRun g x).2 = 0 ∨ 2 ≤ (zRun g x).2)
  | 0 => ⟨Nat.le_refl _, Or.inl rfl⟩
  | x + 1 => by
    have ih := zRun_n g x
    rw [zRun]
    split
    · exact ⟨by show (zRun g x).2 ≤ _; omega, ih.2⟩
    · exact ⟨by show (zRun g x).2 + 2 ≤ _; omega, Or.inr (by show 2 ≤ (zRun g x).2 + 2; omega)⟩
theorem zRun_y {g : AF} {x : Nat} (h1 : 0 < (zRun g x).2) (h2 : (zRun g x).1 ((zRun g x).2 - 2) = g x) (h3 : (zRun g x).1 ((zRun g x).2 - 1) < 9) : zRun g (x + 1) = (upd (zRun g x).1 ((zRun g x).2 - 1) ((zRun g x).1 ((zRun g x).2 - 1) + 1), (zRun g x).2) := by
  rw [zRun, if_pos ⟨h1, h2, h3⟩]
theorem zRun_no {g : AF} {x : Nat} (h : ¬ (0 < (zRun g x).2 ∧ (zRun g x).1 ((zRun g x).2 - 2) = g x ∧ (zRun g x).1 ((zRun g x).2 - 1) < 9)) : zRun g (x + 1) = (upd (upd (zRun g x).1 (zRun g x).2 (g x)) ((zRun g x).2 + 1) 1, (zRun g x).2 + 2) := by
  rw [zRun, if_neg h]
def zOffX (c d : Nat → AF) (pal : AF) (y : Nat) (a : Int32) : Nat → Int32
  | 0 => a
  | x + 1 => zOffX c d pal y a x + sAbs (pal (d y x).toNatClampNeg - c y x)
def zOff (c d : Nat → AF) (pal : AF) : Nat → Int32
  | 0 => 0
  | y + 1 => zOffX c d pal y (zOff c d pal y) 12
def zCelX (d : Nat → AF) (v : Int32) (y : Nat) (a : Int32) : Nat → Int32
  | 0 => a
  | x + 1 => zCelX d v y a x + if d y x = v then 1 else 0
def zCel (d : Nat → AF) (v : Int32) : Nat → Int32
  | 0 => 0
  | y + 1 => zCelX d v y (zCel d v y) 12
noncomputable def zKn (d : Nat → AF) (pre : Int32) (y : Nat) : Int32 := if pre = 0 then nI ((zRun (d y) 12).2 / 2) else if y = 0 then nI ((zRun (d y) 12).2 / 2) else if (∀ x, x < 12 → d y x = d (y - 1) x) then 1 else nI ((zRun (d y) 12).2 / 2)
noncomputable def zAK (d : Nat → AF) (pre : Int32) : Nat → Int32
  | 0 => 0
  | y + 1 => zAK d pre y + zKn d pre y
/-- everything before an index holds, then one more -/
theorem all_s {p : Nat → Prop} {n : Nat} (h : ∀ k, k < n → p k) (hn : p n) : ∀ k, k < n + 1 → p k := by
  intro k hk
  by_cases e : k = n
  · rw [e]; exact hn
  · exact h k (by omega)
theorem nI_le0 {n : Nat} (hn : n < 2147483648) : nI n ≤ 0 ↔ n = 0 := by
  constructor
  · intro h
    rcases Nat.eq_zero_or_pos n with e | e
    · exact e
    · exact absurd h (nle_nI (n := n) (i := 0) e hn)
  · rintro rfl
    exact Int32.le_refl _
set_option maxHeartbeats 4000000 in
set_option maxRecDepth 100000 in
theorem c_X5_piece (E : gE) (u : Nat) (n : Nat) (i : Nat) (j : Nat) (f : AF) (hi : i ≤ j) (hj : j ≤ n) (hn : n ≤ 96) : CtA E yX5_piece wsX5_piece ({ frames := 0, cells := 1, slots := 96, locals := 0 }) [.ref u, .int (nI i), .int (nI j)] [(u, .inl (E.2.2, n, .inl f))] (fun a => some (.ref (a 0))) (fun a => [((a 0), .inl (E.2.2, (j - i), .inl (fun k => f (i + k))))]) := by
  refine CtP.of (cc := cX5_piece) (maxL := 5) (ret := (some (.array .int))) (own := RX5) (L := [(0, .ref u), (1, .int (nI i)), (2, .int (nI j))]) (by decide) rfl rfl (Nat.le_of_ble_eq_true rfl) rfl ?_
  intro X F hQ
  refine g_iload_n F dX5_piece_0 rfl 2 rfl ?_
  refine g_iload_n F dX5_piece_1 rfl 1 rfl ?_
  refine g_isub F dX5_piece_2 ?_
  refine g_topr (y := nI (j - i)) (pk_sub hi) ?_
  refine g_newa (N' := (j - i)) F dX5_piece_3 (List.mem_of_getElem? (i := 1) rfl) (nI_pos (by omega)) (nI_clamp (by omega)) (by omega) (by show 0 + 1 ≤ 1; omega) (by show 0 + (j - i) ≤ 96; omega) (fun q3 => g_front ?_)
  refine g_ws (ws' := [(q3, .inl (E.2.2, (j - i), .inl (fun _ => 0))), (u, .inl (E.2.2, n, .inl f))]) rfl ?_
  refine g_astore_n (L' := [(0, .ref u), (1, .int (nI i)), (2, .int (nI j)), (3, .ref q3)]) F dX5_piece_5 rfl (by decide) [1, 2, 3, 0] rfl ?_
  refine g_iload_n F dX5_piece_6 rfl 1 rfl ?_
  refine g_istore (L' := [(0, .ref u), (1, .int (nI i)), (2, .int (nI j)), (3, .ref q3), (4, .int (nI i))]) F dX5_piece_7 (by decide) [1, 2, 3, 4, 0] rfl ?_
  have lp9 : ∀ (n9 i9 : Nat), i9 + n9 = j - i → G E X (0 + 1) (0 + (j - i)) 9 [(0, .ref u), (1, .int (nI i)), (2, .int (nI j)), (3, .ref q3), (4, .int (nI (i + i9)))] [] [(q3, .inl (E.2.2, (j - i), .inl (zPc f i i9))), (u, .inl (E.2.2, n, .inl f))] := by
    intro n9
    induction n9 with
    | zero =>
      intro i9 hi9
      have he9 : i9 = j - i := by omega
      rw [he9]
      refine g_iload F dX5_piece_9 4 rfl ?_
      refine g_iload_n F dX5_piece_11 rfl 2 rfl ?_
      refine g_icmp_ge_t (tgt := 31) F dX5_piece_12 (by decide) (le_nI (by omega) (by omega)) ?_
      refine g_rei (g := fun k => f (i + k)) (ws' := [(q3, .inl (E.2.2, (j - i), .inl (fun k => f (i + k)))), (u, .inl (E.2.2, n, .inl f))]) 0 rfl (fun k hk => zPc_at f i _ k hk) rfl ?_
      refine g_aload_n F dX5_piece_31 rfl 3 rfl ?_
      refine g_cs (cells' := 1) (slots' := 96) (by show 0 + 1 ≤ 1; omega) (by show 0 + (j - i) ≤ 96; omega) ?_
      exact g_aretP F hQ dX5_piece_32 (Or.inr ⟨_, rfl⟩) (⟨fun i => [q3].getD i 0, rfl, rfl⟩)
    | succ n9 ih9 =>
      intro i9 hi9
      have hl9 : i9 < j - i := by omega
      refine g_iload F dX5_piece_9 4 rfl ?_
      refine g_iload_n F dX5_piece_11 rfl 2 rfl ?_
      refine g_icmp_ge_f (tgt := 31) F dX5_piece_12 (by decide) (nle_nI (by omega) (by omega)) ?_
      refine g_aload_n F dX5_piece_15 rfl 3 rfl ?_
      refine g_iload F dX5_piece_16 4 rfl ?_
      refine g_iload_n F dX5_piece_18 rfl 1 rfl ?_
      refine g_isub F dX5_piece_19 ?_
      refine g_topr (y := nI i9) ((pk_sub (by omega)).trans (congrArg nI (by omega))) ?_
      refine g_aload_n F dX5_piece_20 rfl 0 rfl ?_
      refine g_iload F dX5_piece_21 4 rfl ?_
      refine g_ialdN (k := i + i9) F dX5_piece_23 1 rfl (by omega) (by first | decide | omega) ?_
      refine g_iastN (k := i9) (ws' := [(q3, .inl (E.2.2, (j - i), .inl (upd (zPc f i i9) i9 (f (i + i9))))), (u, .inl (E.2.2, n, .inl f))]) F dX5_piece_24 0 rfl (by omega) (by first | decide | omega) rfl ?_
      refine g_iinc (L' := [(0, .ref u), (1, .int (nI i)), (2, .int (nI j)), (3, .ref q3), (4, .int (nI (i + (i9 + 1))))]) (v := nI (i + (i9 + 1))) F dX5_piece_25 4 rfl (nI_1 _) (by decide) [1, 2, 3, 4, 0] rfl ?_
      refine g_goto (tgt := 9) F dX5_piece_28 (by decide) ?_
      exact ih9 (i9 + 1) (by omega)
  exact lp9 (j - i) 0 (by omega)

set_option maxHeartbeats 4000000 in
set_option maxRecDepth 100000 in
theorem c_X5_isSame (E : gE) (u : Nat) (b : Nat) (f : AF) (g : AF) : CtA E yX5_isSame wsX5_isSame ({ frames := 0, cells := 0, slots := 0, locals := 0 }) [.ref u, .ref b] [(u, .inl (E.2.2, 12, .inl f)), (b, .inl (E.2.2, 12, .inl g))] (fun _ => some (.int (pIf (∀ k, k < 12 → f k = g k)))) (fun _ => []) := by
  refine CtP.of (cc := cX5_isSame) (maxL := 3) (ret := (some .boolean)) (own := RX5) (L := [(0, .ref u), (1, .ref b)]) (by decide) rfl rfl (Nat.le_of_ble_eq_true rfl) rfl ?_
  intro X F hQ
  refine g_iconst (v := 0) F dX5_isSame_0 (by decide) ?_
  refine g_istore_n (L' := [(0, .ref u), (1, .ref b), (2, .int 0)]) F dX5_isSame_1 rfl (by decide) [1, 2, 0] rfl ?_
  have lp2 : ∀ (n2 i2 : Nat), i2 + n2 = 12 → (∀ k, k < i2 → f k = g k) → G E X 0 0 2 [(0, .ref u), (1, .ref b), (2, .int (nI i2))] [] [(u, .inl (E.2.2, 12, .inl f)), (b, .inl (E.2.2, 12, .inl g))] := by
    intro n2
    induction n2 with
    | zero =>
      intro i2 hi2  ha
      have he2 : i2 = 12 := by omega
      rw [he2] at ha
      rw [he2]
      refine g_iload_n F dX5_isSame_2 rfl 2 rfl ?_
      refine g_aload_n F dX5_isSame_3 rfl 0 rfl ?_
      refine g_alen (v := 12) F dX5_isSame_4 0 rfl rfl ?_
      refine g_icmp_ge_t (tgt := 25) F dX5_isSame_5 (by decide) (by decide) ?_
      refine g_iconst (v := 1) F dX5_isSame_25 (by decide) ?_
      exact g_zretP F hQ dX5_isSame_26 (Or.inr rfl) (⟨fun _ => 0, congrArg (fun z => some (Value.int z)) (by rw [pIf_pos ha]), rfl⟩)
    | succ n2 ih2 =>
      intro i2 hi2  ha
      have hl2 : i2 < 12 := by omega
      refine g_iload_n F dX5_isSame_2 rfl 2 rfl ?_
      refine g_aload_n F dX5_isSame_3 rfl 0 rfl ?_
      refine g_alen (v := 12) F dX5_isSame_4 0 rfl rfl ?_
      refine g_icmp_ge_f (tgt := 25) F dX5_isSame_5 (by decide) (nle_nI (n := 12) hl2 (by omega)) ?_
      refine g_aload_n F dX5_isSame_8 rfl 0 rfl ?_
      refine g_iload_n F dX5_isSame_9 rfl 2 rfl ?_
      refine g_ialdN (k := i2) F dX5_isSame_10 0 rfl (by omega) (by first | decide | omega) ?_
      refine g_aload_n F dX5_isSame_11 rfl 1 rfl ?_
      refine g_iload_n F dX5_isSame_12 rfl 2 rfl ?_
      refine g_ialdN (k := i2) F dX5_isSame_13 1 rfl (by omega) (by first | decide | omega) ?_
      refine g_icmp_eq (tgt := 19) F dX5_isSame_14 (by decide) (fun k14 => ?_) (fun k14 => ?_)
      · skip
        refine g_iinc (L' := [(0, .ref u), (1, .ref b), (2, .int (nI (i2 + 1)))]) (v := nI (i2 + 1)) F dX5_isSame_19 2 rfl (nI_1 _) (by decide) [1, 2, 0] rfl ?_
        refine g_goto (tgt := 2) F dX5_isSame_22 (by decide) ?_
        exact ih2 (i2 + 1) (by omega) (all_s ha k14)
      · skip
        refine g_iconst (v := 0) F dX5_isSame_17 (by decide) ?_
        exact g_zretP F hQ dX5_isSame_18 (Or.inl rfl) (⟨fun _ => 0, congrArg (fun z => some (Value.int z)) (by rw [pIf_neg (fun h => k14 (h _ hl2))]), rfl⟩)
  exact lp2 12 0 (by omega) (fun k hk => absurd hk (Nat.not_lt_zero k))

set_option maxHeartbeats 4000000 in
set_option maxRecDepth 100000 in
theorem c_X5_runs (E : gE) (u : Nat) (g : AF) : CtA E yX5_runs wsX5_runs ({ frames := 1, cells := 2, slots := 120, locals := 24 }) [.ref u] [(u, .inl (E.2.2, 12, .inl g))] (fun a => some (.ref (a 0))) (fun a => [((a 0), .inl (E.2.2, ((zRun g 12).2 - 0), .inl (fun k => (zRun g 12).1 (0 + k))))]) := by
  refine CtP.of (cc := cX5_runs) (maxL := 4) (ret := (some (.array .int))) (own := RX5) (L := [(0, .ref u)]) (by decide) rfl rfl (Nat.le_of_ble_eq_true rfl) rfl ?_
  intro X F hQ
  refine g_bipush (v := 24) F dX5_runs_0 (by decide) ?_
  refine g_newa (N' := 24) F dX5_runs_2 (List.mem_of_getElem? (i := 1) rfl) (by decide) (rfl) (by omega) (by show 0 + 1 ≤ 2; omega) (by show 0 + 24 ≤ 120; omega) (fun q2 => g_front ?_)
  refine g_ws (ws' := [(q2, .inl (E.2.2, 24, .inl (fun _ => 0))), (u, .inl (E.2.2, 12, .inl g))]) rfl ?_
  refine g_astore_n (L' := [(0, .ref u), (1, .ref q2)]) F dX5_runs_4 rfl (by decide) [1, 0] rfl ?_
  refine g_iconst (v := 0) F dX5_runs_5 (by decide) ?_
  refine g_istore_n (L' := [(0, .ref u), (1, .ref q2), (2, .int 0)]) F dX5_runs_6 rfl (by decide) [1, 2, 0] rfl ?_
  refine g_iconst (v := 0) F dX5_runs_7 (by decide) ?_
  refine g_istore_n (L' := [(0, .ref u), (1, .ref q2), (2, .int 0), (3, .int 0)]) F dX5_runs_8 rfl (by decide) [1, 2, 3, 0] rfl ?_
  have lp9 : ∀ (n9 i9 : Nat), i9 + n9 = 12 → G E X (0 + 1) (0 + 24) 9 [(0, .ref u), (1, .ref q2), (2, .int (nI (zRun g i9).2)), (3, .int (nI i9))] [] [(q2, .inl (E.2.2, 24, .inl ((zRun g i9).1))), (u, .inl (E.2.2, 12, .inl g))] := by
    intro n9
    induction n9 with
    | zero =>
      intro i9 hi9
      have he9 : i9 = 12 := by omega
      rw [he9]
      refine g_iload_n F dX5_runs_9 rfl 3 rfl ?_
      refine g_bipush (v := 12) F dX5_runs_10 (by decide) ?_
      refine g_icmp_ge_t (tgt := 73) F dX5_runs_12 (by decide) (by decide) ?_
      have b12 := zRun_n g 12
      refine g_aload_n F dX5_runs_73 rfl 1 rfl ?_
      refine g_iconst (v := 0) F dX5_runs_74 (by decide) ?_
      refine g_iload_n F dX5_runs_75 rfl 2 rfl ?_
      refine g_callSA (R := [(u, .inl (E.2.2, 12, .inl g))]) F dX5_runs_76 (c_X5_piece E q2 24 0 ((zRun g 12).2) ((zRun g 12).1) (by first | assumption | decide | omega) (by first | assumption | decide | omega) (by first | assumption | decide | omega)) rfl gX5_runs_X5_piece kS_X5_piece ⟨by decide, by decide⟩ (pmc (A := []) (pmc (A := []) (List.Perm.nil))) rfl (Nat.le_of_ble_eq_true rfl) ⟨by show 0 + 1 + 1 ≤ 2; omega, by show 0 + 24 + 96 ≤ 120; omega⟩ (fun a76 => ?_)
      refine g_ws (ws' := [((a76 0), .inl (E.2.2, (((zRun g 12).2) - 0), .inl (fun k => ((zRun g 12).1) (0 + k)))), (q2, .inl (E.2.2, 24, .inl ((zRun g 12).1))), (u, .inl (E.2.2, 12, .inl g))]) rfl ?_
      refine g_cs (cells' := 2) (slots' := 120) (by show 0 + 1 + 1 ≤ 2; omega) (by show 0 + 24 + 96 ≤ 120; omega) ?_
      refine g_perm (ws' := [((a76 0), .inl (E.2.2, (((zRun g 12).2) - 0), .inl (fun k => ((zRun g 12).1) (0 + k)))), (u, .inl (E.2.2, 12, .inl g))] ++ [(q2, .inl (E.2.2, 24, .inl ((zRun g 12).1)))]) (pmc (A := []) (pmc (A := [_]) (pmc (A := []) (List.Perm.nil)))) (g_drop ?_)
      exact g_aretP F hQ dX5_runs_79 (Or.inr ⟨_, rfl⟩) (⟨fun i => [a76 0].getD i 0, rfl, rfl⟩)
    | succ n9 ih9 =>
      intro i9 hi9
      have hl9 : i9 < 12 := by omega
      have b9 := zRun_n g i9
      refine g_iload_n F dX5_runs_9 rfl 3 rfl ?_
      refine g_bipush (v := 12) F dX5_runs_10 (by decide) ?_
      refine g_icmp_ge_f (tgt := 73) F dX5_runs_12 (by decide) (nle_nI (n := 12) hl9 (by omega)) ?_
      refine g_iload_n F dX5_runs_15 rfl 2 rfl ?_
      refine g_if_le (tgt := 52) F dX5_runs_16 (by decide) (fun k16 => ?_) (fun k16 => ?_)
      · skip
        refine g_aload_n F dX5_runs_52 rfl 1 rfl ?_
        refine g_iload_n F dX5_runs_53 rfl 2 rfl ?_
        refine g_aload_n F dX5_runs_54 rfl 0 rfl ?_
        refine g_iload_n F dX5_runs_55 rfl 3 rfl ?_
        refine g_ialdN (k := i9) F dX5_runs_56 1 rfl (by omega) (by first | decide | omega) ?_
        refine g_iastN (k := (zRun g i9).2) (ws' := [(q2, .inl (E.2.2, 24, .inl (upd ((zRun g i9).1) ((zRun g i9).2) (g i9)))), (u, .inl (E.2.2, 12, .inl g))]) F dX5_runs_57 0 rfl (by omega) (by first | decide | omega) rfl ?_
        refine g_aload_n F dX5_runs_58 rfl 1 rfl ?_
        refine g_iload_n F dX5_runs_59 rfl 2 rfl ?_
        refine g_iconst (v := 1) F dX5_runs_60 (by decide) ?_
        refine g_iadd F dX5_runs_61 ?_
        refine g_topr (y := nI ((zRun g i9).2 + 1)) (nI_1 _) ?_
        refine g_iconst (v := 1) F dX5_runs_62 (by decide) ?_
        refine g_iastN (k := (zRun g i9).2 + 1) (ws' := [(q2, .inl (E.2.2, 24, .inl (upd (upd ((zRun g i9).1) ((zRun g i9).2) (g i9)) ((zRun g i9).2 + 1) 1))), (u, .inl (E.2.2, 12, .inl g))]) F dX5_runs_63 0 rfl (by omega) (by first | decide | omega) rfl ?_
        refine g_iinc (L' := [(0, .ref u), (1, .ref q2), (2, .int (nI ((zRun g i9).2 + 2))), (3, .int (nI i9))]) (v := nI ((zRun g i9).2 + 2)) F dX5_runs_64 2 rfl (nI_add _ 2) (by decide) [1, 2, 0, 3] rfl ?_
        refine g_iinc (L' := [(0, .ref u), (1, .ref q2), (2, .int (nI ((zRun g i9).2 + 2))), (3, .int (nI (i9 + 1)))]) (v := nI (i9 + 1)) F dX5_runs_67 3 rfl (nI_1 _) (by decide) [1, 2, 3, 0] rfl ?_
        refine g_goto (tgt := 9) F dX5_runs_70 (by decide) ?_
        have q := ih9 (i9 + 1) (by omega)
        first
          | rw [zRun_y (Nat.pos_of_ne_zero (mt (nI_le0 (by omega)).mpr k16)) (Classical.not_not.mp k27) (Int32.not_le.mp k37)] at q
          | rw [zRun_no (fun h => absurd h.1 (by have := (nI_le0 (by omega)).mp k16; omega))] at q
          | rw [zRun_no (fun h => k27 h.2.1)] at q
          | rw [zRun_no (fun h => absurd h.2.2 (Int32.not_lt.mpr k37))] at q
        exact q
      · skip
        refine g_aload_n F dX5_runs_19 rfl 1 rfl ?_
        refine g_iload_n F dX5_runs_20 rfl 2 rfl ?_
        refine g_iconst (v := 2) F dX5_runs_21 (by decide) ?_
        refine g_isub F dX5_runs_22 ?_
        refine g_topr (y := nI ((zRun g i9).2 - 2)) (pk_sub (b := 2) (by have := mt (nI_le0 (by omega)).mpr k16; omega)) ?_
        refine g_ialdN (k := (zRun g i9).2 - 2) F dX5_runs_23 0 rfl (by omega) (by first | decide | omega) ?_
        refine g_aload_n F dX5_runs_24 rfl 0 rfl ?_
        refine g_iload_n F dX5_runs_25 rfl 3 rfl ?_
        refine g_ialdN (k := i9) F dX5_runs_26 1 rfl (by omega) (by first | decide | omega) ?_
        refine g_icmp_ne (tgt := 52) F dX5_runs_27 (by decide) (fun k27 => ?_) (fun k27 => ?_)
        · skip
          refine g_aload_n F dX5_runs_52 rfl 1 rfl ?_
          refine g_iload_n F dX5_runs_53 rfl 2 rfl ?_
          refine g_aload_n F dX5_runs_54 rfl 0 rfl ?_
          refine g_iload_n F dX5_runs_55 rfl 3 rfl ?_
          refine g_ialdN (k := i9) F dX5_runs_56 1 rfl (by omega) (by first | decide | omega) ?_
          refine g_iastN (k := (zRun g i9).2) (ws' := [(q2, .inl (E.2.2, 24, .inl (upd ((zRun g i9).1) ((zRun g i9).2) (g i9)))), (u, .inl (E.2.2, 12, .inl g))]) F dX5_runs_57 0 rfl (by omega) (by first | decide | omega) rfl ?_
          refine g_aload_n F dX5_runs_58 rfl 1 rfl ?_
          refine g_iload_n F dX5_runs_59 rfl 2 rfl ?_
          refine g_iconst (v := 1) F dX5_runs_60 (by decide) ?_
          refine g_iadd F dX5_runs_61 ?_
          refine g_topr (y := nI ((zRun g i9).2 + 1)) (nI_1 _) ?_
          refine g_iconst (v := 1) F dX5_runs_62 (by decide) ?_
          refine g_iastN (k := (zRun g i9).2 + 1) (ws' := [(q2, .inl (E.2.2, 24, .inl (upd (upd ((zRun g i9).1) ((zRun g i9).2) (g i9)) ((zRun g i9).2 + 1) 1))), (u, .inl (E.2.2, 12, .inl g))]) F dX5_runs_63 0 rfl (by omega) (by first | decide | omega) rfl ?_
          refine g_iinc (L' := [(0, .ref u), (1, .ref q2), (2, .int (nI ((zRun g i9).2 + 2))), (3, .int (nI i9))]) (v := nI ((zRun g i9).2 + 2)) F dX5_runs_64 2 rfl (nI_add _ 2) (by decide) [1, 2, 0, 3] rfl ?_
          refine g_iinc (L' := [(0, .ref u), (1, .ref q2), (2, .int (nI ((zRun g i9).2 + 2))), (3, .int (nI (i9 + 1)))]) (v := nI (i9 + 1)) F dX5_runs_67 3 rfl (nI_1 _) (by decide) [1, 2, 3, 0] rfl ?_
          refine g_goto (tgt := 9) F dX5_runs_70 (by decide) ?_
          have q := ih9 (i9 + 1) (by omega)
          first
            | rw [zRun_y (Nat.pos_of_ne_zero (mt (nI_le0 (by omega)).mpr k16)) (Classical.not_not.mp k27) (Int32.not_le.mp k37)] at q
            | rw [zRun_no (fun h => absurd h.1 (by have := (nI_le0 (by omega)).mp k16; omega))] at q
            | rw [zRun_no (fun h => k27 h.2.1)] at q
            | rw [zRun_no (fun h => absurd h.2.2 (Int32.not_lt.mpr k37))] at q
          exact q
        · skip
          refine g_aload_n F dX5_runs_30 rfl 1 rfl ?_
          refine g_iload_n F dX5_runs_31 rfl 2 rfl ?_
          refine g_iconst (v := 1) F dX5_runs_32 (by decide) ?_
          refine g_isub F dX5_runs_33 ?_
          refine g_topr (y := nI ((zRun g i9).2 - 1)) (pk_sub (b := 1) (by have := mt (nI_le0 (by omega)).mpr k16; omega)) ?_
          refine g_ialdN (k := (zRun g i9).2 - 1) F dX5_runs_34 0 rfl (by omega) (by first | decide | omega) ?_
          refine g_bipush (v := 9) F dX5_runs_35 (by decide) ?_
          refine g_icmp_ge (tgt := 52) F dX5_runs_37 (by decide) (fun k37 => ?_) (fun k37 => ?_)
          · skip
            refine g_aload_n F dX5_runs_52 rfl 1 rfl ?_
            refine g_iload_n F dX5_runs_53 rfl 2 rfl ?_
            refine g_aload_n F dX5_runs_54 rfl 0 rfl ?_
            refine g_iload_n F dX5_runs_55 rfl 3 rfl ?_
            refine g_ialdN (k := i9) F dX5_runs_56 1 rfl (by omega) (by first | decide | omega) ?_
            refine g_iastN (k := (zRun g i9).2) (ws' := [(q2, .inl (E.2.2, 24, .inl (upd ((zRun g i9).1) ((zRun g i9).2) (g i9)))), (u, .inl (E.2.2, 12, .inl g))]) F dX5_runs_57 0 rfl (by omega) (by first | decide | omega) rfl ?_
            refine g_aload_n F dX5_runs_58 rfl 1 rfl ?_
            refine g_iload_n F dX5_runs_59 rfl 2 rfl ?_
            refine g_iconst (v := 1) F dX5_runs_60 (by decide) ?_
            refine g_iadd F dX5_runs_61 ?_
            refine g_topr (y := nI ((zRun g i9).2 + 1)) (nI_1 _) ?_
            refine g_iconst (v := 1) F dX5_runs_62 (by decide) ?_
            refine g_iastN (k := (zRun g i9).2 + 1) (ws' := [(q2, .inl (E.2.2, 24, .inl (upd (upd ((zRun g i9).1) ((zRun g i9).2) (g i9)) ((zRun g i9).2 + 1) 1))), (u, .inl (E.2.2, 12, .inl g))]) F dX5_runs_63 0 rfl (by omega) (by first | decide | omega) rfl ?_
            refine g_iinc (L' := [(0, .ref u), (1, .ref q2), (2, .int (nI ((zRun g i9).2 + 2))), (3, .int (nI i9))]) (v := nI ((zRun g i9).2 + 2)) F dX5_runs_64 2 rfl (nI_add _ 2) (by decide) [1, 2, 0, 3] rfl ?_
            refine g_iinc (L' := [(0, .ref u), (1, .ref q2), (2, .int (nI ((zRun g i9).2 + 2))), (3, .int (nI (i9 + 1)))]) (v := nI (i9 + 1)) F dX5_runs_67 3 rfl (nI_1 _) (by decide) [1, 2, 3, 0] rfl ?_
            refine g_goto (tgt := 9) F dX5_runs_70 (by decide) ?_
            have q := ih9 (i9 + 1) (by omega)
            first
              | rw [zRun_y (Nat.pos_of_ne_zero (mt (nI_le0 (by omega)).mpr k16)) (Classical.not_not.mp k27) (Int32.not_le.mp k37)] at q
              | rw [zRun_no (fun h => absurd h.1 (by have := (nI_le0 (by omega)).mp k16; omega))] at q
              | rw [zRun_no (fun h => k27 h.2.1)] at q
              | rw [zRun_no (fun h => absurd h.2.2 (Int32.not_lt.mpr k37))] at q
            exact q
          · skip
            refine g_aload_n F dX5_runs_40 rfl 1 rfl ?_
            refine g_iload_n F dX5_runs_41 rfl 2 rfl ?_
            refine g_iconst (v := 1) F dX5_runs_42 (by decide) ?_
            refine g_isub F dX5_runs_43 ?_
            refine g_topr (y := nI ((zRun g i9).2 - 1)) (pk_sub (b := 1) (by have := mt (nI_le0 (by omega)).mpr k16; omega)) ?_
            refine g_dup2 F dX5_runs_44 rfl rfl ?_
            refine g_ialdN (k := (zRun g i9).2 - 1) F dX5_runs_45 0 rfl (by omega) (by first | decide | omega) ?_
            refine g_iconst (v := 1) F dX5_runs_46 (by decide) ?_
            refine g_iadd F dX5_runs_47 ?_
            refine g_iastN (k := (zRun g i9).2 - 1) (ws' := [(q2, .inl (E.2.2, 24, .inl (upd ((zRun g i9).1) ((zRun g i9).2 - 1) ((((zRun g i9).1) ((zRun g i9).2 - 1)) + 1)))), (u, .inl (E.2.2, 12, .inl g))]) F dX5_runs_48 0 rfl (by omega) (by first | decide | omega) rfl ?_
            refine g_goto (tgt := 67) F dX5_runs_49 (by decide) ?_
            refine g_iinc (L' := [(0, .ref u), (1, .ref q2), (2, .int (nI (zRun g i9).2)), (3, .int (nI (i9 + 1)))]) (v := nI (i9 + 1)) F dX5_runs_67 3 rfl (nI_1 _) (by decide) [1, 2, 3, 0] rfl ?_
            refine g_goto (tgt := 9) F dX5_runs_70 (by decide) ?_
            have q := ih9 (i9 + 1) (by omega)
            first
              | rw [zRun_y (Nat.pos_of_ne_zero (mt (nI_le0 (by omega)).mpr k16)) (Classical.not_not.mp k27) (Int32.not_le.mp k37)] at q
              | rw [zRun_no (fun h => absurd h.1 (by have := (nI_le0 (by omega)).mp k16; omega))] at q
              | rw [zRun_no (fun h => k27 h.2.1)] at q
              | rw [zRun_no (fun h => absurd h.2.2 (Int32.not_lt.mpr k37))] at q
            exact q
  exact lp9 12 0 (by omega)

set_option maxHeartbeats 4000000 in
set_option maxRecDepth 100000 in
theorem c_X5_off (E : gE) (y : Nat) (pa : Nat) (sa : Nat) (kp : Nat) (kk : Nat) (col : Int32) (car : Int32) (tur : Int32) (pre : Int32) (cl : Int32) (ko : Int32) (pp : Nat) (co : Nat) (b : Nat) (r : Nat → Nat) (r2 : Nat → Nat) (c : Nat → AF) (d : Nat → AF) (pal : AF) (hb : b < 2147483648) (hd : ∀ y, y < 8 → ∀ x, x < 12 → vp_in (d y x) b) : CtA E yX5_off wsX5_off ({ frames := 1, cells := 0, slots := 0, locals := 21 }) [.ref y, .ref pp, .ref co] ([(y, .inr (5, [.ref pa, .int col, .int car, .int tur, .int pre, .ref sa, .int cl, .ref kp, .ref kk, .int ko])), (pa, qE E 8 r), (pp, .inl (E.2.2, b, .inl pal)), (co, qE E 8 r2)] ++ (gW E r (fun _ => 12) c 8 ++ (gW E r2 (fun _ => 12) d 8 ++ []))) (fun _ => some (.int (zOff c d pal 8))) (fun _ => []) := by
  refine CtP.of (cc := cX5_off) (maxL := 6) (ret := (some .int)) (own := RX5) (L := [(0, .ref y), (1, .ref pp), (2, .ref co)]) (by decide) rfl rfl (Nat.le_of_ble_eq_true rfl) rfl ?_
  intro X F hQ
  have ci5 : ∀ w ∈ u_ws RX5 TX5 10, w ∈ wsX5_off := gsub [6, 7, 8, 9, 10, 11, 12, 13, 14, 15] rfl
  refine g_iconst (v := 0) F dX5_off_0 (by decide) ?_
  refine g_istore_n (L' := [(0, .ref y), (1, .ref pp), (2, .ref co), (3, .int 0)]) F dX5_off_1 rfl (by decide) [1, 2, 3, 0] rfl ?_
  refine g_iconst (v := 0) F dX5_off_2 (by decide) ?_
  refine g_istore (L' := [(0, .ref y), (1, .ref pp), (2, .ref co), (3, .int 0), (4, .int 0)]) F dX5_off_3 (by decide) [1, 2, 3, 4, 0] rfl ?_
  have lp5 : ∀ (n5 i5 : Nat), i5 + n5 = 8 → G E X 0 0 5 [(0, .ref y), (1, .ref pp), (2, .ref co), (3, .int (zOff c d pal i5)), (4, .int (nI i5))] [] ([(y, .inr (5, [.ref pa, .int col, .int car, .int tur, .int pre, .ref sa, .int cl, .ref kp, .ref kk, .int ko])), (pa, qE E 8 r), (pp, .inl (E.2.2, b, .inl pal)), (co, qE E 8 r2)] ++ (gW E r (fun _ => 12) c 8 ++ (gW E r2 (fun _ => 12) d 8 ++ []))) := by
    intro n5
    induction n5 with
    | zero =>
      intro i5 hi5
      have he5 : i5 = 8 := by omega
      rw [he5]
      refine g_iload F dX5_off_5 4 rfl ?_
      refine g_bipush (v := 8) F dX5_off_7 (by decide) ?_
      refine g_icmp_ge_t (tgt := 60) F dX5_off_9 (by decide) (by decide) ?_
      refine g_iload_n F dX5_off_60 rfl 3 rfl ?_
      exact g_iretP F hQ dX5_off_61 (⟨fun _ => 0, rfl, rfl⟩)
    | succ n5 ih5 =>
      intro i5 hi5
      have hl5 : i5 < 8 := by omega
      refine g_iload F dX5_off_5 4 rfl ?_
      refine g_bipush (v := 8) F dX5_off_7 (by decide) ?_
      refine g_icmp_ge_f (tgt := 60) F dX5_off_9 (by decide) (nle_nI (n := 8) hl5 (by omega)) ?_
      refine g_iconst (v := 0) F dX5_off_12 (by decide) ?_
      refine g_istore (L' := [(0, .ref y), (1, .ref pp), (2, .ref co), (3, .int (zOff c d pal i5)), (4, .int (nI i5)), (5, .int 0)]) F dX5_off_13 (by decide) [1, 2, 3, 4, 5, 0] rfl ?_
      have lp15 : ∀ (n15 i15 : Nat), i15 + n15 = 12 → G E X 0 0 15 [(0, .ref y), (1, .ref pp), (2, .ref co), (3, .int (zOffX c d pal i5 (zOff c d pal i5) i15)), (4, .int (nI i5)), (5, .int (nI i15))] [] ([(y, .inr (5, [.ref pa, .int col, .int car, .int tur, .int pre, .ref sa, .int cl, .ref kp, .ref kk, .int ko])), (pa, qE E 8 r), (pp, .inl (E.2.2, b, .inl pal)), (co, qE E 8 r2)] ++ (gW E r (fun _ => 12) c 8 ++ (gW E r2 (fun _ => 12) d 8 ++ []))) := by
        intro n15
        induction n15 with
        | zero =>
          intro i15 hi15
          have he15 : i15 = 12 := by omega
          rw [he15]
          refine g_iload F dX5_off_15 5 rfl ?_
          refine g_bipush (v := 12) F dX5_off_17 (by decide) ?_
          refine g_icmp_ge_t (tgt := 54) F dX5_off_19 (by decide) (by decide) ?_
          refine g_iinc (L' := [(0, .ref y), (1, .ref pp), (2, .ref co), (3, .int (zOffX c d pal i5 (zOff c d pal i5) 12)), (4, .int (nI (i5 + 1))), (5, .int (nI 12))]) (v := nI (i5 + 1)) F dX5_off_54 4 rfl (nI_1 _) (by decide) [1, 2, 3, 4, 0, 5] rfl ?_
          refine g_goto (tgt := 5) F dX5_off_57 (by decide) ?_
          refine g_lv (L' := [(0, .ref y), (1, .ref pp), (2, .ref co), (3, .int (zOffX c d pal i5 (zOff c d pal i5) 12)), (4, .int (nI (i5 + 1)))]) [0, 1, 2, 3, 4] rfl ?_
          exact ih5 (i5 + 1) (by omega)
        | succ n15 ih15 =>
          intro i15 hi15
          have hl15 : i15 < 12 := by omega
          refine g_iload F dX5_off_15 5 rfl ?_
          refine g_bipush (v := 12) F dX5_off_17 (by decide) ?_
          refine g_icmp_ge_f (tgt := 54) F dX5_off_19 (by decide) (nle_nI (n := 12) hl15 (by omega)) ?_
          refine g_iload_n F dX5_off_22 rfl 3 rfl ?_
          refine g_aload_n F dX5_off_23 rfl 1 rfl ?_
          refine g_aload_n F dX5_off_24 rfl 2 rfl ?_
          refine g_iload F dX5_off_25 4 rfl ?_
          refine g_aald (k := i5) F dX5_off_27 3 rfl (by omega) (by first | decide | omega) rfl ?_
          refine g_iload F dX5_off_28 5 rfl ?_
          refine g_ialdG1 (y := i5) (k := i15) F dX5_off_30 rfl (by omega) (by show _ < _; first | decide | omega) (by show _ < _; first | decide | omega) ?_
          refine g_iald F dX5_off_31 2 rfl (hd i5 hl5 i15 hl15) ?_
          refine g_aload_n F dX5_off_32 rfl 0 rfl ?_
          refine g_get F dX5_off_33 0 rfl rfl ci5 0 (by decide) rfl (List.mem_of_getElem? (i := 1) rfl) ?_
          refine g_iload F dX5_off_36 4 rfl ?_
          refine g_aald (k := i5) F dX5_off_38 1 rfl (by omega) (by first | decide | omega) rfl ?_
          refine g_iload F dX5_off_39 5 rfl ?_
          refine g_ialdG0 (y := i5) (k := i15) F dX5_off_41 rfl (by omega) (by show _ < _; first | decide | omega) (by show _ < _; first | decide | omega) ?_
          refine g_isub F dX5_off_42 ?_
          refine g_abs F dX5_off_43 (List.mem_of_getElem? (i := 2) rfl) (List.mem_of_getElem? (i := 3) rfl) (List.mem_of_getElem? (i := 4) rfl) (List.mem_of_getElem? (i := 5) rfl) (by decide) (Nat.le_of_ble_eq_true rfl) (by decide) (by decide) ?_
          refine g_iadd F dX5_off_46 ?_
          refine g_istore_n (L' := [(0, .ref y), (1, .ref pp), (2, .ref co), (3, .int ((zOffX c d pal i5 (zOff c d pal i5) i15) + (sAbs ((pal (d i5 i15).toNatClampNeg) - (c i5 i15))))), (4, .int (nI i5)), (5, .int (nI i15))]) F dX5_off_47 rfl (by decide) [1, 2, 3, 0, 4, 5] rfl ?_
          refine g_iinc (L' := [(0, .ref y), (1, .ref pp), (2, .ref co), (3, .int ((zOffX c d pal i5 (zOff c d pal i5) i15) + (sAbs ((pal (d i5 i15).toNatClampNeg) - (c i5 i15))))), (4, .int (nI i5)), (5, .int (nI (i15 + 1)))]) (v := nI (i15 + 1)) F dX5_off_48 5 rfl (nI_1 _) (by decide) [1, 2, 3, 4, 5, 0] rfl ?_
          refine g_goto (tgt := 15) F dX5_off_51 (by decide) ?_
          exact ih15 (i15 + 1) (by omega)
      exact lp15 12 0 (by omega)
  exact lp5 8 0 (by omega)

set_option maxHeartbeats 4000000 in
set_option maxRecDepth 100000 in
theorem c_X5_cells (E : gE) (co : Nat) (r : Nat → Nat) (d : Nat → AF) (v : Int32) : CtA E yX5_cells wsX5_cells ({ frames := 0, cells := 0, slots := 0, locals := 0 }) [.ref co, .int v] ([(co, qE E 8 r)] ++ (gW E r (fun _ => 12) d 8 ++ [])) (fun _ => some (.int (zCel d v 8))) (fun _ => []) := by
  refine CtP.of (cc := cX5_cells) (maxL := 11) (ret := (some .int)) (own := RX5) (L := [(0, .ref co), (1, .int v)]) (by decide) rfl rfl (Nat.le_of_ble_eq_true rfl) rfl ?_
  intro X F hQ
  refine g_iconst (v := 0) F dX5_cells_0 (by decide) ?_
  refine g_istore_n (L' := [(0, .ref co), (1, .int v), (2, .int 0)]) F dX5_cells_1 rfl (by decide) [1, 2, 0] rfl ?_
  refine g_aload_n F dX5_cells_2 rfl 0 rfl ?_
  refine g_astore_n (L' := [(0, .ref co), (1, .int v), (2, .int 0), (3, .ref co)]) F dX5_cells_3 rfl (by decide) [1, 2, 3, 0] rfl ?_
  refine g_aload_n F dX5_cells_4 rfl 3 rfl ?_
  refine g_alenx (v := 8) F dX5_cells_5 0 1 rfl rfl rfl ?_
  refine g_istore (L' := [(0, .ref co), (1, .int v), (2, .int 0), (3, .ref co), (4, .int 8)]) F dX5_cells_6 (by decide) [1, 2, 3, 4, 0] rfl ?_
  refine g_iconst (v := 0) F dX5_cells_8 (by decide) ?_
  refine g_istore (L' := [(0, .ref co), (1, .int v), (2, .int 0), (3, .ref co), (4, .int 8), (5, .int 0)]) F dX5_cells_9 (by decide) [1, 2, 3, 4, 5, 0] rfl ?_
  have lp11 : ∀ (n11 i11 : Nat), i11 + n11 = 8 → G E X 0 0 11 [(0, .ref co), (1, .int v), (2, .int (zCel d v i11)), (3, .ref co), (4, .int 8), (5, .int (nI i11))] [] ([(co, qE E 8 r)] ++ (gW E r (fun _ => 12) d 8 ++ [])) := by
    intro n11
    induction n11 with
    | zero =>
      intro i11 hi11
      have he11 : i11 = 8 := by omega
      rw [he11]
      refine g_iload F dX5_cells_11 5 rfl ?_
      refine g_iload F dX5_cells_13 4 rfl ?_
      refine g_icmp_ge_t (tgt := 76) F dX5_cells_15 (by decide) (by decide) ?_
      refine g_iload_n F dX5_cells_76 rfl 2 rfl ?_
      exact g_iretP F hQ dX5_cells_77 (⟨fun _ => 0, rfl, rfl⟩)
    | succ n11 ih11 =>
      intro i11 hi11
      have hl11 : i11 < 8 := by omega
      refine g_iload F dX5_cells_11 5 rfl ?_
      refine g_iload F dX5_cells_13 4 rfl ?_
      refine g_icmp_ge_f (tgt := 76) F dX5_cells_15 (by decide) (nle_nI (n := 8) hl11 (by omega)) ?_
      refine g_aload_n F dX5_cells_18 rfl 3 rfl ?_
      refine g_iload F dX5_cells_19 5 rfl ?_
      refine g_aald (k := i11) F dX5_cells_21 0 rfl (by omega) (by first | decide | omega) rfl ?_
      refine g_astore (L' := [(0, .ref co), (1, .int v), (2, .int (zCel d v i11)), (3, .ref co), (4, .int 8), (5, .int (nI i11)), (6, .ref (r i11))]) F dX5_cells_22 (by decide) [1, 2, 3, 4, 5, 6, 0] rfl ?_
      refine g_aload F dX5_cells_24 6 rfl ?_
      refine g_astore (L' := [(0, .ref co), (1, .int v), (2, .int (zCel d v i11)), (3, .ref co), (4, .int 8), (5, .int (nI i11)), (6, .ref (r i11)), (7, .ref (r i11))]) F dX5_cells_26 (by decide) [1, 2, 3, 4, 5, 6, 7, 0] rfl ?_
      refine g_aload F dX5_cells_28 7 rfl ?_
      refine g_alenG0 (y := i11) F dX5_cells_30 rfl (by omega) ?_
      refine g_topr (y := 12) rfl ?_
      refine g_istore (L' := [(0, .ref co), (1, .int v), (2, .int (zCel d v i11)), (3, .ref co), (4, .int 8), (5, .int (nI i11)), (6, .ref (r i11)), (7, .ref (r i11)), (8, .int 12)]) F dX5_cells_31 (by decide) [1, 2, 3, 4, 5, 6, 7, 8, 0] rfl ?_
      refine g_iconst (v := 0) F dX5_cells_33 (by decide) ?_
      refine g_istore (L' := [(0, .ref co), (1, .int v), (2, .int (zCel d v i11)), (3, .ref co), (4, .int 8), (5, .int (nI i11)), (6, .ref (r i11)), (7, .ref (r i11)), (8, .int 12), (9, .int 0)]) F dX5_cells_34 (by decide) [1, 2, 3, 4, 5, 6, 7, 8, 9, 0] rfl ?_
      have lp36 : ∀ (n36 i36 : Nat), i36 + n36 = 12 → G E X 0 0 36 [(0, .ref co), (1, .int v), (2, .int (zCelX d v i11 (zCel d v i11) i36)), (3, .ref co), (4, .int 8), (5, .int (nI i11)), (6, .ref (r i11)), (7, .ref (r i11)), (8, .int 12), (9, .int (nI i36))] [] ([(co, qE E 8 r)] ++ (gW E r (fun _ => 12) d 8 ++ [])) := by
        intro n36
        induction n36 with
        | zero =>
          intro i36 hi36
          have he36 : i36 = 12 := by omega
          rw [he36]
          refine g_iload F dX5_cells_36 9 rfl ?_
          refine g_iload F dX5_cells_38 8 rfl ?_
          refine g_icmp_ge_t (tgt := 70) F dX5_cells_40 (by decide) (by decide) ?_
          refine g_iinc (L' := [(0, .ref co), (1, .int v), (2, .int (zCelX d v i11 (zCel d v i11) 12)), (3, .ref co), (4, .int 8), (5, .int (nI (i11 + 1))), (6, .ref (r i11)), (7, .ref (r i11)), (8, .int 12), (9, .int (nI 12))]) (v := nI (i11 + 1)) F dX5_cells_70 5 rfl (nI_1 _) (by decide) [1, 2, 3, 4, 5, 0, 6, 7, 8, 9] rfl ?_
          refine g_goto (tgt := 11) F dX5_cells_73 (by decide) ?_
          refine g_lv (L' := [(0, .ref co), (1, .int v), (2, .int (zCelX d v i11 (zCel d v i11) 12)), (3, .ref co), (4, .int 8), (5, .int (nI (i11 + 1)))]) [0, 1, 2, 3, 4, 5] rfl ?_
          exact ih11 (i11 + 1) (by omega)
        | succ n36 ih36 =>
          intro i36 hi36
          have hl36 : i36 < 12 := by omega
          refine g_iload F dX5_cells_36 9 rfl ?_
          refine g_iload F dX5_cells_38 8 rfl ?_
          refine g_icmp_ge_f (tgt := 70) F dX5_cells_40 (by decide) (nle_nI (n := 12) hl36 (by omega)) ?_
          refine g_aload F dX5_cells_43 7 rfl ?_
          refine g_iload F dX5_cells_45 9 rfl ?_
          refine g_ialdG0 (y := i11) (k := i36) F dX5_cells_47 rfl (by omega) (by show _ < _; first | decide | omega) (by show _ < _; first | decide | omega) ?_
          refine g_istore (L' := [(0, .ref co), (1, .int v), (2, .int (zCelX d v i11 (zCel d v i11) i36)), (3, .ref co), (4, .int 8), (5, .int (nI i11)), (6, .ref (r i11)), (7, .ref (r i11)), (8, .int 12), (9, .int (nI i36)), (10, .int (d i11 i36))]) F dX5_cells_48 (by decide) [1, 2, 3, 4, 5, 6, 7, 8, 9, 10, 0] rfl ?_
          refine g_iload_n F dX5_cells_50 rfl 2 rfl ?_
          refine g_iload F dX5_cells_51 10 rfl ?_
          refine g_iload_n F dX5_cells_53 rfl 1 rfl ?_
          have jn62 : G E X 0 0 62 [(0, .ref co), (1, .int v), (2, .int (zCelX d v i11 (zCel d v i11) i36)), (3, .ref co), (4, .int 8), (5, .int (nI i11)), (6, .ref (r i11)), (7, .ref (r i11)), (8, .int 12), (9, .int (nI i36)), (10, .int (d i11 i36))] [.int (if d i11 i36 = v then 1 else 0), .int (zCelX d v i11 (zCel d v i11) i36)] ([(co, qE E 8 r)] ++ (gW E r (fun _ => 12) d 8 ++ [])) := by
            refine g_iadd F dX5_cells_62 ?_
            refine g_istore_n (L' := [(0, .ref co), (1, .int v), (2, .int ((zCelX d v i11 (zCel d v i11) i36) + (if d i11 i36 = v then 1 else 0))), (3, .ref co), (4, .int 8), (5, .int (nI i11)), (6, .ref (r i11)), (7, .ref (r i11)), (8, .int 12), (9, .int (nI i36)), (10, .int (d i11 i36))]) F dX5_cells_63 rfl (by decide) [1, 2, 0, 3, 4, 5, 6, 7, 8, 9, 10] rfl ?_
            refine g_iinc (L' := [(0, .ref co), (1, .int v), (2, .int ((zCelX d v i11 (zCel d v i11) i36) + (if d i11 i36 = v then 1 else 0))), (3, .ref co), (4, .int 8), (5, .int (nI i11)), (6, .ref (r i11)), (7, .ref (r i11)), (8, .int 12), (9, .int (nI (i36 + 1))), (10, .int (d i11 i36))]) (v := nI (i36 + 1)) F dX5_cells_64 9 rfl (nI_1 _) (by decide) [1, 2, 3, 4, 5, 6, 7, 8, 9, 0, 10] rfl ?_
            refine g_goto (tgt := 36) F dX5_cells_67 (by decide) ?_
            refine g_lv (L' := [(0, .ref co), (1, .int v), (2, .int ((zCelX d v i11 (zCel d v i11) i36) + (if d i11 i36 = v then 1 else 0))), (3, .ref co), (4, .int 8), (5, .int (nI i11)), (6, .ref (r i11)), (7, .ref (r i11)), (8, .int 12), (9, .int (nI (i36 + 1)))]) [0, 1, 2, 3, 4, 5, 6, 7, 8, 9] rfl ?_
            exact ih36 (i36 + 1) (by omega)
          refine g_icmp_ne (tgt := 61) F dX5_cells_54 (by decide) (fun k54 => ?_) (fun k54 => ?_)
          · skip
            refine g_iconst (v := 0) F dX5_cells_61 (by decide) ?_
            exact g_topr (by simp [k54]) jn62
          · skip
            refine g_iconst (v := 1) F dX5_cells_57 (by decide) ?_
            refine g_goto (tgt := 62) F dX5_cells_58 (by decide) ?_
            exact g_topr (by simp [k54]) jn62
      exact lp36 12 0 (by omega)
  exact lp11 8 0 (by omega)

set_option maxHeartbeats 4000000 in
set_option maxRecDepth 100000 in
theorem c_X5_cells0 (E : gE) (co : Nat) (g : Nat → Option Nat) (v : Int32) : CtA E yX5_cells wsX5_cells ({ frames := 0, cells := 0, slots := 0, locals := 0 }) [.ref co, .int v] [(co, qF E 0 g)] (fun _ => some (.int 0)) (fun _ => []) := by
  refine CtP.of (cc := cX5_cells) (maxL := 11) (ret := (some .int)) (own := RX5) (L := [(0, .ref co), (1, .int v)]) (by decide) rfl rfl (Nat.le_of_ble_eq_true rfl) rfl ?_
  intro X F hQ
  refine g_iconst (v := 0) F dX5_cells_0 (by decide) ?_
  refine g_istore_n (L' := [(0, .ref co), (1, .int v), (2, .int 0)]) F dX5_cells_1 rfl (by decide) [1, 2, 0] rfl ?_
  refine g_aload_n F dX5_cells_2 rfl 0 rfl ?_
  refine g_astore_n (L' := [(0, .ref co), (1, .int v), (2, .int 0), (3, .ref co)]) F dX5_cells_3 rfl (by decide) [1, 2, 3, 0] rfl ?_
  refine g_aload_n F dX5_cells_4 rfl 3 rfl ?_
  refine g_alenx (v := 0) F dX5_cells_5 0 1 rfl rfl rfl ?_
  refine g_istore (L' := [(0, .ref co), (1, .int v), (2, .int 0), (3, .ref co), (4, .int 0)]) F dX5_cells_6 (by decide) [1, 2, 3, 4, 0] rfl ?_
  refine g_iconst (v := 0) F dX5_cells_8 (by decide) ?_
  refine g_istore (L' := [(0, .ref co), (1, .int v), (2, .int 0), (3, .ref co), (4, .int 0), (5, .int 0)]) F dX5_cells_9 (by decide) [1, 2, 3, 4, 5, 0] rfl ?_
  refine g_iload F dX5_cells_11 5 rfl ?_
  refine g_iload F dX5_cells_13 4 rfl ?_
  refine g_icmp_ge_t (tgt := 76) F dX5_cells_15 (by decide) (by decide) ?_
  refine g_iload_n F dX5_cells_76 rfl 2 rfl ?_
  exact g_iretP F hQ dX5_cells_77 (⟨fun _ => 0, rfl, rfl⟩)

set_option maxHeartbeats 4000000 in
set_option maxRecDepth 100000 in
theorem c_X5_knots (E : gE) (y : Nat) (pa : Nat) (sa : Nat) (kp : Nat) (kk : Nat) (col : Int32) (car : Int32) (tur : Int32) (pre : Int32) (cl : Int32) (ko : Int32) (co : Nat) (r : Nat → Nat) (d : Nat → AF) (j : Nat) (hj : j < 8) : CtA E yX5_knots wsX5_knots ({ frames := 2, cells := 2, slots := 120, locals := 47 }) [.ref y, .ref co, .int (nI j)] ([(y, .inr (5, [.ref pa, .int col, .int car, .int tur, .int pre, .ref sa, .int cl, .ref kp, .ref kk, .int ko])), (co, qE E 8 r)] ++ (gW E r (fun _ => 12) d 8 ++ [])) (fun _ => some (.int (zKn d pre j))) (fun _ => []) := by
  refine CtP.of (cc := cX5_knots) (maxL := 3) (ret := (some .int)) (own := RX5) (L := [(0, .ref y), (1, .ref co), (2, .int (nI j))]) (by decide) rfl rfl (Nat.le_of_ble_eq_true rfl) rfl ?_
  intro X F hQ
  have i5 : ∀ w ∈ u_ws RX5 TX5 10, w ∈ wsX5_knots := gsub [13, 14, 15, 16, 17, 18, 19, 20, 21, 22] rfl
  refine g_aload_n F dX5_knots_0 rfl 0 rfl ?_
  refine g_get F dX5_knots_1 0 rfl rfl i5 4 (by decide) rfl (List.mem_of_getElem? (i := 1) rfl) ?_
  refine g_if_eq (tgt := 29) F dX5_knots_4 (by decide) (fun k4 => ?_) (fun k4 => ?_)
  · skip
    refine g_aload_n F dX5_knots_29 rfl 1 rfl ?_
    refine g_iload_n F dX5_knots_30 rfl 2 rfl ?_
    refine g_aald (k := j) F dX5_knots_31 1 rfl (by omega) (by first | decide | omega) rfl ?_
    obtain ⟨R32, hR32⟩ := prow1 (E := E) (r := r) (n := fun _ => 12) (c := d) (h := 8) (y := j) (S := [(y, .inr (5, [.ref pa, .int col, .int car, .int tur, .int pre, .ref sa, .int cl, .ref kp, .ref kk, .int ko])), (co, qE E 8 r)]) (B := []) (by omega)
    refine g_callSA (R := R32) F dX5_knots_32 (c_X5_runs E (r j) (d j)) rfl gX5_knots_X5_runs kS_X5_runs ⟨by decide, by decide⟩ hR32 rfl (Nat.le_of_ble_eq_true rfl) ⟨by show 0 + 2 ≤ 2; omega, by show 0 + 120 ≤ 120; omega⟩ (fun a32 => ?_)
    refine g_ws (ws' := ([((a32 0), .inl (E.2.2, ((zRun (d j) 12).2 - 0), .inl (fun k => (zRun (d j) 12).1 (0 + k)))), (y, .inr (5, [.ref pa, .int col, .int car, .int tur, .int pre, .ref sa, .int cl, .ref kp, .ref kk, .int ko])), (co, qE E 8 r)] ++ (gW E r (fun _ => 12) d 8 ++ []))) rfl ?_
    refine g_alen (v := nI ((zRun (d j) 12).2 - 0)) F dX5_knots_35 0 rfl rfl ?_
    refine g_iconst (v := 2) F dX5_knots_36 (by decide) ?_
    refine g_idiv F dX5_knots_37 (by decide) ?_
    refine g_topr (y := nI ((zRun (d j) 12).2 / 2)) (by rw [Nat.sub_zero]; exact pk_div (d := 2) (by have := zRun_n (d j) 12; omega) (by omega) (by omega)) ?_
    refine g_cs (cells' := 2) (slots' := 120) (by show 0 + 2 ≤ 2; omega) (by show 0 + 120 ≤ 120; omega) ?_
    refine g_perm (ws' := ([(y, .inr (5, [.ref pa, .int col, .int car, .int tur, .int pre, .ref sa, .int cl, .ref kp, .ref kk, .int ko])), (co, qE E 8 r)] ++ (gW E r (fun _ => 12) d 8 ++ [])) ++ ([((a32 0), .inl (E.2.2, ((zRun (d j) 12).2 - 0), .inl (fun k => (zRun (d j) 12).1 (0 + k))))] ++ [])) (ps4 (pmc (A := [_, _]) (pmc (A := []) (pmc (A := []) (List.Perm.nil)))) (by simp only [List.append_assoc, List.nil_append, List.append_nil]; exact List.Perm.refl _)) (g_drop ?_)
    exact g_iretP F hQ dX5_knots_38 (⟨fun _ => 0, congrArg (fun z => some (Value.int z)) (by first | rw [zKn, if_pos k4] | rw [zKn, if_neg k4, if_pos ((nI_le0 (by omega)).mp k8)] | rw [zKn, if_neg k4, if_neg (fun h => k8 ((nI_le0 (by omega)).mpr h)), if_neg (pIf0 k22)] | rw [zKn, if_neg k4, if_neg (fun h => k8 ((nI_le0 (by omega)).mpr h)), if_pos (pIf1 k22)]), rfl⟩)
  · skip
    refine g_iload_n F dX5_knots_7 rfl 2 rfl ?_
    refine g_if_le (tgt := 29) F dX5_knots_8 (by decide) (fun k8 => ?_) (fun k8 => ?_)
    · skip
      refine g_aload_n F dX5_knots_29 rfl 1 rfl ?_
      refine g_iload_n F dX5_knots_30 rfl 2 rfl ?_
      refine g_aald (k := j) F dX5_knots_31 1 rfl (by omega) (by first | decide | omega) rfl ?_
      obtain ⟨R32, hR32⟩ := prow1 (E := E) (r := r) (n := fun _ => 12) (c := d) (h := 8) (y := j) (S := [(y, .inr (5, [.ref pa, .int col, .int car, .int tur, .int pre, .ref sa, .int cl, .ref kp, .ref kk, .int ko])), (co, qE E 8 r)]) (B := []) (by omega)
      refine g_callSA (R := R32) F dX5_knots_32 (c_X5_runs E (r j) (d j)) rfl gX5_knots_X5_runs kS_X5_runs ⟨by decide, by decide⟩ hR32 rfl (Nat.le_of_ble_eq_true rfl) ⟨by show 0 + 2 ≤ 2; omega, by show 0 + 120 ≤ 120; omega⟩ (fun a32 => ?_)
      refine g_ws (ws' := ([((a32 0), .inl (E.2.2, ((zRun (d j) 12).2 - 0), .inl (fun k => (zRun (d j) 12).1 (0 + k)))), (y, .inr (5, [.ref pa, .int col, .int car, .int tur, .int pre, .ref sa, .int cl, .ref kp, .ref kk, .int ko])), (co, qE E 8 r)] ++ (gW E r (fun _ => 12) d 8 ++ []))) rfl ?_
      refine g_alen (v := nI ((zRun (d j) 12).2 - 0)) F dX5_knots_35 0 rfl rfl ?_
      refine g_iconst (v := 2) F dX5_knots_36 (by decide) ?_
      refine g_idiv F dX5_knots_37 (by decide) ?_
      refine g_topr (y := nI ((zRun (d j) 12).2 / 2)) (by rw [Nat.sub_zero]; exact pk_div (d := 2) (by have := zRun_n (d j) 12; omega) (by omega) (by omega)) ?_
      refine g_cs (cells' := 2) (slots' := 120) (by show 0 + 2 ≤ 2; omega) (by show 0 + 120 ≤ 120; omega) ?_
      refine g_perm (ws' := ([(y, .inr (5, [.ref pa, .int col, .int car, .int tur, .int pre, .ref sa, .int cl, .ref kp, .ref kk, .int ko])), (co, qE E 8 r)] ++ (gW E r (fun _ => 12) d 8 ++ [])) ++ ([((a32 0), .inl (E.2.2, ((zRun (d j) 12).2 - 0), .inl (fun k => (zRun (d j) 12).1 (0 + k))))] ++ [])) (ps4 (pmc (A := [_, _]) (pmc (A := []) (pmc (A := []) (List.Perm.nil)))) (by simp only [List.append_assoc, List.nil_append, List.append_nil]; exact List.Perm.refl _)) (g_drop ?_)
      exact g_iretP F hQ dX5_knots_38 (⟨fun _ => 0, congrArg (fun z => some (Value.int z)) (by first | rw [zKn, if_pos k4] | rw [zKn, if_neg k4, if_pos ((nI_le0 (by omega)).mp k8)] | rw [zKn, if_neg k4, if_neg (fun h => k8 ((nI_le0 (by omega)).mpr h)), if_neg (pIf0 k22)] | rw [zKn, if_neg k4, if_neg (fun h => k8 ((nI_le0 (by omega)).mpr h)), if_pos (pIf1 k22)]), rfl⟩)
    · skip
      refine g_aload_n F dX5_knots_11 rfl 1 rfl ?_
      refine g_iload_n F dX5_knots_12 rfl 2 rfl ?_
      refine g_aald (k := j) F dX5_knots_13 1 rfl (by omega) (by first | decide | omega) rfl ?_
      refine g_aload_n F dX5_knots_14 rfl 1 rfl ?_
      refine g_iload_n F dX5_knots_15 rfl 2 rfl ?_
      refine g_iconst (v := 1) F dX5_knots_16 (by decide) ?_
      refine g_isub F dX5_knots_17 ?_
      refine g_topr (y := nI (j - 1)) (pk_sub (b := 1) (by have := mt (nI_le0 (by omega)).mpr k8; omega)) ?_
      refine g_aald (k := j - 1) F dX5_knots_18 1 rfl (by omega) (by first | decide | omega) rfl ?_
      obtain ⟨R19, hR19⟩ := prow2 (E := E) (r := r) (n := fun _ => 12) (c := d) (h := 8) (y := j) (z := j - 1) (S := [(y, .inr (5, [.ref pa, .int col, .int car, .int tur, .int pre, .ref sa, .int cl, .ref kp, .ref kk, .int ko])), (co, qE E 8 r)]) (B := []) (by omega) (by omega) (by have := mt (nI_le0 (by omega)).mpr k8; omega)
      refine g_callSA (R := R19) F dX5_knots_19 (c_X5_isSame E (r j) (r (j - 1)) (d j) (d (j - 1))) rfl gX5_knots_X5_isSame kS_X5_isSame ⟨by decide, by decide⟩ hR19 rfl (Nat.le_of_ble_eq_true rfl) ⟨by show 0 + 0 ≤ 2; omega, by show 0 + 0 ≤ 120; omega⟩ (fun a19 => ?_)
      refine g_ws (ws' := ([(y, .inr (5, [.ref pa, .int col, .int car, .int tur, .int pre, .ref sa, .int cl, .ref kp, .ref kk, .int ko])), (co, qE E 8 r)] ++ (gW E r (fun _ => 12) d 8 ++ []))) rfl ?_
      refine g_if_eq (tgt := 29) F dX5_knots_22 (by decide) (fun k22 => ?_) (fun k22 => ?_)
      · skip
        refine g_aload_n F dX5_knots_29 rfl 1 rfl ?_
        refine g_iload_n F dX5_knots_30 rfl 2 rfl ?_
        refine g_aald (k := j) F dX5_knots_31 1 rfl (by omega) (by first | decide | omega) rfl ?_
        obtain ⟨R32, hR32⟩ := prow1 (E := E) (r := r) (n := fun _ => 12) (c := d) (h := 8) (y := j) (S := [(y, .inr (5, [.ref pa, .int col, .int car, .int tur, .int pre, .ref sa, .int cl, .ref kp, .ref kk, .int ko])), (co, qE E 8 r)]) (B := []) (by omega)
        refine g_callSA (R := R32) F dX5_knots_32 (c_X5_runs E (r j) (d j)) rfl gX5_knots_X5_runs kS_X5_runs ⟨by decide, by decide⟩ hR32 rfl (Nat.le_of_ble_eq_true rfl) ⟨by show 0 + 0 + 2 ≤ 2; omega, by show 0 + 0 + 120 ≤ 120; omega⟩ (fun a32 => ?_)
        refine g_ws (ws' := ([((a32 0), .inl (E.2.2, ((zRun (d j) 12).2 - 0), .inl (fun k => (zRun (d j) 12).1 (0 + k)))), (y, .inr (5, [.ref pa, .int col, .int car, .int tur, .int pre, .ref sa, .int cl, .ref kp, .ref kk, .int ko])), (co, qE E 8 r)] ++ (gW E r (fun _ => 12) d 8 ++ []))) rfl ?_
        refine g_alen (v := nI ((zRun (d j) 12).2 - 0)) F dX5_knots_35 0 rfl rfl ?_
        refine g_iconst (v := 2) F dX5_knots_36 (by decide) ?_
        refine g_idiv F dX5_knots_37 (by decide) ?_
        refine g_topr (y := nI ((zRun (d j) 12).2 / 2)) (by rw [Nat.sub_zero]; exact pk_div (d := 2) (by have := zRun_n (d j) 12; omega) (by omega) (by omega)) ?_
        refine g_cs (cells' := 2) (slots' := 120) (by show 0 + 0 + 2 ≤ 2; omega) (by show 0 + 0 + 120 ≤ 120; omega) ?_
        refine g_perm (ws' := ([(y, .inr (5, [.ref pa, .int col, .int car, .int tur, .int pre, .ref sa, .int cl, .ref kp, .ref kk, .int ko])), (co, qE E 8 r)] ++ (gW E r (fun _ => 12) d 8 ++ [])) ++ ([((a32 0), .inl (E.2.2, ((zRun (d j) 12).2 - 0), .inl (fun k => (zRun (d j) 12).1 (0 + k))))] ++ [])) (ps4 (pmc (A := [_, _]) (pmc (A := []) (pmc (A := []) (List.Perm.nil)))) (by simp only [List.append_assoc, List.nil_append, List.append_nil]; exact List.Perm.refl _)) (g_drop ?_)
        exact g_iretP F hQ dX5_knots_38 (⟨fun _ => 0, congrArg (fun z => some (Value.int z)) (by first | rw [zKn, if_pos k4] | rw [zKn, if_neg k4, if_pos ((nI_le0 (by omega)).mp k8)] | rw [zKn, if_neg k4, if_neg (fun h => k8 ((nI_le0 (by omega)).mpr h)), if_neg (pIf0 k22)] | rw [zKn, if_neg k4, if_neg (fun h => k8 ((nI_le0 (by omega)).mpr h)), if_pos (pIf1 k22)]), rfl⟩)
      · skip
        refine g_iconst (v := 1) F dX5_knots_25 (by decide) ?_
        refine g_goto (tgt := 38) F dX5_knots_26 (by decide) ?_
        refine g_cs (cells' := 2) (slots' := 120) (by show 0 + 0 ≤ 2; omega) (by show 0 + 0 ≤ 120; omega) ?_
        exact g_iretP F hQ dX5_knots_38 (⟨fun _ => 0, congrArg (fun z => some (Value.int z)) (by first | rw [zKn, if_pos k4] | rw [zKn, if_neg k4, if_pos ((nI_le0 (by omega)).mp k8)] | rw [zKn, if_neg k4, if_neg (fun h => k8 ((nI_le0 (by omega)).mpr h)), if_neg (pIf0 k22)] | rw [zKn, if_neg k4, if_neg (fun h => k8 ((nI_le0 (by omega)).mpr h)), if_pos (pIf1 k22)]), rfl⟩)

set_option maxHeartbeats 4000000 in
set_option maxRecDepth 100000 in
theorem c_X5_knots_ (E : gE) (y : Nat) (pa : Nat) (sa : Nat) (kp : Nat) (kk : Nat) (col : Int32) (car : Int32) (tur : Int32) (pre : Int32) (cl : Int32) (ko : Int32) (co : Nat) (r : Nat → Nat) (d : Nat → AF) : CtA E yX5_knots_ wsX5_knots_ ({ frames := 3, cells := 16, slots := 960, locals := 69 }) [.ref y, .ref co] ([(y, .inr (5, [.ref pa, .int col, .int car, .int tur, .int pre, .ref sa, .int cl, .ref kp, .ref kk, .int ko])), (co, qE E 8 r)] ++ (gW E r (fun _ => 12) d 8 ++ [])) (fun _ => some (.int (zAK d pre 8))) (fun _ => []) := by
  refine CtP.of (cc := cX5_knots_) (maxL := 4) (ret := (some .int)) (own := RX5) (L := [(0, .ref y), (1, .ref co)]) (by decide) rfl rfl (Nat.le_of_ble_eq_true rfl) rfl ?_
  intro X F hQ
  have i5 : ∀ w ∈ u_ws RX5 TX5 10, w ∈ wsX5_knots_ := gsub [17, 18, 19, 20, 21, 22, 23, 24, 25, 26] rfl
  refine g_iconst (v := 0) F dX5_knots__0 (by decide) ?_
  refine g_istore_n (L' := [(0, .ref y), (1, .ref co), (2, .int 0)]) F dX5_knots__1 rfl (by decide) [1, 2, 0] rfl ?_
  refine g_iconst (v := 0) F dX5_knots__2 (by decide) ?_
  refine g_istore_n (L' := [(0, .ref y), (1, .ref co), (2, .int 0), (3, .int 0)]) F dX5_knots__3 rfl (by decide) [1, 2, 3, 0] rfl ?_
  have lp4 : ∀ (n4 i4 : Nat), i4 + n4 = 8 → G E X (i4 * 2) (i4 * 120) 4 [(0, .ref y), (1, .ref co), (2, .int (zAK d pre i4)), (3, .int (nI i4))] [] ([(y, .inr (5, [.ref pa, .int col, .int car, .int tur, .int pre, .ref sa, .int cl, .ref kp, .ref kk, .int ko])), (co, qE E 8 r)] ++ (gW E r (fun _ => 12) d 8 ++ [])) := by
    intro n4
    induction n4 with
    | zero =>
      intro i4 hi4
      have he4 : i4 = 8 := by omega
      rw [he4]
      refine g_iload_n F dX5_knots__4 rfl 3 rfl ?_
      refine g_aload_n F dX5_knots__5 rfl 1 rfl ?_
      refine g_alenx (v := 8) F dX5_knots__6 1 1 rfl rfl rfl ?_
      refine g_icmp_ge_t (tgt := 25) F dX5_knots__7 (by decide) (by decide) ?_
      refine g_iload_n F dX5_knots__25 rfl 2 rfl ?_
      refine g_cs (cells' := 16) (slots' := 960) (by show 8 * 2 ≤ 16; omega) (by show 8 * 120 ≤ 960; omega) ?_
      exact g_iretP F hQ dX5_knots__26 (⟨fun _ => 0, rfl, rfl⟩)
    | succ n4 ih4 =>
      intro i4 hi4
      have hl4 : i4 < 8 := by omega
      refine g_iload_n F dX5_knots__4 rfl 3 rfl ?_
      refine g_aload_n F dX5_knots__5 rfl 1 rfl ?_
      refine g_alenx (v := 8) F dX5_knots__6 1 1 rfl rfl rfl ?_
      refine g_icmp_ge_f (tgt := 25) F dX5_knots__7 (by decide) (nle_nI (n := 8) hl4 (by omega)) ?_
      refine g_iload_n F dX5_knots__10 rfl 2 rfl ?_
      refine g_aload_n F dX5_knots__11 rfl 0 rfl ?_
      refine g_aload_n F dX5_knots__12 rfl 1 rfl ?_
      refine g_iload_n F dX5_knots__13 rfl 3 rfl ?_
      refine g_callVA (R := ([] ++ [])) F dX5_knots__14 (c_X5_knots E y pa sa kp kk col car tur pre cl ko co r d i4 (by first | assumption | decide | omega)) rfl gX5_knots__X5_knots (List.mem_of_getElem? (i := 0) rfl) rfl kV_X5_knots ⟨by decide, by decide⟩ (ps4 (pmc (A := []) (pmc (A := []) (List.Perm.nil))) (by simp only [List.append_assoc, List.nil_append, List.append_nil]; exact List.Perm.refl _)) rfl (Nat.le_of_ble_eq_true rfl) ⟨by show i4 * 2 + 2 ≤ 16; omega, by show i4 * 120 + 120 ≤ 960; omega⟩ (fun a14 => ?_)
      refine g_ws (ws' := ([(y, .inr (5, [.ref pa, .int col, .int car, .int tur, .int pre, .ref sa, .int cl, .ref kp, .ref kk, .int ko])), (co, qE E 8 r)] ++ (gW E r (fun _ => 12) d 8 ++ []))) rfl ?_
      refine g_iadd F dX5_knots__17 ?_
      refine g_istore_n (L' := [(0, .ref y), (1, .ref co), (2, .int ((zAK d pre i4) + (zKn d pre i4))), (3, .int (nI i4))]) F dX5_knots__18 rfl (by decide) [1, 2, 0, 3] rfl ?_
      refine g_iinc (L' := [(0, .ref y), (1, .ref co), (2, .int ((zAK d pre i4) + (zKn d pre i4))), (3, .int (nI (i4 + 1)))]) (v := nI (i4 + 1)) F dX5_knots__19 3 rfl (nI_1 _) (by decide) [1, 2, 3, 0] rfl ?_
      refine g_goto (tgt := 4) F dX5_knots__22 (by decide) ?_
      refine g_cs (cells' := ((i4 + 1) * 2)) (slots' := ((i4 + 1) * 120)) (by show i4 * 2 + 2 ≤ (i4 + 1) * 2; omega) (by show i4 * 120 + 120 ≤ (i4 + 1) * 120; omega) ?_
      exact ih4 (i4 + 1) (by omega)
  refine g_cs (cells' := (0 * 2)) (slots' := (0 * 120)) (by show 0 ≤ 0 * 2; omega) (by show 0 ≤ 0 * 120; omega) ?_
  exact lp4 8 0 (by omega)

set_option maxHeartbeats 4000000 in
set_option maxRecDepth 100000 in
theorem c_X5_knots_0 (E : gE) (y : Nat) (pa : Nat) (sa : Nat) (kp : Nat) (kk : Nat) (col : Int32) (car : Int32) (tur : Int32) (pre : Int32) (cl : Int32) (ko : Int32) (co : Nat) (g : Nat → Option Nat) : CtA E yX5_knots_ wsX5_knots_ ({ frames := 3, cells := 0, slots := 0, locals := 69 }) [.ref y, .ref co] [(y, .inr (5, [.ref pa, .int col, .int car, .int tur, .int pre, .ref sa, .int cl, .ref kp, .ref kk, .int ko])), (co, qF E 0 g)] (fun _ => some (.int 0)) (fun _ => []) := by
  refine CtP.of (cc := cX5_knots_) (maxL := 4) (ret := (some .int)) (own := RX5) (L := [(0, .ref y), (1, .ref co)]) (by decide) rfl rfl (Nat.le_of_ble_eq_true rfl) rfl ?_
  intro X F hQ
  have i5 : ∀ w ∈ u_ws RX5 TX5 10, w ∈ wsX5_knots_ := gsub [17, 18, 19, 20, 21, 22, 23, 24, 25, 26] rfl
  refine g_iconst (v := 0) F dX5_knots__0 (by decide) ?_
  refine g_istore_n (L' := [(0, .ref y), (1, .ref co), (2, .int 0)]) F dX5_knots__1 rfl (by decide) [1, 2, 0] rfl ?_
  refine g_iconst (v := 0) F dX5_knots__2 (by decide) ?_
  refine g_istore_n (L' := [(0, .ref y), (1, .ref co), (2, .int 0), (3, .int 0)]) F dX5_knots__3 rfl (by decide) [1, 2, 3, 0] rfl ?_
  refine g_iload_n F dX5_knots__4 rfl 3 rfl ?_
  refine g_aload_n F dX5_knots__5 rfl 1 rfl ?_
  refine g_alenx (v := 0) F dX5_knots__6 1 1 rfl rfl rfl ?_
  refine g_icmp_ge_t (tgt := 25) F dX5_knots__7 (by decide) (by decide) ?_
  refine g_iload_n F dX5_knots__25 rfl 2 rfl ?_
  exact g_iretP F hQ dX5_knots__26 (⟨fun _ => 0, rfl, rfl⟩)
end SIMA
