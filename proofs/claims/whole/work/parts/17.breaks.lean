/-- max -/
theorem e_Math_max (G : gG) (M : gM) (x y : Int32) : Ev G 0 m_Math_max [.int x, .int y] M (some (.int (if x < y then y else x))) M := by
  refine Ev.of (Nat.le_of_ble_eq_true rfl) ?_
  show EvF G 0 m_Math_max (0, [(0, .int x), (1, .int y)], [], M) _ _
  refine EvF.gop 1 (go_iload_n d_Math_max_0 rfl 0 rfl) rfl ?_
  refine EvF.gop 2 (go_iload_n d_Math_max_1 rfl 1 rfl) rfl ?_
  by_cases c1 : x < y
  · have c1x : ¬ y ≤ x := Int32.not_le.mpr c1
    refine EvF.gop 9 (go_icmp_lt_t 9 d_Math_max_2 (by decide) (c1)) rfl ?_
    refine EvF.gop 10 (go_iload_n d_Math_max_9 rfl 1 rfl) rfl ?_
    exact EvF.ri d_Math_max_10 rfl (by simp [*]) (rfl)
  · have c1x : y ≤ x := Int32.not_lt.mp c1
    refine EvF.gop 5 (go_icmp_lt_f 9 d_Math_max_2 (by decide) (c1)) rfl ?_
    refine EvF.gop 6 (go_iload_n d_Math_max_5 rfl 0 rfl) rfl ?_
    refine EvF.gop 10 (go_goto 10 d_Math_max_6 (by decide)) rfl ?_
    exact EvF.ri d_Math_max_10 rfl (by simp [*]) (rfl)
/-- abs -/
theorem e_Math_abs (G : gG) (M : gM) (x : Int32) : Ev G 0 m_Math_abs [.int x] M (some (.int (if 0 ≤ x then x else -x))) M := by
  refine Ev.of (Nat.le_of_ble_eq_true rfl) ?_
  show EvF G 0 m_Math_abs (0, [(0, .int x)], [], M) _ _
  refine EvF.gop 1 (go_iload_n d_Math_abs_0 rfl 0 rfl) rfl ?_
  by_cases c1 : 0 ≤ x
  · have c1x : ¬ x < 0 := Int32.not_lt.mpr c1
    refine EvF.gop 9 (go_if_ge_t 9 d_Math_abs_1 (by decide) (c1)) rfl ?_
    refine EvF.gop 10 (go_iload_n d_Math_abs_9 rfl 0 rfl) rfl ?_
    exact EvF.ri d_Math_abs_10 rfl (by simp [*]) (rfl)
  · have c1x : x < 0 := Int32.not_le.mp c1
    refine EvF.gop 4 (go_if_ge_f 9 d_Math_abs_1 (by decide) (c1)) rfl ?_
    refine EvF.gop 5 (go_iload_n d_Math_abs_4 rfl 0 rfl) rfl ?_
    refine EvF.gop 6 (go_ineg d_Math_abs_5) rfl ?_
    refine EvF.gop 10 (go_goto 10 d_Math_abs_6 (by decide)) rfl ?_
    exact EvF.ri d_Math_abs_10 rfl (by simp [*]) (rfl)
def fdI (x y : Int32) : Int32 := if (x ^^^ y) < 0 then (if x / y * y = x then x / y else x / y - 1) else x / y
/-- floorDiv -/
theorem e_Math_floorDiv (G : gG) (M : gM) (x y : Int32) (hy : ¬ y = 0) : Ev G 0 m_Math_floorDiv [.int x, .int y] M (some (.int (fdI x y))) M := by
  refine Ev.of (Nat.le_of_ble_eq_true rfl) ?_
  show EvF G 0 m_Math_floorDiv (0, [(0, .int x), (1, .int y)], [], M) _ _
  refine EvF.gop 1 (go_iload_n d_Math_floorDiv_0 rfl 0 rfl) rfl ?_
  refine EvF.gop 2 (go_iload_n d_Math_floorDiv_1 rfl 1 rfl) rfl ?_
  refine EvF.gop 3 (go_idiv d_Math_floorDiv_2 (hy)) rfl ?_
  refine EvF.gop 4 (go_istore_n [(2, .int (x / y)), (0, .int x), (1, .int y)] d_Math_floorDiv_3 rfl (by decide) rfl) rfl ?_
  refine EvF.go (go_pick [1, 2, 0] [(0, .int x), (1, .int y), (2, .int (x / y))] rfl) ?_
  refine EvF.gop 5 (go_iload_n d_Math_floorDiv_4 rfl 0 rfl) rfl ?_
  refine EvF.gop 6 (go_iload_n d_Math_floorDiv_5 rfl 1 rfl) rfl ?_
  refine EvF.gop 7 (go_ixor d_Math_floorDiv_6) rfl ?_
  by_cases c1 : 0 ≤ (x ^^^ y)
  · have c1x : ¬ (x ^^^ y) < 0 := Int32.not_lt.mpr c1
    refine EvF.gop 21 (go_if_ge_t 21 d_Math_floorDiv_7 (by decide) (c1)) rfl ?_
    refine EvF.gop 22 (go_iload_n d_Math_floorDiv_21 rfl 2 rfl) rfl ?_
    exact EvF.ri d_Math_floorDiv_22 rfl (by simp [fdI, *]) (rfl)
  · have c1x : (x ^^^ y) < 0 := Int32.not_le.mp c1
    refine EvF.gop 10 (go_if_ge_f 21 d_Math_floorDiv_7 (by decide) (c1)) rfl ?_
    refine EvF.gop 11 (go_iload_n d_Math_floorDiv_10 rfl 2 rfl) rfl ?_
    refine EvF.gop 12 (go_iload_n d_Math_floorDiv_11 rfl 1 rfl) rfl ?_
    refine EvF.gop 13 (go_imul d_Math_floorDiv_12) rfl ?_
    refine EvF.gop 14 (go_iload_n d_Math_floorDiv_13 rfl 0 rfl) rfl ?_
    by_cases c2 : ((x / y) * y) = x
    · refine EvF.gop 21 (go_icmp_eq_t 21 d_Math_floorDiv_14 (by decide) (c2)) rfl ?_
      refine EvF.gop 22 (go_iload_n d_Math_floorDiv_21 rfl 2 rfl) rfl ?_
      exact EvF.ri d_Math_floorDiv_22 rfl (by simp [fdI, *]) (rfl)
    · refine EvF.gop 17 (go_icmp_eq_f 21 d_Math_floorDiv_14 (by decide) (c2)) rfl ?_
      refine EvF.gop 18 (go_iload_n d_Math_floorDiv_17 rfl 2 rfl) rfl ?_
      refine EvF.gop 19 (go_iconst (v := 1) d_Math_floorDiv_18 (by decide)) rfl ?_
      refine EvF.gop 20 (go_isub d_Math_floorDiv_19) rfl ?_
      exact EvF.ri d_Math_floorDiv_20 rfl (by simp [fdI, *]) (rfl)
abbrev bS : Type := Nat × (Nat → Int32) × (Nat → Int32) × (Nat → Int32)
/-- one more break, if there is room -/
def bA (x y z : Int32) (S : bS) : Bool × bS := if S.1 = 24 then (false, S) else (true, (S.1 + 1, upd S.2.1 (S.1 + 1) x, upd S.2.2.1 (S.1 + 1) y, upd S.2.2.2 (S.1 + 1) z))
def bAt (tn : Nat) (c : Nat → Int32) (k : Nat) (S : bS) : Bool × bS :=
  if c k = 32 then bA 0 (nI k) (nI (k + 1)) S else if c k = 124 then bA 3 (nI k) (nI (k + 1)) S
  else if c k = 45 ∧ k + 1 < tn then bA 1 (nI (k + 1)) (if c (k + 1) = 32 then nI (k + 2) else nI (k + 1)) S else (true, S)
def bP (pt : Nat → Bool) (k : Nat) (S : bS) : Bool × bS := if pt k = true then bA 2 (nI k) (nI k) S else (true, S)
def bkF (tn : Nat) (c : Nat → Int32) (pt : Nat → Bool) : Nat → Nat → bS → Bool × bS
  | 0, _, S => if tn = 0 then (true, S) else bA 4 (nI tn) (nI tn) S
  | r + 1, k, S => if (bP pt k S).1 = true then (if (bAt tn c k (bP pt k S).2).1 = true then bkF tn c pt r (k + 1) (bAt tn c k (bP pt k S).2).2 else (false, (bAt tn c k (bP pt k S).2).2)) else (false, (bP pt k S).2)
theorem bA_le {x y z : Int32} {S : bS} (h : S.1 ≤ 24) : (bA x y z S).2.1 ≤ 24 := by
  unfold bA
  split
  · exact h
  · show S.1 + 1 ≤ 24
    omega
theorem bAt_le {tn k : Nat} {c : Nat → Int32} {S : bS} (h : S.1 ≤ 24) : (bAt tn c k S).2.1 ≤ 24 := by
  unfold bAt
  split
  · exact bA_le h
  · split
    · exact bA_le h
    · split
      · exact bA_le h
      · exact h
theorem bP_le {pt : Nat → Bool} {k : Nat} {S : bS} (h : S.1 ≤ 24) : (bP pt k S).2.1 ≤ 24 := by
  unfold bP
  split
  · exact bA_le h
  · exact h
def D4 (b bk be bb : Nat) : Prop := b ≠ bk ∧ b ≠ be ∧ b ≠ bb ∧ bk ≠ be ∧ bk ≠ bb ∧ be ≠ bb
/-- the memory M with the breaks S in the cells of b -/
abbrev mB (G : gG) (M : gM) (b bk be bb : Nat) (S : bS) : gM := gWr (gWr (gWr (gWr M b (.inr (6, [.ref bk, .ref be, .ref bb, .int (nI S.1)]))) bk (aI G 25 S.2.1)) be (aI G 25 S.2.2.1)) bb (aI G 25 S.2.2.2)
theorem e_Brk_add (G : gG) (M : gM) (b bk be bb : Nat) (S : bS) (x y z : Int32) (hD : D4 b bk be bb) (hn : S.1 ≤ 24) : Ev G 0 m_Brk_add [.ref b, .int x, .int y, .int z] (gWr (gWr (gWr (gWr M b (.inr (6, [.ref bk, .ref be, .ref bb, .int (nI S.1)]))) bk (aI G 25 S.2.1)) be (aI G 25 S.2.2.1)) bb (aI G 25 S.2.2.2)) (some (.int (bI (bA x y z S).1))) (gWr (gWr (gWr (gWr M b (.inr (6, [.ref bk, .ref be, .ref bb, .int (nI (bA x y z S).2.1)]))) bk (aI G 25 ((bA x y z S).2.2.1))) be (aI G 25 ((bA x y z S).2.2.2.1))) bb (aI G 25 ((bA x y z S).2.2.2.2))) := by
  refine Ev.of (Nat.le_of_ble_eq_true rfl) ?_
  show EvF G 0 m_Brk_add (0, [(0, .ref b), (1, .int x), (2, .int y), (3, .int z)], [], (gWr (gWr (gWr (gWr M b (.inr (6, [.ref bk, .ref be, .ref bb, .int (nI S.1)]))) bk (aI G 25 S.2.1)) be (aI G 25 S.2.2.1)) bb (aI G 25 S.2.2.2))) _ _
  refine EvF.gop 1 (go_aload_n d_Brk_add_0 rfl 0 rfl) rfl ?_
  refine EvF.gop 4 (go_get f_Brk_21 d_Brk_add_1 ((gRd_n _ _ hD.2.2.1).trans ((gRd_n _ _ hD.2.1).trans ((gRd_n _ _ hD.1).trans (gRd_s _ _ _)))) rfl) rfl ?_
  refine EvF.gop 6 (go_bipush (v := 24) d_Brk_add_4 (by decide)) rfl ?_
  by_cases c1 : (nI S.1) = 24
  · have c1x : S.1 = 24 := (nI_eq (a := S.1) (b := 24) (by omega) (by decide)).mp c1
    refine EvF.gop 9 (go_icmp_ne_f 11 d_Brk_add_6 (by decide) (c1)) rfl ?_
    refine EvF.gop 10 (go_iconst (v := 0) d_Brk_add_9 (by decide)) rfl ?_
    exact EvF.rz d_Brk_add_10 rfl (by decide) (by simp [bI, bA, *]) (by simp [bA, *])
  · have c1x : ¬ S.1 = 24 := fun q9 => c1 ((nI_eq (a := S.1) (b := 24) (by omega) (by decide)).mpr q9)
    refine EvF.gop 11 (go_icmp_ne_t 11 d_Brk_add_6 (by decide) (c1)) rfl ?_
    refine EvF.gop 12 (go_aload_n d_Brk_add_11 rfl 0 rfl) rfl ?_
    refine EvF.gop 13 (go_dup d_Brk_add_12 rfl) rfl ?_
    refine EvF.gop 16 (go_get f_Brk_21 d_Brk_add_13 ((gRd_n _ _ hD.2.2.1).trans ((gRd_n _ _ hD.2.1).trans ((gRd_n _ _ hD.1).trans (gRd_s _ _ _)))) rfl) rfl ?_
    refine EvF.gop 17 (go_iconst (v := 1) d_Brk_add_16 (by decide)) rfl ?_
    refine EvF.gop 18 (go_iadd d_Brk_add_17) rfl ?_
    refine EvF.go (go_v (y := nI (S.1 + 1)) (nI_1 S.1)) ?_
    refine EvF.gop 21 (go_put [.ref bk, .ref be, .ref bb, .int (nI (S.1 + 1))] f_Brk_21 ft_Brk_3 d_Brk_add_18 ((gRd_n _ _ hD.2.2.1).trans ((gRd_n _ _ hD.2.1).trans ((gRd_n _ _ hD.1).trans (gRd_s _ _ _)))) (rfl) (rfl) (Nat.le_of_ble_eq_true rfl) rfl) rfl ?_
    refine EvF.go (go_m (M' := (gWr (gWr (gWr (gWr M b (.inr (6, [.ref bk, .ref be, .ref bb, .int (nI (S.1 + 1))]))) bk (aI G 25 S.2.1)) be (aI G 25 S.2.2.1)) bb (aI G 25 S.2.2.2))) ((gWr_cm (gWr (gWr (gWr M b (.inr (6, [.ref bk, .ref be, .ref bb, .int (nI S.1)]))) bk (aI G 25 S.2.1)) be (aI G 25 S.2.2.1)) (aI G 25 S.2.2.2) (.inr (6, [.ref bk, .ref be, .ref bb, .int (nI (S.1 + 1))])) (Ne.symm hD.2.2.1)).trans (congrArg (fun m => gWr m bb (aI G 25 S.2.2.2)) ((gWr_cm (gWr (gWr M b (.inr (6, [.ref bk, .ref be, .ref bb, .int (nI S.1)]))) bk (aI G 25 S.2.1)) (aI G 25 S.2.2.1) (.inr (6, [.ref bk, .ref be, .ref bb, .int (nI (S.1 + 1))])) (Ne.symm hD.2.1)).trans (congrArg (fun m => gWr m be (aI G 25 S.2.2.1)) ((gWr_cm (gWr M b (.inr (6, [.ref bk, .ref be, .ref bb, .int (nI S.1)]))) (aI G 25 S.2.1) (.inr (6, [.ref bk, .ref be, .ref bb, .int (nI (S.1 + 1))])) (Ne.symm hD.1)).trans (congrArg (fun m => gWr m bk (aI G 25 S.2.1)) (gWr_wr M b (.inr (6, [.ref bk, .ref be, .ref bb, .int (nI S.1)])) (.inr (6, [.ref bk, .ref be, .ref bb, .int (nI (S.1 + 1))])))))))))) ?_
    refine EvF.gop 22 (go_aload_n d_Brk_add_21 rfl 0 rfl) rfl ?_
    refine EvF.gop 25 (go_get f_Brk_9 d_Brk_add_22 ((gRd_n _ _ hD.2.2.1).trans ((gRd_n _ _ hD.2.1).trans ((gRd_n _ _ hD.1).trans (gRd_s _ _ _)))) rfl) rfl ?_
    refine EvF.gop 26 (go_aload_n d_Brk_add_25 rfl 0 rfl) rfl ?_
    refine EvF.gop 29 (go_get f_Brk_21 d_Brk_add_26 ((gRd_n _ _ hD.2.2.1).trans ((gRd_n _ _ hD.2.1).trans ((gRd_n _ _ hD.1).trans (gRd_s _ _ _)))) rfl) rfl ?_
    refine EvF.gop 30 (go_iload_n d_Brk_add_29 rfl 1 rfl) rfl ?_
    refine EvF.gop 31 (go_iast (j := (S.1 + 1)) d_Brk_add_30 ((gRd_n _ _ hD.2.2.2.2.1).trans ((gRd_n _ _ hD.2.2.2.1).trans (gRd_s _ _ _))) (rfl) (by omega) (by omega)) rfl ?_
    refine EvF.go (go_m (M' := (gWr (gWr (gWr (gWr M b (.inr (6, [.ref bk, .ref be, .ref bb, .int (nI (S.1 + 1))]))) bk (aI G 25 (upd S.2.1 (S.1 + 1) x))) be (aI G 25 S.2.2.1)) bb (aI G 25 S.2.2.2))) ((gWr_cm (gWr (gWr (gWr M b (.inr (6, [.ref bk, .ref be, .ref bb, .int (nI (S.1 + 1))]))) bk (aI G 25 S.2.1)) be (aI G 25 S.2.2.1)) (aI G 25 S.2.2.2) (aI G 25 (upd S.2.1 (S.1 + 1) x)) (Ne.symm hD.2.2.2.2.1)).trans (congrArg (fun m => gWr m bb (aI G 25 S.2.2.2)) ((gWr_cm (gWr (gWr M b (.inr (6, [.ref bk, .ref be, .ref bb, .int (nI (S.1 + 1))]))) bk (aI G 25 S.2.1)) (aI G 25 S.2.2.1) (aI G 25 (upd S.2.1 (S.1 + 1) x)) (Ne.symm hD.2.2.2.1)).trans (congrArg (fun m => gWr m be (aI G 25 S.2.2.1)) (gWr_wr (gWr M b (.inr (6, [.ref bk, .ref be, .ref bb, .int (nI (S.1 + 1))]))) bk (aI G 25 S.2.1) (aI G 25 (upd S.2.1 (S.1 + 1) x)))))))) ?_
    refine EvF.gop 32 (go_aload_n d_Brk_add_31 rfl 0 rfl) rfl ?_
    refine EvF.gop 35 (go_get f_Brk_15 d_Brk_add_32 ((gRd_n _ _ hD.2.2.1).trans ((gRd_n _ _ hD.2.1).trans ((gRd_n _ _ hD.1).trans (gRd_s _ _ _)))) rfl) rfl ?_
    refine EvF.gop 36 (go_aload_n d_Brk_add_35 rfl 0 rfl) rfl ?_
    refine EvF.gop 39 (go_get f_Brk_21 d_Brk_add_36 ((gRd_n _ _ hD.2.2.1).trans ((gRd_n _ _ hD.2.1).trans ((gRd_n _ _ hD.1).trans (gRd_s _ _ _)))) rfl) rfl ?_
    refine EvF.gop 40 (go_iload_n d_Brk_add_39 rfl 2 rfl) rfl ?_
    refine EvF.gop 41 (go_iast (j := (S.1 + 1)) d_Brk_add_40 ((gRd_n _ _ hD.2.2.2.2.2).trans (gRd_s _ _ _)) (rfl) (by omega) (by omega)) rfl ?_
    refine EvF.go (go_m (M' := (gWr (gWr (gWr (gWr M b (.inr (6, [.ref bk, .ref be, .ref bb, .int (nI (S.1 + 1))]))) bk (aI G 25 (upd S.2.1 (S.1 + 1) x))) be (aI G 25 (upd S.2.2.1 (S.1 + 1) y))) bb (aI G 25 S.2.2.2))) ((gWr_cm (gWr (gWr (gWr M b (.inr (6, [.ref bk, .ref be, .ref bb, .int (nI (S.1 + 1))]))) bk (aI G 25 (upd S.2.1 (S.1 + 1) x))) be (aI G 25 S.2.2.1)) (aI G 25 S.2.2.2) (aI G 25 (upd S.2.2.1 (S.1 + 1) y)) (Ne.symm hD.2.2.2.2.2)).trans (congrArg (fun m => gWr m bb (aI G 25 S.2.2.2)) (gWr_wr (gWr (gWr M b (.inr (6, [.ref bk, .ref be, .ref bb, .int (nI (S.1 + 1))]))) bk (aI G 25 (upd S.2.1 (S.1 + 1) x))) be (aI G 25 S.2.2.1) (aI G 25 (upd S.2.2.1 (S.1 + 1) y)))))) ?_
    refine EvF.gop 42 (go_aload_n d_Brk_add_41 rfl 0 rfl) rfl ?_
    refine EvF.gop 45 (go_get f_Brk_18 d_Brk_add_42 ((gRd_n _ _ hD.2.2.1).trans ((gRd_n _ _ hD.2.1).trans ((gRd_n _ _ hD.1).trans (gRd_s _ _ _)))) rfl) rfl ?_
    refine EvF.gop 46 (go_aload_n d_Brk_add_45 rfl 0 rfl) rfl ?_
    refine EvF.gop 49 (go_get f_Brk_21 d_Brk_add_46 ((gRd_n _ _ hD.2.2.1).trans ((gRd_n _ _ hD.2.1).trans ((gRd_n _ _ hD.1).trans (gRd_s _ _ _)))) rfl) rfl ?_
    refine EvF.gop 50 (go_iload_n d_Brk_add_49 rfl 3 rfl) rfl ?_
    refine EvF.gop 51 (go_iast (j := (S.1 + 1)) d_Brk_add_50 (gRd_s _ _ _) (rfl) (by omega) (by omega)) rfl ?_
    refine EvF.go (go_m (M' := (gWr (gWr (gWr (gWr M b (.inr (6, [.ref bk, .ref be, .ref bb, .int (nI (S.1 + 1))]))) bk (aI G 25 (upd S.2.1 (S.1 + 1) x))) be (aI G 25 (upd S.2.2.1 (S.1 + 1) y))) bb (aI G 25 (upd S.2.2.2 (S.1 + 1) z)))) (gWr_wr (gWr (gWr (gWr M b (.inr (6, [.ref bk, .ref be, .ref bb, .int (nI (S.1 + 1))]))) bk (aI G 25 (upd S.2.1 (S.1 + 1) x))) be (aI G 25 (upd S.2.2.1 (S.1 + 1) y))) bb (aI G 25 S.2.2.2) (aI G 25 (upd S.2.2.2 (S.1 + 1) z)))) ?_
    refine EvF.gop 52 (go_iconst (v := 1) d_Brk_add_51 (by decide)) rfl ?_
    exact EvF.rz d_Brk_add_52 rfl (by decide) (by simp [bI, bA, *]) (by simp [bA, *])
theorem e_Brk_addAt (G : gG) (M : gM) (b bk be bb : Nat) (S : bS) (t tc ts tn : Nat) (c s : Nat → Int32) (k : Nat) (hD : D4 b bk be bb) (hn : S.1 ≤ 24) (t1 : gRd M t = some (.inr (3, [.ref tc, .ref ts, .int (nI tn)]))) (t2 : gRd M tc = some (aI G 120 c)) (t3 : gRd M ts = some (aI G 120 s)) (htn : tn ≤ 120) (hcs : tc ≠ ts) (hT : ∀ q, (q = t ∨ q = tc ∨ q = ts) → q ≠ b ∧ q ≠ bk ∧ q ≠ be ∧ q ≠ bb) (hk : k < tn) : Ev G 1 m_Brk_addAt [.ref b, .ref t, .int (nI k)] (gWr (gWr (gWr (gWr M b (.inr (6, [.ref bk, .ref be, .ref bb, .int (nI S.1)]))) bk (aI G 25 S.2.1)) be (aI G 25 S.2.2.1)) bb (aI G 25 S.2.2.2)) (some (.int (bI (bAt tn c k S).1))) (gWr (gWr (gWr (gWr M b (.inr (6, [.ref bk, .ref be, .ref bb, .int (nI (bAt tn c k S).2.1)]))) bk (aI G 25 ((bAt tn c k S).2.2.1))) be (aI G 25 ((bAt tn c k S).2.2.2.1))) bb (aI G 25 ((bAt tn c k S).2.2.2.2))) := by
  refine Ev.of (Nat.le_of_ble_eq_true rfl) ?_
  show EvF G 1 m_Brk_addAt (0, [(0, .ref b), (1, .ref t), (2, .int (nI k))], [], (gWr (gWr (gWr (gWr M b (.inr (6, [.ref bk, .ref be, .ref bb, .int (nI S.1)]))) bk (aI G 25 S.2.1)) be (aI G 25 S.2.2.1)) bb (aI G 25 S.2.2.2))) _ _
  refine EvF.gop 1 (go_aload_n d_Brk_addAt_0 rfl 1 rfl) rfl ?_
  refine EvF.gop 4 (go_get f_Brk_42 d_Brk_addAt_1 ((gRd_n _ _ ((hT _ (Or.inl rfl)).2.2.2)).trans ((gRd_n _ _ ((hT _ (Or.inl rfl)).2.2.1)).trans ((gRd_n _ _ ((hT _ (Or.inl rfl)).2.1)).trans ((gRd_n _ _ ((hT _ (Or.inl rfl)).1)).trans (t1))))) rfl) rfl ?_
  refine EvF.gop 5 (go_iload_n d_Brk_addAt_4 rfl 2 rfl) rfl ?_
  refine EvF.gop 6 (go_iald (j := k) d_Brk_addAt_5 ((gRd_n _ _ ((hT _ (Or.inr (Or.inl rfl))).2.2.2)).trans ((gRd_n _ _ ((hT _ (Or.inr (Or.inl rfl))).2.2.1)).trans ((gRd_n _ _ ((hT _ (Or.inr (Or.inl rfl))).2.1)).trans ((gRd_n _ _ ((hT _ (Or.inr (Or.inl rfl))).1)).trans (t2))))) (rfl) (by omega) (by omega)) rfl ?_
  refine EvF.gop 7 (go_istore_n [(3, .int (c k)), (0, .ref b), (1, .ref t), (2, .int (nI k))] d_Brk_addAt_6 rfl (by decide) rfl) rfl ?_
  refine EvF.go (go_pick [1, 2, 3, 0] [(0, .ref b), (1, .ref t), (2, .int (nI k)), (3, .int (c k))] rfl) ?_
  refine EvF.gop 8 (go_iload_n d_Brk_addAt_7 rfl 3 rfl) rfl ?_
  refine EvF.gop 10 (go_bipush (v := 32) d_Brk_addAt_8 (by decide)) rfl ?_
  by_cases c1 : (c k) = 32
  · refine EvF.gop 13 (go_icmp_ne_f 23 d_Brk_addAt_10 (by decide) (c1)) rfl ?_
    refine EvF.gop 14 (go_aload_n d_Brk_addAt_13 rfl 0 rfl) rfl ?_
    refine EvF.gop 15 (go_iconst (v := 0) d_Brk_addAt_14 (by decide)) rfl ?_
    refine EvF.gop 16 (go_iload_n d_Brk_addAt_15 rfl 2 rfl) rfl ?_
    refine EvF.gop 17 (go_iload_n d_Brk_addAt_16 rfl 2 rfl) rfl ?_
    refine EvF.gop 18 (go_iconst (v := 1) d_Brk_addAt_17 (by decide)) rfl ?_
    refine EvF.gop 19 (go_iadd d_Brk_addAt_18) rfl ?_
    refine EvF.go (go_v (y := nI (k + 1)) (nI_1 k)) ?_
    refine EvF.gop 22 (go_callV [.int 0, .int (nI k), .int (nI (k + 1))] [.int (bI (bA 0 (nI k) (nI (k + 1)) S).1)] c0_Brk_add im_Brk_add se_Brk_add lk_Brk_34 d_Brk_addAt_19 rfl rfl ((gRd_n _ _ hD.2.2.1).trans ((gRd_n _ _ hD.2.1).trans ((gRd_n _ _ hD.1).trans (gRd_s _ _ _)))) (e_Brk_add G M b bk be bb S 0 (nI k) (nI (k + 1)) hD hn) (by decide) rfl rfl (Nat.le_of_ble_eq_true rfl) rfl) rfl ?_
    exact EvF.rz d_Brk_addAt_22 rfl (bI_01 _) (by simp [bAt, bI, *]) (by simp [bAt, *])
  · refine EvF.gop 23 (go_icmp_ne_t 23 d_Brk_addAt_10 (by decide) (c1)) rfl ?_
    refine EvF.gop 24 (go_iload_n d_Brk_addAt_23 rfl 3 rfl) rfl ?_
    refine EvF.gop 26 (go_bipush (v := 124) d_Brk_addAt_24 (by decide)) rfl ?_
    by_cases c2 : (c k) = 124
    · refine EvF.gop 29 (go_icmp_ne_f 39 d_Brk_addAt_26 (by decide) (c2)) rfl ?_
      refine EvF.gop 30 (go_aload_n d_Brk_addAt_29 rfl 0 rfl) rfl ?_
      refine EvF.gop 31 (go_iconst (v := 3) d_Brk_addAt_30 (by decide)) rfl ?_
      refine EvF.gop 32 (go_iload_n d_Brk_addAt_31 rfl 2 rfl) rfl ?_
      refine EvF.gop 33 (go_iload_n d_Brk_addAt_32 rfl 2 rfl) rfl ?_
      refine EvF.gop 34 (go_iconst (v := 1) d_Brk_addAt_33 (by decide)) rfl ?_
      refine EvF.gop 35 (go_iadd d_Brk_addAt_34) rfl ?_
      refine EvF.go (go_v (y := nI (k + 1)) (nI_1 k)) ?_
      refine EvF.gop 38 (go_callV [.int 3, .int (nI k), .int (nI (k + 1))] [.int (bI (bA 3 (nI k) (nI (k + 1)) S).1)] c0_Brk_add im_Brk_add se_Brk_add lk_Brk_34 d_Brk_addAt_35 rfl rfl ((gRd_n _ _ hD.2.2.1).trans ((gRd_n _ _ hD.2.1).trans ((gRd_n _ _ hD.1).trans (gRd_s _ _ _)))) (e_Brk_add G M b bk be bb S 3 (nI k) (nI (k + 1)) hD hn) (by decide) rfl rfl (Nat.le_of_ble_eq_true rfl) rfl) rfl ?_
      exact EvF.rz d_Brk_addAt_38 rfl (bI_01 _) (by simp [bAt, bI, *]) (by simp [bAt, *])
    · refine EvF.gop 39 (go_icmp_ne_t 39 d_Brk_addAt_26 (by decide) (c2)) rfl ?_
      refine EvF.gop 40 (go_iload_n d_Brk_addAt_39 rfl 3 rfl) rfl ?_
      refine EvF.gop 42 (go_bipush (v := 45) d_Brk_addAt_40 (by decide)) rfl ?_
      by_cases c3 : (c k) = 45
      · refine EvF.gop 45 (go_icmp_ne_f 83 d_Brk_addAt_42 (by decide) (c3)) rfl ?_
        refine EvF.gop 46 (go_iload_n d_Brk_addAt_45 rfl 2 rfl) rfl ?_
        refine EvF.gop 47 (go_iconst (v := 1) d_Brk_addAt_46 (by decide)) rfl ?_
        refine EvF.gop 48 (go_iadd d_Brk_addAt_47) rfl ?_
        refine EvF.go (go_v (y := nI (k + 1)) (nI_1 k)) ?_
        refine EvF.gop 49 (go_aload_n d_Brk_addAt_48 rfl 1 rfl) rfl ?_
        refine EvF.gop 52 (go_get f_Brk_25 d_Brk_addAt_49 ((gRd_n _ _ ((hT _ (Or.inl rfl)).2.2.2)).trans ((gRd_n _ _ ((hT _ (Or.inl rfl)).2.2.1)).trans ((gRd_n _ _ ((hT _ (Or.inl rfl)).2.1)).trans ((gRd_n _ _ ((hT _ (Or.inl rfl)).1)).trans (t1))))) rfl) rfl ?_
        by_cases c4 : (nI tn) ≤ (nI (k + 1))
        · have c4x : tn ≤ (k + 1) := (nI_leI (a := tn) (b := (k + 1)) (by omega) (by omega)).mp c4
          have c4y : ¬ (k + 1) < tn := by omega
          refine EvF.gop 83 (go_icmp_ge_t 83 d_Brk_addAt_52 (by decide) (c4)) rfl ?_
          refine EvF.gop 84 (go_iconst (v := 1) d_Brk_addAt_83 (by decide)) rfl ?_
          exact EvF.rz d_Brk_addAt_84 rfl (by decide) (by simp [bAt, bI, *]) (by simp [bAt, *])
        · have c4x : (k + 1) < tn := Nat.lt_of_not_le (fun q9 => c4 ((nI_leI (a := tn) (b := (k + 1)) (by omega) (by omega)).mpr q9))
          have c4y : ¬ tn ≤ (k + 1) := by omega
          refine EvF.gop 55 (go_icmp_ge_f 83 d_Brk_addAt_52 (by decide) (c4)) rfl ?_
          refine EvF.gop 56 (go_aload_n d_Brk_addAt_55 rfl 0 rfl) rfl ?_
          refine EvF.gop 57 (go_iconst (v := 1) d_Brk_addAt_56 (by decide)) rfl ?_
          refine EvF.gop 58 (go_iload_n d_Brk_addAt_57 rfl 2 rfl) rfl ?_
          refine EvF.gop 59 (go_iconst (v := 1) d_Brk_addAt_58 (by decide)) rfl ?_
          refine EvF.gop 60 (go_iadd d_Brk_addAt_59) rfl ?_
          refine EvF.go (go_v (y := nI (k + 1)) (nI_1 k)) ?_
          refine EvF.gop 61 (go_aload_n d_Brk_addAt_60 rfl 1 rfl) rfl ?_
          refine EvF.gop 62 (go_iload_n d_Brk_addAt_61 rfl 2 rfl) rfl ?_
          refine EvF.gop 63 (go_iconst (v := 1) d_Brk_addAt_62 (by decide)) rfl ?_
          refine EvF.gop 64 (go_iadd d_Brk_addAt_63) rfl ?_
          refine EvF.go (go_v (y := nI (k + 1)) (nI_1 k)) ?_
          refine EvF.gop 67 (go_callV [.int (nI (k + 1))] [.int (bI (decide (k + 1 < tn) && decide (c (k + 1) = 32))), .int (nI (k + 1)), .int 1, .ref b] c0_Txt_isBlank im_Txt_isBlank se_Txt_isBlank lk_Brk_45 d_Brk_addAt_64 rfl rfl ((gRd_n _ _ ((hT _ (Or.inl rfl)).2.2.2)).trans ((gRd_n _ _ ((hT _ (Or.inl rfl)).2.2.1)).trans ((gRd_n _ _ ((hT _ (Or.inl rfl)).2.1)).trans ((gRd_n _ _ ((hT _ (Or.inl rfl)).1)).trans (t1))))) (e_Txt_isBlank G _ t tc ts tn c s (k + 1) ((gRd_n _ _ ((hT _ (Or.inl rfl)).2.2.2)).trans ((gRd_n _ _ ((hT _ (Or.inl rfl)).2.2.1)).trans ((gRd_n _ _ ((hT _ (Or.inl rfl)).2.1)).trans ((gRd_n _ _ ((hT _ (Or.inl rfl)).1)).trans (t1))))) ((gRd_n _ _ ((hT _ (Or.inr (Or.inl rfl))).2.2.2)).trans ((gRd_n _ _ ((hT _ (Or.inr (Or.inl rfl))).2.2.1)).trans ((gRd_n _ _ ((hT _ (Or.inr (Or.inl rfl))).2.1)).trans ((gRd_n _ _ ((hT _ (Or.inr (Or.inl rfl))).1)).trans (t2))))) ((gRd_n _ _ ((hT _ (Or.inr (Or.inr rfl))).2.2.2)).trans ((gRd_n _ _ ((hT _ (Or.inr (Or.inr rfl))).2.2.1)).trans ((gRd_n _ _ ((hT _ (Or.inr (Or.inr rfl))).2.1)).trans ((gRd_n _ _ ((hT _ (Or.inr (Or.inr rfl))).1)).trans (t3))))) hcs htn (by omega)) (by decide) rfl rfl (Nat.le_of_ble_eq_true rfl) rfl) rfl ?_
          by_cases c5 : (bI (decide (k + 1 < tn) && decide (c (k + 1) = 32))) = 0
          · have c5x : (decide (k + 1 < tn) && decide (c (k + 1) = 32)) = false := bI_0.mp c5
            refine EvF.gop 76 (go_if_eq_t 76 d_Brk_addAt_67 (by decide) (c5)) rfl ?_
            refine EvF.gop 77 (go_iload_n d_Brk_addAt_76 rfl 2 rfl) rfl ?_
            refine EvF.gop 78 (go_iconst (v := 1) d_Brk_addAt_77 (by decide)) rfl ?_
            refine EvF.gop 79 (go_iadd d_Brk_addAt_78) rfl ?_
            refine EvF.go (go_v (y := nI (k + 1)) (nI_1 k)) ?_
            refine EvF.gop 82 (go_callV [.int 1, .int (nI (k + 1)), .int (nI (k + 1))] [.int (bI (bA 1 (nI (k + 1)) (nI (k + 1)) S).1)] c0_Brk_add im_Brk_add se_Brk_add lk_Brk_34 d_Brk_addAt_79 rfl rfl ((gRd_n _ _ hD.2.2.1).trans ((gRd_n _ _ hD.2.1).trans ((gRd_n _ _ hD.1).trans (gRd_s _ _ _)))) (e_Brk_add G M b bk be bb S 1 (nI (k + 1)) (nI (k + 1)) hD hn) (by decide) rfl rfl (Nat.le_of_ble_eq_true rfl) rfl) rfl ?_
            exact EvF.rz d_Brk_addAt_82 rfl (bI_01 _) (by have c6 : ¬ c (k + 1) = 32 := (by simpa [c4x] using c5x); simp [bAt, bI, *]) (by have c6 : ¬ c (k + 1) = 32 := (by simpa [c4x] using c5x); simp [bAt, *])
          · have c5x : (decide (k + 1 < tn) && decide (c (k + 1) = 32)) = true := bI_n0.mp c5
            refine EvF.gop 70 (go_if_eq_f 76 d_Brk_addAt_67 (by decide) (c5)) rfl ?_
            refine EvF.gop 71 (go_iload_n d_Brk_addAt_70 rfl 2 rfl) rfl ?_
            refine EvF.gop 72 (go_iconst (v := 2) d_Brk_addAt_71 (by decide)) rfl ?_
            refine EvF.gop 73 (go_iadd d_Brk_addAt_72) rfl ?_
            refine EvF.go (go_v (y := nI (k + 2)) (nI_add k 2)) ?_
            refine EvF.gop 79 (go_goto 79 d_Brk_addAt_73 (by decide)) rfl ?_
            refine EvF.gop 82 (go_callV [.int 1, .int (nI (k + 1)), .int (nI (k + 2))] [.int (bI (bA 1 (nI (k + 1)) (nI (k + 2)) S).1)] c0_Brk_add im_Brk_add se_Brk_add lk_Brk_34 d_Brk_addAt_79 rfl rfl ((gRd_n _ _ hD.2.2.1).trans ((gRd_n _ _ hD.2.1).trans ((gRd_n _ _ hD.1).trans (gRd_s _ _ _)))) (e_Brk_add G M b bk be bb S 1 (nI (k + 1)) (nI (k + 2)) hD hn) (by decide) rfl rfl (Nat.le_of_ble_eq_true rfl) rfl) rfl ?_
            exact EvF.rz d_Brk_addAt_82 rfl (bI_01 _) (by have c6 : c (k + 1) = 32 := (by simpa [c4x] using c5x); simp [bAt, bI, *]) (by have c6 : c (k + 1) = 32 := (by simpa [c4x] using c5x); simp [bAt, *])
      · refine EvF.gop 83 (go_icmp_ne_t 83 d_Brk_addAt_42 (by decide) (c3)) rfl ?_
        refine EvF.gop 84 (go_iconst (v := 1) d_Brk_addAt_83 (by decide)) rfl ?_
        exact EvF.rz d_Brk_addAt_84 rfl (by decide) (by simp [bAt, bI, *]) (by simp [bAt, *])
def cnt2 (f : Nat → Int32) : Nat → Nat
  | 0 => 0
  | k + 1 => cnt2 f k + (if f (k + 1) = 2 then 1 else 0)
theorem cnt2_le (f : Nat → Int32) : ∀ k, cnt2 f k ≤ k
  | 0 => Nat.le_refl 0
  | k + 1 => by
    have := cnt2_le f k
    show cnt2 f k + _ ≤ k + 1
    split <;> omega
theorem g_Brk_points (G : gG) (M : gM) (b bk be bb n : Nat) (f : Nat → Int32) (h1 : gRd M b = some (.inr (6, [.ref bk, .ref be, .ref bb, .int (nI n)]))) (h2 : gRd M bk = some (aI G 25 f)) (hn : n ≤ 24) : ∀ r k : Nat, k + r = n → Go G m_Brk_points 0 (4, [(0, .ref b), (1, .int (nI (cnt2 f k))), (2, .int (nI (k + 1)))], [], M) (31, [(0, .ref b), (1, .int (nI (cnt2 f n))), (2, .int (nI (n + 1)))], [], M) := by
  intro r
  induction r with
  | zero =>
    intro k hk
    rw [show k = n from by omega]
    refine Go.trp 5 (go_iload_n d_Brk_points_4 rfl 2 rfl) rfl ?_
    refine Go.trp 6 (go_aload_n d_Brk_points_5 rfl 0 rfl) rfl ?_
    refine Go.trp 9 (go_get f_Brk_21 d_Brk_points_6 (h1) rfl) rfl ?_
    refine Go.trp 31 (go_icmp_gt_t 31 d_Brk_points_9 (by decide) (nI_lt (by omega) (by omega))) rfl ?_
    exact Go.rf
  | succ r ih =>
    intro k hk
    have ih9 := ih (k + 1) (by omega)
    refine Go.trp 5 (go_iload_n d_Brk_points_4 rfl 2 rfl) rfl ?_
    refine Go.trp 6 (go_aload_n d_Brk_points_5 rfl 0 rfl) rfl ?_
    refine Go.trp 9 (go_get f_Brk_21 d_Brk_points_6 (h1) rfl) rfl ?_
    refine Go.trp 12 (go_icmp_gt_f 31 d_Brk_points_9 (by decide) (nI_nlt (by omega) (by omega))) rfl ?_
    refine Go.trp 13 (go_aload_n d_Brk_points_12 rfl 0 rfl) rfl ?_
    refine Go.trp 16 (go_get f_Brk_9 d_Brk_points_13 (h1) rfl) rfl ?_
    refine Go.trp 17 (go_iload_n d_Brk_points_16 rfl 2 rfl) rfl ?_
    refine Go.trp 18 (go_iald (j := (k + 1)) d_Brk_points_17 (h2) (rfl) (by omega) (by omega)) rfl ?_
    refine Go.trp 19 (go_iconst (v := 2) d_Brk_points_18 (by decide)) rfl ?_
    by_cases c1 : (f (k + 1)) = 2
    · refine Go.trp 22 (go_icmp_ne_f 25 d_Brk_points_19 (by decide) (c1)) rfl ?_
      refine Go.trp 25 (go_inc1 (n0 := 1) (x := (cnt2 f k)) [(1, .int (nI ((cnt2 f k) + 1))), (0, .ref b), (2, .int (nI (k + 1)))] d_Brk_points_22 rfl (by decide) rfl) rfl ?_
      refine (go_pick [1, 0, 2] [(0, .ref b), (1, .int (nI ((cnt2 f k) + 1))), (2, .int (nI (k + 1)))] rfl).tr ?_
      refine Go.trp 28 (go_inc1 (n0 := 2) (x := (k + 1)) [(2, .int (nI ((k + 1) + 1))), (0, .ref b), (1, .int (nI ((cnt2 f k) + 1)))] d_Brk_points_25 rfl (by decide) rfl) rfl ?_
      refine (go_pick [1, 2, 0] [(0, .ref b), (1, .int (nI ((cnt2 f k) + 1))), (2, .int (nI ((k + 1) + 1)))] rfl).tr ?_
      refine Go.trp 4 (go_goto 4 d_Brk_points_28 (by decide)) rfl ?_
      rw [show cnt2 f (k + 1) = cnt2 f k + 1 from by simp [cnt2, *]] at ih9
      exact ih9
    · refine Go.trp 25 (go_icmp_ne_t 25 d_Brk_points_19 (by decide) (c1)) rfl ?_
      refine Go.trp 28 (go_inc1 (n0 := 2) (x := (k + 1)) [(2, .int (nI ((k + 1) + 1))), (0, .ref b), (1, .int (nI (cnt2 f k)))] d_Brk_points_25 rfl (by decide) rfl) rfl ?_
      refine (go_pick [1, 2, 0] [(0, .ref b), (1, .int (nI (cnt2 f k))), (2, .int (nI ((k + 1) + 1)))] rfl).tr ?_
      refine Go.trp 4 (go_goto 4 d_Brk_points_28 (by decide)) rfl ?_
      rw [show cnt2 f (k + 1) = cnt2 f k from by simp [cnt2, *]] at ih9
      exact ih9
theorem e_Brk_points (G : gG) (M : gM) (b bk be bb n : Nat) (f : Nat → Int32) (h1 : gRd M b = some (.inr (6, [.ref bk, .ref be, .ref bb, .int (nI n)]))) (h2 : gRd M bk = some (aI G 25 f)) (hn : n ≤ 24) : Ev G 0 m_Brk_points [.ref b] M (some (.int (nI (cnt2 f n)))) M := by
  refine Ev.of (Nat.le_of_ble_eq_true rfl) ?_
  show EvF G 0 m_Brk_points (0, [(0, .ref b)], [], M) _ _
  refine EvF.gop 1 (go_iconst (v := nI (cnt2 f 0)) d_Brk_points_0 (rfl)) rfl ?_
  refine EvF.gop 2 (go_istore_n [(1, .int (nI (cnt2 f 0))), (0, .ref b)] d_Brk_points_1 rfl (by decide) rfl) rfl ?_
  refine EvF.go (go_pick [1, 0] [(0, .ref b), (1, .int (nI (cnt2 f 0)))] rfl) ?_
  refine EvF.gop 3 (go_iconst (v := nI (0 + 1)) d_Brk_points_2 (rfl)) rfl ?_
  refine EvF.gop 4 (go_istore_n [(2, .int (nI (0 + 1))), (0, .ref b), (1, .int (nI (cnt2 f 0)))] d_Brk_points_3 rfl (by decide) rfl) rfl ?_
  refine EvF.go (go_pick [1, 2, 0] [(0, .ref b), (1, .int (nI (cnt2 f 0))), (2, .int (nI (0 + 1)))] rfl) ?_
  refine EvF.go (g_Brk_points G M b bk be bb n f h1 h2 hn n 0 (by omega)) ?_
  refine EvF.gop 32 (go_iload_n d_Brk_points_31 rfl 1 rfl) rfl ?_
  exact EvF.ri d_Brk_points_32 rfl rfl rfl
