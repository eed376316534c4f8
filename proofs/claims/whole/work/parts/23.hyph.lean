-- numbers one below a natural
theorem pmT {m : Nat} (h : m < 2 ^ 30) : (nI m - 1).toInt = (m : Int) - 1 := pk_sub_toInt (b := 1) h (by decide)
theorem pmT2 {m : Nat} (h : m < 2 ^ 30) : (nI m - 2).toInt = (m : Int) - 2 := pk_sub_toInt (b := 2) h (by decide)
theorem pm_lt {m b : Nat} (hm : m < 2 ^ 30) (hb : b < 2 ^ 30) : nI m - 1 < nI b ↔ m ≤ b := by
  rw [Int32.lt_iff_toInt_lt, pmT hm, nI_toInt (by omega)]; omega
theorem pm_le {m b : Nat} (hm : m < 2 ^ 30) (hb : b < 2 ^ 30) : nI b ≤ nI m - 1 ↔ b + 1 ≤ m := by
  rw [Int32.le_iff_toInt_le, pmT hm, nI_toInt (by omega)]; omega
theorem pm_2 {m e : Nat} (hm : m < 2 ^ 30) (he : e < 2 ^ 30) : nI e - 2 < nI m - 1 ↔ e ≤ m := by
  rw [Int32.lt_iff_toInt_lt, pmT hm, pmT2 he]; omega
theorem pm_add (m k : Nat) : nI m - 1 + nI k = nI (m + k) - 1 := by
  rw [← nI_add]; simp only [Int32.sub_eq_add_neg]; rw [Int32.add_assoc, Int32.add_comm (-1), ← Int32.add_assoc]
theorem pm_s {m : Nat} (h : 0 < m) : nI m - 1 = nI (m - 1) := by
  have := nI_pred (m - 1)
  rw [Nat.sub_add_cancel h] at this
  exact this
theorem pm_i (m : Nat) : nI m - 1 + 1 = nI (m + 1) - 1 := pm_add m 1
theorem pm_g {m n e : Nat} (hm : m < 2 ^ 29) (hn : n < 2 ^ 29) (he : e < 2 ^ 30) (h1 : 1 ≤ n) : nI e < nI (m + n) - 1 - 1 ↔ e + 2 < m + n := by
  rw [Int32.lt_iff_toInt_lt, nI_toInt (by omega), pm_s (m := m + n) (by omega), pmT (by omega)]; omega
/-- the sign at place x of a word from b to e, with a point before and behind it -/
def sgnI (b e : Nat) (c : Nat → Int32) (x : Nat) : Int32 := if b < x ∧ x ≤ e then c (x - 1) else 46
def sdF (b e : Nat) (c sg : Nat → Int32) (A : Nat) : Nat → Nat → Bool
  | 0, _ => true
  | r + 1, k => if sgnI b e c (A + k) = sg k then sdF b e c sg A r (k + 1) else false
theorem g_Hyp_stands (G : gG) (M : gM) (p ps pl n t tc ts tn : Nat) (sg lv c s : Nat → Int32) (A b e : Nat) (p1 : gRd M p = some (.inr (4, [.ref ps, .ref pl, .int (nI n)]))) (p2 : gRd M ps = some (aI G 5 sg)) (p3 : gRd M pl = some (aI G 6 lv)) (hn : n ≤ 5) (t1 : gRd M t = some (.inr (3, [.ref tc, .ref ts, .int (nI tn)]))) (t2 : gRd M tc = some (aI G 120 c)) (htn : tn ≤ 120) (he : e ≤ tn) (hbe : b ≤ e) (hA : A ≤ 200) : ∀ (r k : Nat), k + r = n → EvF G 0 m_Hyp_stands (3, [(0, .ref p), (1, .ref t), (2, .int (nI A - 1)), (3, .int (nI b)), (4, .int (nI e)), (5, .int (nI k))], [], M) (some (.int (bI (sdF b e c sg A r k)))) M := by
  intro r
  induction r with
  | zero =>
    intro k hk
    refine EvF.gop 5 (go_iload d_Hyp_stands_3 5 rfl) rfl ?_
    refine EvF.gop 6 (go_aload_n d_Hyp_stands_5 rfl 0 rfl) rfl ?_
    refine EvF.gop 9 (go_get f_Hyp_45 d_Hyp_stands_6 (p1) rfl) rfl ?_
    refine EvF.gop 77 (go_icmp_ge_t 77 d_Hyp_stands_9 (by decide) (nI_le (by omega) (by omega))) rfl ?_
    refine EvF.gop 78 (go_iconst (v := 1) d_Hyp_stands_77 (by decide)) rfl ?_
    exact EvF.rz d_Hyp_stands_78 rfl (by decide) (rfl) (rfl)
  | succ r ih =>
    intro k hk
    refine EvF.gop 5 (go_iload d_Hyp_stands_3 5 rfl) rfl ?_
    refine EvF.gop 6 (go_aload_n d_Hyp_stands_5 rfl 0 rfl) rfl ?_
    refine EvF.gop 9 (go_get f_Hyp_45 d_Hyp_stands_6 (p1) rfl) rfl ?_
    refine EvF.gop 12 (go_icmp_ge_f 77 d_Hyp_stands_9 (by decide) (nI_ge (by omega) (by omega))) rfl ?_
    refine EvF.gop 13 (go_iload_n d_Hyp_stands_12 rfl 2 rfl) rfl ?_
    refine EvF.gop 15 (go_iload d_Hyp_stands_13 5 rfl) rfl ?_
    refine EvF.gop 16 (go_iadd d_Hyp_stands_15) rfl ?_
    refine EvF.go (go_v (y := nI (A + k) - 1) (pm_add A k)) ?_
    refine EvF.gop 17 (go_iload_n d_Hyp_stands_16 rfl 3 rfl) rfl ?_
    by_cases c1 : (nI (A + k) - 1) < (nI b)
    · have c1x : A + k ≤ b := (pm_lt (by omega) (by omega)).mp c1
      refine EvF.gop 33 (go_icmp_lt_t 33 d_Hyp_stands_17 (by decide) (c1)) rfl ?_
      refine EvF.gop 34 (go_iconst (v := 0) d_Hyp_stands_33 (by decide)) rfl ?_
      refine EvF.gop 36 (go_istore [(6, .int 0), (0, .ref p), (1, .ref t), (2, .int (nI A - 1)), (3, .int (nI b)), (4, .int (nI e)), (5, .int (nI k))] d_Hyp_stands_34 (by decide) rfl) rfl ?_
      refine EvF.go (go_pick [1, 2, 3, 4, 5, 6, 0] [(0, .ref p), (1, .ref t), (2, .int (nI A - 1)), (3, .int (nI b)), (4, .int (nI e)), (5, .int (nI k)), (6, .int 0)] rfl) ?_
      refine EvF.gop 38 (go_iload d_Hyp_stands_36 6 rfl) rfl ?_
      refine EvF.gop 53 (go_if_eq_t 53 d_Hyp_stands_38 (by decide) (by decide)) rfl ?_
      refine EvF.gop 55 (go_bipush (v := 46) d_Hyp_stands_53 (by decide)) rfl ?_
      refine EvF.gop 57 (go_istore [(7, .int 46), (0, .ref p), (1, .ref t), (2, .int (nI A - 1)), (3, .int (nI b)), (4, .int (nI e)), (5, .int (nI k)), (6, .int 0)] d_Hyp_stands_55 (by decide) rfl) rfl ?_
      refine EvF.go (go_pick [1, 2, 3, 4, 5, 6, 7, 0] [(0, .ref p), (1, .ref t), (2, .int (nI A - 1)), (3, .int (nI b)), (4, .int (nI e)), (5, .int (nI k)), (6, .int 0), (7, .int 46)] rfl) ?_
      refine EvF.gop 59 (go_iload d_Hyp_stands_57 7 rfl) rfl ?_
      refine EvF.gop 60 (go_aload_n d_Hyp_stands_59 rfl 0 rfl) rfl ?_
      refine EvF.gop 63 (go_get f_Hyp_57 d_Hyp_stands_60 (p1) rfl) rfl ?_
      refine EvF.gop 65 (go_iload d_Hyp_stands_63 5 rfl) rfl ?_
      refine EvF.gop 66 (go_iald (j := k) d_Hyp_stands_65 (p2) (rfl) (by omega) (by omega)) rfl ?_
      by_cases c2 : 46 = (sg k)
      · refine EvF.gop 71 (go_icmp_eq_t 71 d_Hyp_stands_66 (by decide) (c2)) rfl ?_
        refine EvF.gop 74 (go_inc1 (n0 := 5) (x := k) [(5, .int (nI (k + 1))), (0, .ref p), (1, .ref t), (2, .int (nI A - 1)), (3, .int (nI b)), (4, .int (nI e)), (6, .int 0), (7, .int 46)] d_Hyp_stands_71 rfl (by decide) rfl) rfl ?_
        refine EvF.go (go_pick [1, 2, 3, 4, 5, 0, 6, 7] [(0, .ref p), (1, .ref t), (2, .int (nI A - 1)), (3, .int (nI b)), (4, .int (nI e)), (5, .int (nI (k + 1))), (6, .int 0), (7, .int 46)] rfl) ?_
        refine EvF.gop 3 (go_goto 3 d_Hyp_stands_74 (by decide)) rfl ?_
        have e1 : sgnI b e c (A + k) = 46 := if_neg (by omega)
        refine EvF.go (go_pick [0, 1, 2, 3, 4, 5] [(0, .ref p), (1, .ref t), (2, .int (nI A - 1)), (3, .int (nI b)), (4, .int (nI e)), (5, .int (nI (k + 1)))] rfl) ?_
        rw [show sdF b e c sg A (r + 1) k = sdF b e c sg A r (k + 1) from by rw [sdF, e1, if_pos (by assumption)]]
        exact ih (k + 1) (by omega)
      · refine EvF.gop 69 (go_icmp_eq_f 71 d_Hyp_stands_66 (by decide) (c2)) rfl ?_
        refine EvF.gop 70 (go_iconst (v := 0) d_Hyp_stands_69 (by decide)) rfl ?_
        have e1 : sgnI b e c (A + k) = 46 := if_neg (by omega)
        exact EvF.rz d_Hyp_stands_70 rfl (by decide) (by rw [show sdF b e c sg A (r + 1) k = false from by rw [sdF, e1, if_neg (by assumption)]]; rfl) (rfl)
    · have c1x : b < A + k := Nat.lt_of_not_le (fun q9 => c1 ((pm_lt (by omega) (by omega)).mpr q9))
      have c1y : ¬ A + k ≤ b := by omega
      refine EvF.gop 20 (go_icmp_lt_f 33 d_Hyp_stands_17 (by decide) (c1)) rfl ?_
      refine EvF.gop 21 (go_iload_n d_Hyp_stands_20 rfl 2 rfl) rfl ?_
      refine EvF.gop 23 (go_iload d_Hyp_stands_21 5 rfl) rfl ?_
      refine EvF.gop 24 (go_iadd d_Hyp_stands_23) rfl ?_
      refine EvF.go (go_v (y := nI (A + k) - 1) (pm_add A k)) ?_
      refine EvF.gop 26 (go_iload d_Hyp_stands_24 4 rfl) rfl ?_
      by_cases c3 : (nI e) ≤ (nI (A + k) - 1)
      · have c3x : e + 1 ≤ A + k := (pm_le (by omega) (by omega)).mp c3
        refine EvF.gop 33 (go_icmp_ge_t 33 d_Hyp_stands_26 (by decide) (c3)) rfl ?_
        refine EvF.gop 34 (go_iconst (v := 0) d_Hyp_stands_33 (by decide)) rfl ?_
        refine EvF.gop 36 (go_istore [(6, .int 0), (0, .ref p), (1, .ref t), (2, .int (nI A - 1)), (3, .int (nI b)), (4, .int (nI e)), (5, .int (nI k))] d_Hyp_stands_34 (by decide) rfl) rfl ?_
        refine EvF.go (go_pick [1, 2, 3, 4, 5, 6, 0] [(0, .ref p), (1, .ref t), (2, .int (nI A - 1)), (3, .int (nI b)), (4, .int (nI e)), (5, .int (nI k)), (6, .int 0)] rfl) ?_
        refine EvF.gop 38 (go_iload d_Hyp_stands_36 6 rfl) rfl ?_
        refine EvF.gop 53 (go_if_eq_t 53 d_Hyp_stands_38 (by decide) (by decide)) rfl ?_
        refine EvF.gop 55 (go_bipush (v := 46) d_Hyp_stands_53 (by decide)) rfl ?_
        refine EvF.gop 57 (go_istore [(7, .int 46), (0, .ref p), (1, .ref t), (2, .int (nI A - 1)), (3, .int (nI b)), (4, .int (nI e)), (5, .int (nI k)), (6, .int 0)] d_Hyp_stands_55 (by decide) rfl) rfl ?_
        refine EvF.go (go_pick [1, 2, 3, 4, 5, 6, 7, 0] [(0, .ref p), (1, .ref t), (2, .int (nI A - 1)), (3, .int (nI b)), (4, .int (nI e)), (5, .int (nI k)), (6, .int 0), (7, .int 46)] rfl) ?_
        refine EvF.gop 59 (go_iload d_Hyp_stands_57 7 rfl) rfl ?_
        refine EvF.gop 60 (go_aload_n d_Hyp_stands_59 rfl 0 rfl) rfl ?_
        refine EvF.gop 63 (go_get f_Hyp_57 d_Hyp_stands_60 (p1) rfl) rfl ?_
        refine EvF.gop 65 (go_iload d_Hyp_stands_63 5 rfl) rfl ?_
        refine EvF.gop 66 (go_iald (j := k) d_Hyp_stands_65 (p2) (rfl) (by omega) (by omega)) rfl ?_
        by_cases c4 : 46 = (sg k)
        · refine EvF.gop 71 (go_icmp_eq_t 71 d_Hyp_stands_66 (by decide) (c4)) rfl ?_
          refine EvF.gop 74 (go_inc1 (n0 := 5) (x := k) [(5, .int (nI (k + 1))), (0, .ref p), (1, .ref t), (2, .int (nI A - 1)), (3, .int (nI b)), (4, .int (nI e)), (6, .int 0), (7, .int 46)] d_Hyp_stands_71 rfl (by decide) rfl) rfl ?_
          refine EvF.go (go_pick [1, 2, 3, 4, 5, 0, 6, 7] [(0, .ref p), (1, .ref t), (2, .int (nI A - 1)), (3, .int (nI b)), (4, .int (nI e)), (5, .int (nI (k + 1))), (6, .int 0), (7, .int 46)] rfl) ?_
          refine EvF.gop 3 (go_goto 3 d_Hyp_stands_74 (by decide)) rfl ?_
          have e1 : sgnI b e c (A + k) = 46 := if_neg (by omega)
          refine EvF.go (go_pick [0, 1, 2, 3, 4, 5] [(0, .ref p), (1, .ref t), (2, .int (nI A - 1)), (3, .int (nI b)), (4, .int (nI e)), (5, .int (nI (k + 1)))] rfl) ?_
          rw [show sdF b e c sg A (r + 1) k = sdF b e c sg A r (k + 1) from by rw [sdF, e1, if_pos (by assumption)]]
          exact ih (k + 1) (by omega)
        · refine EvF.gop 69 (go_icmp_eq_f 71 d_Hyp_stands_66 (by decide) (c4)) rfl ?_
          refine EvF.gop 70 (go_iconst (v := 0) d_Hyp_stands_69 (by decide)) rfl ?_
          have e1 : sgnI b e c (A + k) = 46 := if_neg (by omega)
          exact EvF.rz d_Hyp_stands_70 rfl (by decide) (by rw [show sdF b e c sg A (r + 1) k = false from by rw [sdF, e1, if_neg (by assumption)]]; rfl) (rfl)
      · have c3x : A + k ≤ e := Nat.le_of_lt_succ (Nat.lt_of_not_le (fun q9 => c3 ((pm_le (by omega) (by omega)).mpr q9)))
        have c3y : ¬ e < A + k := by omega
        refine EvF.gop 29 (go_icmp_ge_f 33 d_Hyp_stands_26 (by decide) (c3)) rfl ?_
        refine EvF.gop 30 (go_iconst (v := 1) d_Hyp_stands_29 (by decide)) rfl ?_
        refine EvF.gop 34 (go_goto 34 d_Hyp_stands_30 (by decide)) rfl ?_
        refine EvF.gop 36 (go_istore [(6, .int 1), (0, .ref p), (1, .ref t), (2, .int (nI A - 1)), (3, .int (nI b)), (4, .int (nI e)), (5, .int (nI k))] d_Hyp_stands_34 (by decide) rfl) rfl ?_
        refine EvF.go (go_pick [1, 2, 3, 4, 5, 6, 0] [(0, .ref p), (1, .ref t), (2, .int (nI A - 1)), (3, .int (nI b)), (4, .int (nI e)), (5, .int (nI k)), (6, .int 1)] rfl) ?_
        refine EvF.gop 38 (go_iload d_Hyp_stands_36 6 rfl) rfl ?_
        refine EvF.gop 41 (go_if_eq_f 53 d_Hyp_stands_38 (by decide) (by decide)) rfl ?_
        refine EvF.gop 42 (go_aload_n d_Hyp_stands_41 rfl 1 rfl) rfl ?_
        refine EvF.gop 45 (go_get f_Hyp_54 d_Hyp_stands_42 (t1) rfl) rfl ?_
        refine EvF.gop 46 (go_iload_n d_Hyp_stands_45 rfl 2 rfl) rfl ?_
        refine EvF.gop 48 (go_iload d_Hyp_stands_46 5 rfl) rfl ?_
        refine EvF.gop 49 (go_iadd d_Hyp_stands_48) rfl ?_
        refine EvF.go (go_v (y := nI (A + k) - 1) (pm_add A k)) ?_
        refine EvF.gop 50 (go_iald (j := A + k - 1) d_Hyp_stands_49 (t2) (pm_s (by omega)) (by omega) (by omega)) rfl ?_
        refine EvF.gop 55 (go_goto 55 d_Hyp_stands_50 (by decide)) rfl ?_
        refine EvF.gop 57 (go_istore [(7, .int (c (A + k - 1))), (0, .ref p), (1, .ref t), (2, .int (nI A - 1)), (3, .int (nI b)), (4, .int (nI e)), (5, .int (nI k)), (6, .int 1)] d_Hyp_stands_55 (by decide) rfl) rfl ?_
        refine EvF.go (go_pick [1, 2, 3, 4, 5, 6, 7, 0] [(0, .ref p), (1, .ref t), (2, .int (nI A - 1)), (3, .int (nI b)), (4, .int (nI e)), (5, .int (nI k)), (6, .int 1), (7, .int (c (A + k - 1)))] rfl) ?_
        refine EvF.gop 59 (go_iload d_Hyp_stands_57 7 rfl) rfl ?_
        refine EvF.gop 60 (go_aload_n d_Hyp_stands_59 rfl 0 rfl) rfl ?_
        refine EvF.gop 63 (go_get f_Hyp_57 d_Hyp_stands_60 (p1) rfl) rfl ?_
        refine EvF.gop 65 (go_iload d_Hyp_stands_63 5 rfl) rfl ?_
        refine EvF.gop 66 (go_iald (j := k) d_Hyp_stands_65 (p2) (rfl) (by omega) (by omega)) rfl ?_
        by_cases c5 : (c (A + k - 1)) = (sg k)
        · refine EvF.gop 71 (go_icmp_eq_t 71 d_Hyp_stands_66 (by decide) (c5)) rfl ?_
          refine EvF.gop 74 (go_inc1 (n0 := 5) (x := k) [(5, .int (nI (k + 1))), (0, .ref p), (1, .ref t), (2, .int (nI A - 1)), (3, .int (nI b)), (4, .int (nI e)), (6, .int 1), (7, .int (c (A + k - 1)))] d_Hyp_stands_71 rfl (by decide) rfl) rfl ?_
          refine EvF.go (go_pick [1, 2, 3, 4, 5, 0, 6, 7] [(0, .ref p), (1, .ref t), (2, .int (nI A - 1)), (3, .int (nI b)), (4, .int (nI e)), (5, .int (nI (k + 1))), (6, .int 1), (7, .int (c (A + k - 1)))] rfl) ?_
          refine EvF.gop 3 (go_goto 3 d_Hyp_stands_74 (by decide)) rfl ?_
          have e1 : sgnI b e c (A + k) = c (A + k - 1) := if_pos ⟨by omega, by omega⟩
          refine EvF.go (go_pick [0, 1, 2, 3, 4, 5] [(0, .ref p), (1, .ref t), (2, .int (nI A - 1)), (3, .int (nI b)), (4, .int (nI e)), (5, .int (nI (k + 1)))] rfl) ?_
          rw [show sdF b e c sg A (r + 1) k = sdF b e c sg A r (k + 1) from by rw [sdF, e1, if_pos (by assumption)]]
          exact ih (k + 1) (by omega)
        · refine EvF.gop 69 (go_icmp_eq_f 71 d_Hyp_stands_66 (by decide) (c5)) rfl ?_
          refine EvF.gop 70 (go_iconst (v := 0) d_Hyp_stands_69 (by decide)) rfl ?_
          have e1 : sgnI b e c (A + k) = c (A + k - 1) := if_pos ⟨by omega, by omega⟩
          exact EvF.rz d_Hyp_stands_70 rfl (by decide) (by rw [show sdF b e c sg A (r + 1) k = false from by rw [sdF, e1, if_neg (by assumption)]]; rfl) (rfl)
theorem e_Hyp_stands (G : gG) (M : gM) (p ps pl n t tc ts tn : Nat) (sg lv c s : Nat → Int32) (A b e : Nat) (p1 : gRd M p = some (.inr (4, [.ref ps, .ref pl, .int (nI n)]))) (p2 : gRd M ps = some (aI G 5 sg)) (p3 : gRd M pl = some (aI G 6 lv)) (hn : n ≤ 5) (t1 : gRd M t = some (.inr (3, [.ref tc, .ref ts, .int (nI tn)]))) (t2 : gRd M tc = some (aI G 120 c)) (htn : tn ≤ 120) (he : e ≤ tn) (hbe : b ≤ e) (hA : A ≤ 200) : Ev G 0 m_Hyp_stands [.ref p, .ref t, .int (nI A - 1), .int (nI b), .int (nI e)] M (some (.int (bI (sdF b e c sg A n 0)))) M := by
  refine Ev.of (Nat.le_of_ble_eq_true rfl) ?_
  show EvF G 0 m_Hyp_stands (0, [(0, .ref p), (1, .ref t), (2, .int (nI A - 1)), (3, .int (nI b)), (4, .int (nI e))], [], M) _ _
  refine EvF.gop 1 (go_iconst (v := nI 0) d_Hyp_stands_0 (rfl)) rfl ?_
  refine EvF.gop 3 (go_istore [(5, .int (nI 0)), (0, .ref p), (1, .ref t), (2, .int (nI A - 1)), (3, .int (nI b)), (4, .int (nI e))] d_Hyp_stands_1 (by decide) rfl) rfl ?_
  refine EvF.go (go_pick [1, 2, 3, 4, 5, 0] [(0, .ref p), (1, .ref t), (2, .int (nI A - 1)), (3, .int (nI b)), (4, .int (nI e)), (5, .int (nI 0))] rfl) ?_
  exact g_Hyp_stands G M p ps pl n t tc ts tn sg lv c s A b e p1 p2 p3 hn t1 t2 htn he hbe hA n 0 (by omega)
def mxI (x y : Int32) : Int32 := if x < y then y else x
def rsF (b e : Nat) (lv : Nat → Int32) (A : Nat) : Nat → Nat → (Nat → Int32) → Nat → Int32
  | 0, _, f => f
  | r + 1, k, f => rsF b e lv A r (k + 1) (if b + 3 ≤ A + k ∧ A + k + 1 ≤ e then upd f (A + k - 1) (mxI (f (A + k - 1)) (lv k)) else f)
theorem g_Hyp_raise (G : gG) (M : gM) (h hp hl p ps pl n : Nat) (hs : Int32) (sg lv : Nat → Int32) (A b e : Nat) (y1 : gRd M h = some (.inr (5, [.ref hp, .int hs, .ref hl]))) (p1 : gRd M p = some (.inr (4, [.ref ps, .ref pl, .int (nI n)]))) (p3 : gRd M pl = some (aI G 6 lv)) (hn : n ≤ 5) (z1 : h ≠ hl) (z2 : p ≠ hl) (z3 : pl ≠ hl) (he : e ≤ 120) (hbe : b ≤ e) (hA : A ≤ 200) : ∀ (r k : Nat) (f : Nat → Int32), k + r = (n + 1) → EvF G 1 m_Hyp_raise (3, [(0, .ref h), (1, .ref p), (2, .int (nI A - 1)), (3, .int (nI b)), (4, .int (nI e)), (5, .int (nI k))], [], (gWr M hl (aI G 121 f))) none (gWr M hl (aI G 121 (rsF b e lv A r k f))) := by
  intro r
  induction r with
  | zero =>
    intro k f hk
    refine EvF.gop 5 (go_iload d_Hyp_raise_3 5 rfl) rfl ?_
    refine EvF.gop 6 (go_aload_n d_Hyp_raise_5 rfl 1 rfl) rfl ?_
    refine EvF.gop 9 (go_get f_Hyp_45 d_Hyp_raise_6 ((gRd_n _ _ z2).trans (p1)) rfl) rfl ?_
    refine EvF.gop 65 (go_icmp_gt_t 65 d_Hyp_raise_9 (by decide) (nI_lt (by omega) (by omega))) rfl ?_
    exact EvF.rv d_Hyp_raise_65 rfl (rfl)
  | succ r ih =>
    intro k f hk
    refine EvF.gop 5 (go_iload d_Hyp_raise_3 5 rfl) rfl ?_
    refine EvF.gop 6 (go_aload_n d_Hyp_raise_5 rfl 1 rfl) rfl ?_
    refine EvF.gop 9 (go_get f_Hyp_45 d_Hyp_raise_6 ((gRd_n _ _ z2).trans (p1)) rfl) rfl ?_
    refine EvF.gop 12 (go_icmp_gt_f 65 d_Hyp_raise_9 (by decide) (nI_nlt (by omega) (by omega))) rfl ?_
    refine EvF.gop 13 (go_iload_n d_Hyp_raise_12 rfl 2 rfl) rfl ?_
    refine EvF.gop 15 (go_iload d_Hyp_raise_13 5 rfl) rfl ?_
    refine EvF.gop 16 (go_iadd d_Hyp_raise_15) rfl ?_
    refine EvF.go (go_v (y := nI (A + k) - 1) (pm_add A k)) ?_
    refine EvF.gop 18 (go_istore [(6, .int (nI (A + k) - 1)), (0, .ref h), (1, .ref p), (2, .int (nI A - 1)), (3, .int (nI b)), (4, .int (nI e)), (5, .int (nI k))] d_Hyp_raise_16 (by decide) rfl) rfl ?_
    refine EvF.go (go_pick [1, 2, 3, 4, 5, 6, 0] [(0, .ref h), (1, .ref p), (2, .int (nI A - 1)), (3, .int (nI b)), (4, .int (nI e)), (5, .int (nI k)), (6, .int (nI (A + k) - 1))] rfl) ?_
    refine EvF.gop 20 (go_iload d_Hyp_raise_18 6 rfl) rfl ?_
    refine EvF.gop 21 (go_iload_n d_Hyp_raise_20 rfl 3 rfl) rfl ?_
    refine EvF.gop 22 (go_iconst (v := 2) d_Hyp_raise_21 (by decide)) rfl ?_
    refine EvF.gop 23 (go_iadd d_Hyp_raise_22) rfl ?_
    refine EvF.go (go_v (y := nI (b + 2)) (nI_add b 2)) ?_
    by_cases c1 : (nI (A + k) - 1) < (nI (b + 2))
    · have c1x : A + k ≤ b + 2 := (pm_lt (by omega) (by omega)).mp c1
      refine EvF.gop 59 (go_icmp_lt_t 59 d_Hyp_raise_23 (by decide) (c1)) rfl ?_
      refine EvF.gop 62 (go_inc1 (n0 := 5) (x := k) [(5, .int (nI (k + 1))), (0, .ref h), (1, .ref p), (2, .int (nI A - 1)), (3, .int (nI b)), (4, .int (nI e)), (6, .int (nI (A + k) - 1))] d_Hyp_raise_59 rfl (by decide) rfl) rfl ?_
      refine EvF.go (go_pick [1, 2, 3, 4, 5, 0, 6] [(0, .ref h), (1, .ref p), (2, .int (nI A - 1)), (3, .int (nI b)), (4, .int (nI e)), (5, .int (nI (k + 1))), (6, .int (nI (A + k) - 1))] rfl) ?_
      refine EvF.gop 3 (go_goto 3 d_Hyp_raise_62 (by decide)) rfl ?_
      refine EvF.go (go_pick [0, 1, 2, 3, 4, 5] [(0, .ref h), (1, .ref p), (2, .int (nI A - 1)), (3, .int (nI b)), (4, .int (nI e)), (5, .int (nI (k + 1)))] rfl) ?_
      rw [show rsF b e lv A (r + 1) k f = rsF b e lv A r (k + 1) f from by rw [rsF, if_neg (by omega)]]
      exact ih (k + 1) _ (by omega)
    · have c1x : b + 3 ≤ A + k := Nat.lt_of_not_le (fun q9 => c1 ((pm_lt (by omega) (by omega)).mpr q9))
      have c1y : ¬ A + k < b + 3 := by omega
      refine EvF.gop 26 (go_icmp_lt_f 59 d_Hyp_raise_23 (by decide) (c1)) rfl ?_
      refine EvF.gop 28 (go_iload d_Hyp_raise_26 6 rfl) rfl ?_
      refine EvF.gop 30 (go_iload d_Hyp_raise_28 4 rfl) rfl ?_
      refine EvF.gop 31 (go_iconst (v := 2) d_Hyp_raise_30 (by decide)) rfl ?_
      refine EvF.gop 32 (go_isub d_Hyp_raise_31) rfl ?_
      by_cases c2 : ((nI e) - 2) < (nI (A + k) - 1)
      · have c2x : e ≤ A + k := (pm_2 (by omega) (by omega)).mp c2
        refine EvF.gop 59 (go_icmp_gt_t 59 d_Hyp_raise_32 (by decide) (c2)) rfl ?_
        refine EvF.gop 62 (go_inc1 (n0 := 5) (x := k) [(5, .int (nI (k + 1))), (0, .ref h), (1, .ref p), (2, .int (nI A - 1)), (3, .int (nI b)), (4, .int (nI e)), (6, .int (nI (A + k) - 1))] d_Hyp_raise_59 rfl (by decide) rfl) rfl ?_
        refine EvF.go (go_pick [1, 2, 3, 4, 5, 0, 6] [(0, .ref h), (1, .ref p), (2, .int (nI A - 1)), (3, .int (nI b)), (4, .int (nI e)), (5, .int (nI (k + 1))), (6, .int (nI (A + k) - 1))] rfl) ?_
        refine EvF.gop 3 (go_goto 3 d_Hyp_raise_62 (by decide)) rfl ?_
        refine EvF.go (go_pick [0, 1, 2, 3, 4, 5] [(0, .ref h), (1, .ref p), (2, .int (nI A - 1)), (3, .int (nI b)), (4, .int (nI e)), (5, .int (nI (k + 1)))] rfl) ?_
        rw [show rsF b e lv A (r + 1) k f = rsF b e lv A r (k + 1) f from by rw [rsF, if_neg (by omega)]]
        exact ih (k + 1) _ (by omega)
      · have c2x : A + k + 1 ≤ e := Nat.lt_of_not_le (fun q9 => c2 ((pm_2 (by omega) (by omega)).mpr q9))
        have c2y : ¬ e < A + k + 1 := by omega
        refine EvF.gop 35 (go_icmp_gt_f 59 d_Hyp_raise_32 (by decide) (c2)) rfl ?_
        refine EvF.gop 36 (go_aload_n d_Hyp_raise_35 rfl 0 rfl) rfl ?_
        refine EvF.gop 39 (go_get f_Hyp_21 d_Hyp_raise_36 ((gRd_n _ _ z1).trans (y1)) rfl) rfl ?_
        refine EvF.gop 41 (go_iload d_Hyp_raise_39 6 rfl) rfl ?_
        refine EvF.gop 42 (go_aload_n d_Hyp_raise_41 rfl 0 rfl) rfl ?_
        refine EvF.gop 45 (go_get f_Hyp_21 d_Hyp_raise_42 ((gRd_n _ _ z1).trans (y1)) rfl) rfl ?_
        refine EvF.gop 47 (go_iload d_Hyp_raise_45 6 rfl) rfl ?_
        refine EvF.gop 48 (go_iald (j := A + k - 1) d_Hyp_raise_47 (gRd_s _ _ _) (pm_s (by omega)) (by omega) (by omega)) rfl ?_
        refine EvF.gop 49 (go_aload_n d_Hyp_raise_48 rfl 1 rfl) rfl ?_
        refine EvF.gop 52 (go_get f_Hyp_60 d_Hyp_raise_49 ((gRd_n _ _ z2).trans (p1)) rfl) rfl ?_
        refine EvF.gop 54 (go_iload d_Hyp_raise_52 5 rfl) rfl ?_
        refine EvF.gop 55 (go_iald (j := k) d_Hyp_raise_54 ((gRd_n _ _ z3).trans (p3)) (rfl) (by omega) (by omega)) rfl ?_
        refine EvF.gop 58 (go_callS [.int (f (A + k - 1)), .int (lv k)] [.int (mxI (f (A + k - 1)) (lv k)), .int (nI (A + k) - 1), .ref hl] c0_Math_max sm_Math_max lk_Hyp_61 d_Hyp_raise_55 (e_Math_max G _ (f (A + k - 1)) (lv k)) (by decide) rfl rfl (Nat.le_of_ble_eq_true rfl) rfl) rfl ?_
        refine EvF.gop 59 (go_iast (j := A + k - 1) d_Hyp_raise_58 (gRd_s _ _ _) (pm_s (by omega)) (by omega) (by omega)) rfl ?_
        refine EvF.go (go_m (M' := (gWr M hl (aI G 121 (upd f (A + k - 1) (mxI (f (A + k - 1)) (lv k)))))) (gWr_wr M hl (aI G 121 f) (aI G 121 (upd f (A + k - 1) (mxI (f (A + k - 1)) (lv k)))))) ?_
        refine EvF.gop 62 (go_inc1 (n0 := 5) (x := k) [(5, .int (nI (k + 1))), (0, .ref h), (1, .ref p), (2, .int (nI A - 1)), (3, .int (nI b)), (4, .int (nI e)), (6, .int (nI (A + k) - 1))] d_Hyp_raise_59 rfl (by decide) rfl) rfl ?_
        refine EvF.go (go_pick [1, 2, 3, 4, 5, 0, 6] [(0, .ref h), (1, .ref p), (2, .int (nI A - 1)), (3, .int (nI b)), (4, .int (nI e)), (5, .int (nI (k + 1))), (6, .int (nI (A + k) - 1))] rfl) ?_
        refine EvF.gop 3 (go_goto 3 d_Hyp_raise_62 (by decide)) rfl ?_
        refine EvF.go (go_pick [0, 1, 2, 3, 4, 5] [(0, .ref h), (1, .ref p), (2, .int (nI A - 1)), (3, .int (nI b)), (4, .int (nI e)), (5, .int (nI (k + 1)))] rfl) ?_
        rw [show rsF b e lv A (r + 1) k f = rsF b e lv A r (k + 1) (upd f (A + k - 1) (mxI (f (A + k - 1)) (lv k))) from by rw [rsF, if_pos ⟨by omega, by omega⟩]]
        exact ih (k + 1) _ (by omega)
theorem e_Hyp_raise (G : gG) (M : gM) (h hp hl p ps pl n : Nat) (hs : Int32) (sg lv : Nat → Int32) (A b e : Nat) (f : Nat → Int32) (y1 : gRd M h = some (.inr (5, [.ref hp, .int hs, .ref hl]))) (p1 : gRd M p = some (.inr (4, [.ref ps, .ref pl, .int (nI n)]))) (p3 : gRd M pl = some (aI G 6 lv)) (hn : n ≤ 5) (z1 : h ≠ hl) (z2 : p ≠ hl) (z3 : pl ≠ hl) (he : e ≤ 120) (hbe : b ≤ e) (hA : A ≤ 200) : Ev G 1 m_Hyp_raise [.ref h, .ref p, .int (nI A - 1), .int (nI b), .int (nI e)] (gWr M hl (aI G 121 f)) none (gWr M hl (aI G 121 (rsF b e lv A (n + 1) 0 f))) := by
  refine Ev.of (Nat.le_of_ble_eq_true rfl) ?_
  show EvF G 1 m_Hyp_raise (0, [(0, .ref h), (1, .ref p), (2, .int (nI A - 1)), (3, .int (nI b)), (4, .int (nI e))], [], (gWr M hl (aI G 121 f))) _ _
  refine EvF.gop 1 (go_iconst (v := nI 0) d_Hyp_raise_0 (rfl)) rfl ?_
  refine EvF.gop 3 (go_istore [(5, .int (nI 0)), (0, .ref h), (1, .ref p), (2, .int (nI A - 1)), (3, .int (nI b)), (4, .int (nI e))] d_Hyp_raise_1 (by decide) rfl) rfl ?_
  refine EvF.go (go_pick [1, 2, 3, 4, 5, 0] [(0, .ref h), (1, .ref p), (2, .int (nI A - 1)), (3, .int (nI b)), (4, .int (nI e)), (5, .int (nI 0))] rfl) ?_
  exact g_Hyp_raise G M h hp hl p ps pl n hs sg lv A b e y1 p1 p3 hn z1 z2 z3 he hbe hA (n + 1) 0 f (by omega)
