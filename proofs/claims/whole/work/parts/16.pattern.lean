/-- addSign -/
theorem e_Pat_addSign (G : gG) (M : gM) (p ps pl n : Nat) (sg lv : Nat → Int32) (c : Int32) (h1 : gRd M p = some (.inr (4, [.ref ps, .ref pl, .int (nI n)]))) (h2 : gRd M ps = some (aI G 5 sg)) (h3 : gRd M pl = some (aI G 6 lv)) (hne : ps ≠ pl) (hn : n ≤ 5) (hlt : n < 5) (hc : (cLet c || decide (c = 46)) = true) : Ev G 1 m_Pat_addSign [.ref p, .int c] M (some (.int (1))) (gWr (gWr (gWr M ps (aI G 5 (upd sg n c))) p (.inr (4, [.ref ps, .ref pl, .int (nI (n + 1))]))) pl (aI G 6 (upd lv (n + 1) 0))) := by
  have q1 : ¬ nI n = 5 := fun q => absurd ((nI_eq (a := n) (b := 5) (by omega) (by decide)).mp q) (by omega)
  refine Ev.of (Nat.le_of_ble_eq_true rfl) ?_
  show EvF G 1 m_Pat_addSign (0, [(0, .ref p), (1, .int c)], [], M) _ _
  refine EvF.gop 1 (go_aload_n d_Pat_addSign_0 rfl 0 rfl) rfl ?_
  refine EvF.gop 4 (go_get f_Pat_18 d_Pat_addSign_1 (h1) rfl) rfl ?_
  refine EvF.gop 5 (go_iconst (v := 5) d_Pat_addSign_4 (by decide)) rfl ?_
  refine EvF.gop 8 (go_icmp_eq_f 21 d_Pat_addSign_5 (by decide) (q1)) rfl ?_
  refine EvF.gop 9 (go_iload_n d_Pat_addSign_8 rfl 1 rfl) rfl ?_
  refine EvF.gop 12 (go_callS [.int c] [.int (bI (cLet c))] c0_PS_isLetter sm_PS_isLetter lk_Pat_39 d_Pat_addSign_9 (e_PS_isLetter G M c) (by decide) rfl rfl (Nat.le_of_ble_eq_true rfl) rfl) rfl ?_
  by_cases c1 : (bI (cLet c)) = 0
  · have c1x : (cLet c) = false := bI_0.mp c1
    refine EvF.gop 15 (go_if_ne_f 23 d_Pat_addSign_12 (by decide) (c1)) rfl ?_
    refine EvF.gop 16 (go_iload_n d_Pat_addSign_15 rfl 1 rfl) rfl ?_
    refine EvF.gop 18 (go_bipush (v := 46) d_Pat_addSign_16 (by decide)) rfl ?_
    by_cases c2 : c = 46
    · refine EvF.gop 23 (go_icmp_eq_t 23 d_Pat_addSign_18 (by decide) (c2)) rfl ?_
      refine EvF.gop 24 (go_aload_n d_Pat_addSign_23 rfl 0 rfl) rfl ?_
      refine EvF.gop 27 (go_get f_Pat_9 d_Pat_addSign_24 (h1) rfl) rfl ?_
      refine EvF.gop 28 (go_aload_n d_Pat_addSign_27 rfl 0 rfl) rfl ?_
      refine EvF.gop 31 (go_get f_Pat_18 d_Pat_addSign_28 (h1) rfl) rfl ?_
      refine EvF.gop 32 (go_iload_n d_Pat_addSign_31 rfl 1 rfl) rfl ?_
      refine EvF.gop 33 (go_iast (j := n) d_Pat_addSign_32 (h2) (rfl) (by omega) (by omega)) rfl ?_
      refine EvF.gop 34 (go_aload_n d_Pat_addSign_33 rfl 0 rfl) rfl ?_
      refine EvF.gop 35 (go_dup d_Pat_addSign_34 rfl) rfl ?_
      refine EvF.gop 38 (go_get f_Pat_18 d_Pat_addSign_35 ((gRd_n _ _ (gNe h1 h2)).trans (h1)) rfl) rfl ?_
      refine EvF.gop 39 (go_iconst (v := 1) d_Pat_addSign_38 (by decide)) rfl ?_
      refine EvF.gop 40 (go_iadd d_Pat_addSign_39) rfl ?_
      refine EvF.go (go_v (y := nI (n + 1)) (nI_1 n)) ?_
      refine EvF.gop 43 (go_put [.ref ps, .ref pl, .int (nI (n + 1))] f_Pat_18 ft_Pat_2 d_Pat_addSign_40 ((gRd_n _ _ (gNe h1 h2)).trans (h1)) (rfl) (rfl) (Nat.le_of_ble_eq_true rfl) rfl) rfl ?_
      refine EvF.gop 44 (go_aload_n d_Pat_addSign_43 rfl 0 rfl) rfl ?_
      refine EvF.gop 47 (go_get f_Pat_15 d_Pat_addSign_44 (gRd_s _ _ _) rfl) rfl ?_
      refine EvF.gop 48 (go_aload_n d_Pat_addSign_47 rfl 0 rfl) rfl ?_
      refine EvF.gop 51 (go_get f_Pat_18 d_Pat_addSign_48 (gRd_s _ _ _) rfl) rfl ?_
      refine EvF.gop 52 (go_iconst (v := 0) d_Pat_addSign_51 (by decide)) rfl ?_
      refine EvF.gop 53 (go_iast (j := (n + 1)) d_Pat_addSign_52 ((gRd_n _ _ (Ne.symm (gNe h1 h3))).trans ((gRd_n _ _ (Ne.symm hne)).trans (h3))) (rfl) (by omega) (by omega)) rfl ?_
      refine EvF.gop 54 (go_iconst (v := 1) d_Pat_addSign_53 (by decide)) rfl ?_
      exact EvF.rz d_Pat_addSign_54 rfl (by decide) (rfl) (rfl)
    · refine EvF.gop 21 (go_icmp_eq_f 23 d_Pat_addSign_18 (by decide) (c2)) rfl ?_
      refine EvF.gop 22 (go_iconst (v := 0) d_Pat_addSign_21 (by decide)) rfl ?_
      exact absurd hc (by simp [*])
  · have c1x : (cLet c) = true := bI_n0.mp c1
    refine EvF.gop 23 (go_if_ne_t 23 d_Pat_addSign_12 (by decide) (c1)) rfl ?_
    refine EvF.gop 24 (go_aload_n d_Pat_addSign_23 rfl 0 rfl) rfl ?_
    refine EvF.gop 27 (go_get f_Pat_9 d_Pat_addSign_24 (h1) rfl) rfl ?_
    refine EvF.gop 28 (go_aload_n d_Pat_addSign_27 rfl 0 rfl) rfl ?_
    refine EvF.gop 31 (go_get f_Pat_18 d_Pat_addSign_28 (h1) rfl) rfl ?_
    refine EvF.gop 32 (go_iload_n d_Pat_addSign_31 rfl 1 rfl) rfl ?_
    refine EvF.gop 33 (go_iast (j := n) d_Pat_addSign_32 (h2) (rfl) (by omega) (by omega)) rfl ?_
    refine EvF.gop 34 (go_aload_n d_Pat_addSign_33 rfl 0 rfl) rfl ?_
    refine EvF.gop 35 (go_dup d_Pat_addSign_34 rfl) rfl ?_
    refine EvF.gop 38 (go_get f_Pat_18 d_Pat_addSign_35 ((gRd_n _ _ (gNe h1 h2)).trans (h1)) rfl) rfl ?_
    refine EvF.gop 39 (go_iconst (v := 1) d_Pat_addSign_38 (by decide)) rfl ?_
    refine EvF.gop 40 (go_iadd d_Pat_addSign_39) rfl ?_
    refine EvF.go (go_v (y := nI (n + 1)) (nI_1 n)) ?_
    refine EvF.gop 43 (go_put [.ref ps, .ref pl, .int (nI (n + 1))] f_Pat_18 ft_Pat_2 d_Pat_addSign_40 ((gRd_n _ _ (gNe h1 h2)).trans (h1)) (rfl) (rfl) (Nat.le_of_ble_eq_true rfl) rfl) rfl ?_
    refine EvF.gop 44 (go_aload_n d_Pat_addSign_43 rfl 0 rfl) rfl ?_
    refine EvF.gop 47 (go_get f_Pat_15 d_Pat_addSign_44 (gRd_s _ _ _) rfl) rfl ?_
    refine EvF.gop 48 (go_aload_n d_Pat_addSign_47 rfl 0 rfl) rfl ?_
    refine EvF.gop 51 (go_get f_Pat_18 d_Pat_addSign_48 (gRd_s _ _ _) rfl) rfl ?_
    refine EvF.gop 52 (go_iconst (v := 0) d_Pat_addSign_51 (by decide)) rfl ?_
    refine EvF.gop 53 (go_iast (j := (n + 1)) d_Pat_addSign_52 ((gRd_n _ _ (Ne.symm (gNe h1 h3))).trans ((gRd_n _ _ (Ne.symm hne)).trans (h3))) (rfl) (by omega) (by omega)) rfl ?_
    refine EvF.gop 54 (go_iconst (v := 1) d_Pat_addSign_53 (by decide)) rfl ?_
    exact EvF.rz d_Pat_addSign_54 rfl (by decide) (rfl) (rfl)
/-- addSign refuses -/
theorem e_Pat_addSignF (G : gG) (M : gM) (p ps pl n : Nat) (sg lv : Nat → Int32) (c : Int32) (h1 : gRd M p = some (.inr (4, [.ref ps, .ref pl, .int (nI n)]))) (h2 : gRd M ps = some (aI G 5 sg)) (h3 : gRd M pl = some (aI G 6 lv)) (hne : ps ≠ pl) (hn : n ≤ 5) (hc : n = 5 ∨ (cLet c || decide (c = 46)) = false) : Ev G 1 m_Pat_addSign [.ref p, .int c] M (some (.int (0))) M := by
  refine Ev.of (Nat.le_of_ble_eq_true rfl) ?_
  show EvF G 1 m_Pat_addSign (0, [(0, .ref p), (1, .int c)], [], M) _ _
  refine EvF.gop 1 (go_aload_n d_Pat_addSign_0 rfl 0 rfl) rfl ?_
  refine EvF.gop 4 (go_get f_Pat_18 d_Pat_addSign_1 (h1) rfl) rfl ?_
  refine EvF.gop 5 (go_iconst (v := 5) d_Pat_addSign_4 (by decide)) rfl ?_
  by_cases c1 : (nI n) = 5
  · have c1x : n = 5 := (nI_eq (a := n) (b := 5) (by omega) (by decide)).mp c1
    refine EvF.gop 21 (go_icmp_eq_t 21 d_Pat_addSign_5 (by decide) (c1)) rfl ?_
    refine EvF.gop 22 (go_iconst (v := 0) d_Pat_addSign_21 (by decide)) rfl ?_
    exact EvF.rz d_Pat_addSign_22 rfl (by decide) (rfl) (rfl)
  · have c1x : ¬ n = 5 := fun q9 => c1 ((nI_eq (a := n) (b := 5) (by omega) (by decide)).mpr q9)
    refine EvF.gop 8 (go_icmp_eq_f 21 d_Pat_addSign_5 (by decide) (c1)) rfl ?_
    refine EvF.gop 9 (go_iload_n d_Pat_addSign_8 rfl 1 rfl) rfl ?_
    refine EvF.gop 12 (go_callS [.int c] [.int (bI (cLet c))] c0_PS_isLetter sm_PS_isLetter lk_Pat_39 d_Pat_addSign_9 (e_PS_isLetter G M c) (by decide) rfl rfl (Nat.le_of_ble_eq_true rfl) rfl) rfl ?_
    by_cases c2 : (bI (cLet c)) = 0
    · have c2x : (cLet c) = false := bI_0.mp c2
      refine EvF.gop 15 (go_if_ne_f 23 d_Pat_addSign_12 (by decide) (c2)) rfl ?_
      refine EvF.gop 16 (go_iload_n d_Pat_addSign_15 rfl 1 rfl) rfl ?_
      refine EvF.gop 18 (go_bipush (v := 46) d_Pat_addSign_16 (by decide)) rfl ?_
      by_cases c3 : c = 46
      · refine EvF.gop 23 (go_icmp_eq_t 23 d_Pat_addSign_18 (by decide) (c3)) rfl ?_
        refine EvF.gop 24 (go_aload_n d_Pat_addSign_23 rfl 0 rfl) rfl ?_
        refine EvF.gop 27 (go_get f_Pat_9 d_Pat_addSign_24 (h1) rfl) rfl ?_
        refine EvF.gop 28 (go_aload_n d_Pat_addSign_27 rfl 0 rfl) rfl ?_
        refine EvF.gop 31 (go_get f_Pat_18 d_Pat_addSign_28 (h1) rfl) rfl ?_
        refine EvF.gop 32 (go_iload_n d_Pat_addSign_31 rfl 1 rfl) rfl ?_
        refine EvF.gop 33 (go_iast (j := n) d_Pat_addSign_32 (h2) (rfl) (by omega) (by omega)) rfl ?_
        refine EvF.gop 34 (go_aload_n d_Pat_addSign_33 rfl 0 rfl) rfl ?_
        refine EvF.gop 35 (go_dup d_Pat_addSign_34 rfl) rfl ?_
        refine EvF.gop 38 (go_get f_Pat_18 d_Pat_addSign_35 ((gRd_n _ _ (gNe h1 h2)).trans (h1)) rfl) rfl ?_
        refine EvF.gop 39 (go_iconst (v := 1) d_Pat_addSign_38 (by decide)) rfl ?_
        refine EvF.gop 40 (go_iadd d_Pat_addSign_39) rfl ?_
        refine EvF.go (go_v (y := nI (n + 1)) (nI_1 n)) ?_
        refine EvF.gop 43 (go_put [.ref ps, .ref pl, .int (nI (n + 1))] f_Pat_18 ft_Pat_2 d_Pat_addSign_40 ((gRd_n _ _ (gNe h1 h2)).trans (h1)) (rfl) (rfl) (Nat.le_of_ble_eq_true rfl) rfl) rfl ?_
        refine EvF.gop 44 (go_aload_n d_Pat_addSign_43 rfl 0 rfl) rfl ?_
        refine EvF.gop 47 (go_get f_Pat_15 d_Pat_addSign_44 (gRd_s _ _ _) rfl) rfl ?_
        refine EvF.gop 48 (go_aload_n d_Pat_addSign_47 rfl 0 rfl) rfl ?_
        refine EvF.gop 51 (go_get f_Pat_18 d_Pat_addSign_48 (gRd_s _ _ _) rfl) rfl ?_
        refine EvF.gop 52 (go_iconst (v := 0) d_Pat_addSign_51 (by decide)) rfl ?_
        refine EvF.gop 53 (go_iast (j := (n + 1)) d_Pat_addSign_52 ((gRd_n _ _ (Ne.symm (gNe h1 h3))).trans ((gRd_n _ _ (Ne.symm hne)).trans (h3))) (rfl) (by omega) (by omega)) rfl ?_
        refine EvF.gop 54 (go_iconst (v := 1) d_Pat_addSign_53 (by decide)) rfl ?_
        exact absurd hc (by simp [*])
      · refine EvF.gop 21 (go_icmp_eq_f 23 d_Pat_addSign_18 (by decide) (c3)) rfl ?_
        refine EvF.gop 22 (go_iconst (v := 0) d_Pat_addSign_21 (by decide)) rfl ?_
        exact EvF.rz d_Pat_addSign_22 rfl (by decide) (rfl) (rfl)
    · have c2x : (cLet c) = true := bI_n0.mp c2
      refine EvF.gop 23 (go_if_ne_t 23 d_Pat_addSign_12 (by decide) (c2)) rfl ?_
      refine EvF.gop 24 (go_aload_n d_Pat_addSign_23 rfl 0 rfl) rfl ?_
      refine EvF.gop 27 (go_get f_Pat_9 d_Pat_addSign_24 (h1) rfl) rfl ?_
      refine EvF.gop 28 (go_aload_n d_Pat_addSign_27 rfl 0 rfl) rfl ?_
      refine EvF.gop 31 (go_get f_Pat_18 d_Pat_addSign_28 (h1) rfl) rfl ?_
      refine EvF.gop 32 (go_iload_n d_Pat_addSign_31 rfl 1 rfl) rfl ?_
      refine EvF.gop 33 (go_iast (j := n) d_Pat_addSign_32 (h2) (rfl) (by omega) (by omega)) rfl ?_
      refine EvF.gop 34 (go_aload_n d_Pat_addSign_33 rfl 0 rfl) rfl ?_
      refine EvF.gop 35 (go_dup d_Pat_addSign_34 rfl) rfl ?_
      refine EvF.gop 38 (go_get f_Pat_18 d_Pat_addSign_35 ((gRd_n _ _ (gNe h1 h2)).trans (h1)) rfl) rfl ?_
      refine EvF.gop 39 (go_iconst (v := 1) d_Pat_addSign_38 (by decide)) rfl ?_
      refine EvF.gop 40 (go_iadd d_Pat_addSign_39) rfl ?_
      refine EvF.go (go_v (y := nI (n + 1)) (nI_1 n)) ?_
      refine EvF.gop 43 (go_put [.ref ps, .ref pl, .int (nI (n + 1))] f_Pat_18 ft_Pat_2 d_Pat_addSign_40 ((gRd_n _ _ (gNe h1 h2)).trans (h1)) (rfl) (rfl) (Nat.le_of_ble_eq_true rfl) rfl) rfl ?_
      refine EvF.gop 44 (go_aload_n d_Pat_addSign_43 rfl 0 rfl) rfl ?_
      refine EvF.gop 47 (go_get f_Pat_15 d_Pat_addSign_44 (gRd_s _ _ _) rfl) rfl ?_
      refine EvF.gop 48 (go_aload_n d_Pat_addSign_47 rfl 0 rfl) rfl ?_
      refine EvF.gop 51 (go_get f_Pat_18 d_Pat_addSign_48 (gRd_s _ _ _) rfl) rfl ?_
      refine EvF.gop 52 (go_iconst (v := 0) d_Pat_addSign_51 (by decide)) rfl ?_
      refine EvF.gop 53 (go_iast (j := (n + 1)) d_Pat_addSign_52 ((gRd_n _ _ (Ne.symm (gNe h1 h3))).trans ((gRd_n _ _ (Ne.symm hne)).trans (h3))) (rfl) (by omega) (by omega)) rfl ?_
      refine EvF.gop 54 (go_iconst (v := 1) d_Pat_addSign_53 (by decide)) rfl ?_
      exact absurd hc (by simp [*])
def edF (sg : Nat → Int32) : Nat → Nat → Bool
  | 0, _ => true
  | r + 1, k => if sg k = 46 then false else edF sg r (k + 1)
theorem g_Pat_edges (G : gG) (M : gM) (p ps pl n : Nat) (sg lv : Nat → Int32) (h1 : gRd M p = some (.inr (4, [.ref ps, .ref pl, .int (nI n)]))) (h2 : gRd M ps = some (aI G 5 sg)) (h3 : gRd M pl = some (aI G 6 lv)) (hne : ps ≠ pl) (hn : n ≤ 5) (hn1 : 1 ≤ n) : ∀ (r k : Nat), k + r = (if n ≤ 2 then 1 else n - 1) → 1 ≤ k → EvF G 0 m_Pat_hasPointsAtEdgesOnly (2, [(0, .ref p), (1, .int (nI k))], [], M) (some (.int (bI (edF sg r k)))) M := by
  intro r
  induction r with
  | zero =>
    intro k hk hk1
    refine EvF.gop 3 (go_iload_n d_Pat_hasPointsAtEdgesOnly_2 rfl 1 rfl) rfl ?_
    refine EvF.gop 4 (go_aload_n d_Pat_hasPointsAtEdgesOnly_3 rfl 0 rfl) rfl ?_
    refine EvF.gop 7 (go_get f_Pat_18 d_Pat_hasPointsAtEdgesOnly_4 (h1) rfl) rfl ?_
    refine EvF.gop 8 (go_iconst (v := 1) d_Pat_hasPointsAtEdgesOnly_7 (by decide)) rfl ?_
    refine EvF.gop 9 (go_isub d_Pat_hasPointsAtEdgesOnly_8) rfl ?_
    refine EvF.go (go_v (y := nI (n - 1)) (by rw [← pk_sub (by omega)]; rfl)) ?_
    refine EvF.gop 31 (go_icmp_ge_t 31 d_Pat_hasPointsAtEdgesOnly_9 (by decide) (nI_le (by split at hk <;> omega) (by split at hk <;> omega))) rfl ?_
    refine EvF.gop 32 (go_iconst (v := 1) d_Pat_hasPointsAtEdgesOnly_31 (by decide)) rfl ?_
    exact EvF.rz d_Pat_hasPointsAtEdgesOnly_32 rfl (by decide) (rfl) (rfl)
  | succ r ih =>
    intro k hk hk1
    refine EvF.gop 3 (go_iload_n d_Pat_hasPointsAtEdgesOnly_2 rfl 1 rfl) rfl ?_
    refine EvF.gop 4 (go_aload_n d_Pat_hasPointsAtEdgesOnly_3 rfl 0 rfl) rfl ?_
    refine EvF.gop 7 (go_get f_Pat_18 d_Pat_hasPointsAtEdgesOnly_4 (h1) rfl) rfl ?_
    refine EvF.gop 8 (go_iconst (v := 1) d_Pat_hasPointsAtEdgesOnly_7 (by decide)) rfl ?_
    refine EvF.gop 9 (go_isub d_Pat_hasPointsAtEdgesOnly_8) rfl ?_
    refine EvF.go (go_v (y := nI (n - 1)) (by rw [← pk_sub (by omega)]; rfl)) ?_
    refine EvF.gop 12 (go_icmp_ge_f 31 d_Pat_hasPointsAtEdgesOnly_9 (by decide) (nI_ge (by split at hk <;> omega) (by omega))) rfl ?_
    refine EvF.gop 13 (go_aload_n d_Pat_hasPointsAtEdgesOnly_12 rfl 0 rfl) rfl ?_
    refine EvF.gop 16 (go_get f_Pat_9 d_Pat_hasPointsAtEdgesOnly_13 (h1) rfl) rfl ?_
    refine EvF.gop 17 (go_iload_n d_Pat_hasPointsAtEdgesOnly_16 rfl 1 rfl) rfl ?_
    refine EvF.gop 18 (go_iald (j := k) d_Pat_hasPointsAtEdgesOnly_17 (h2) (rfl) (by split at hk <;> omega) (by omega)) rfl ?_
    refine EvF.gop 20 (go_bipush (v := 46) d_Pat_hasPointsAtEdgesOnly_18 (by decide)) rfl ?_
    by_cases c1 : (sg k) = 46
    · refine EvF.gop 23 (go_icmp_ne_f 25 d_Pat_hasPointsAtEdgesOnly_20 (by decide) (c1)) rfl ?_
      refine EvF.gop 24 (go_iconst (v := 0) d_Pat_hasPointsAtEdgesOnly_23 (by decide)) rfl ?_
      exact EvF.rz d_Pat_hasPointsAtEdgesOnly_24 rfl (by decide) (by simp [bI, edF, *]) (rfl)
    · refine EvF.gop 25 (go_icmp_ne_t 25 d_Pat_hasPointsAtEdgesOnly_20 (by decide) (c1)) rfl ?_
      refine EvF.gop 28 (go_inc1 (n0 := 1) (x := k) [(1, .int (nI (k + 1))), (0, .ref p)] d_Pat_hasPointsAtEdgesOnly_25 rfl (by decide) rfl) rfl ?_
      refine EvF.go (go_pick [1, 0] [(0, .ref p), (1, .int (nI (k + 1)))] rfl) ?_
      refine EvF.gop 2 (go_goto 2 d_Pat_hasPointsAtEdgesOnly_28 (by decide)) rfl ?_
      rw [show edF sg (r + 1) k = edF sg r (k + 1) from by simp [edF, *]]
      exact ih (k + 1) (by omega) (by omega)
theorem e_Pat_edges (G : gG) (M : gM) (p ps pl n : Nat) (sg lv : Nat → Int32) (h1 : gRd M p = some (.inr (4, [.ref ps, .ref pl, .int (nI n)]))) (h2 : gRd M ps = some (aI G 5 sg)) (h3 : gRd M pl = some (aI G 6 lv)) (hne : ps ≠ pl) (hn : n ≤ 5) (hn1 : 1 ≤ n) : Ev G 0 m_Pat_hasPointsAtEdgesOnly [.ref p] M (some (.int (bI (edF sg (n - 2) 1)))) M := by
  refine Ev.of (Nat.le_of_ble_eq_true rfl) ?_
  show EvF G 0 m_Pat_hasPointsAtEdgesOnly (0, [(0, .ref p)], [], M) _ _
  refine EvF.gop 1 (go_iconst (v := nI 1) d_Pat_hasPointsAtEdgesOnly_0 (rfl)) rfl ?_
  refine EvF.gop 2 (go_istore_n [(1, .int (nI 1)), (0, .ref p)] d_Pat_hasPointsAtEdgesOnly_1 rfl (by decide) rfl) rfl ?_
  refine EvF.go (go_pick [1, 0] [(0, .ref p), (1, .int (nI 1))] rfl) ?_
  exact g_Pat_edges G M p ps pl n sg lv h1 h2 h3 hne hn hn1 (n - 2) 1 (by split <;> omega) (Nat.le_refl 1)
def rdF (g : Nat → Int32) : Nat → Nat → Nat → (Nat → Int32) → (Nat → Int32) → Bool → Bool × Nat × (Nat → Int32) × (Nat → Int32)
  | 0, _, n, sg, lv, _ => (decide (0 < n) && edF sg (n - 2) 1, n, sg, lv)
  | r + 1, k, n, sg, lv, b =>
    if cDig (g k) = true then (if b = true then (false, n, sg, lv) else rdF g r (k + 1) n sg (upd lv n (g k - 48)) true)
    else (if n = 5 ∨ (cLet (g k) || decide (g k = 46)) = false then (false, n, sg, lv) else rdF g r (k + 1) (n + 1) (upd sg n (g k)) (upd lv (n + 1) 0) false)
theorem g_Pat_read (G : gG) (M : gM) (p ps pl b br nb m : Nat) (x : Int32) (sg0 lv0 g : Nat → Int32) (h1 : gRd M p = some (.inr (4, [.ref ps, .ref pl, .int x]))) (h2 : gRd M ps = some (aI G 5 sg0)) (h3 : gRd M pl = some (aI G 6 lv0)) (h4 : gRd M b = some (.inr (0, [.ref br, .int (nI m)]))) (h5 : gRd M br = some (aI G nb g)) (hne : ps ≠ pl) (hbs : br ≠ ps) (hbl : br ≠ pl) (hm : m ≤ nb) (hnb : nb < 2 ^ 31) : ∀ (r k : Nat) (n : Nat) (sg lv : Nat → Int32) (z : Bool), k + r = m → n ≤ 5 → EvF G 2 m_Pat_read (16, [(0, .ref p), (1, .ref b), (2, .int (bI z)), (3, .int (nI k))], [], (gWr (gWr (gWr M p (.inr (4, [.ref ps, .ref pl, .int (nI n)]))) pl (aI G 6 lv)) ps (aI G 5 sg))) (some (.int (bI (rdF g r k n sg lv z).1))) (gWr (gWr (gWr M p (.inr (4, [.ref ps, .ref pl, .int (nI ((rdF g r k n sg lv z).2.1))]))) pl (aI G 6 ((rdF g r k n sg lv z).2.2.2))) ps (aI G 5 ((rdF g r k n sg lv z).2.2.1))) := by
  intro r
  induction r with
  | zero =>
    intro k n sg lv z hk hn
    refine EvF.gop 17 (go_iload_n d_Pat_read_16 rfl 3 rfl) rfl ?_
    refine EvF.gop 18 (go_aload_n d_Pat_read_17 rfl 1 rfl) rfl ?_
    refine EvF.gop 21 (go_get f_Pat_22 d_Pat_read_18 ((gRd_n _ _ (gNe h4 h2)).trans ((gRd_n _ _ (gNe h4 h3)).trans ((gRd_n _ _ (Ne.symm (gNeK h1 h4 (by decide)))).trans (h4)))) rfl) rfl ?_
    refine EvF.gop 84 (go_icmp_ge_t 84 d_Pat_read_21 (by decide) (nI_le (by omega) (by omega))) rfl ?_
    refine EvF.gop 85 (go_aload_n d_Pat_read_84 rfl 0 rfl) rfl ?_
    refine EvF.gop 88 (go_get f_Pat_18 d_Pat_read_85 ((gRd_n _ _ (gNe h1 h2)).trans ((gRd_n _ _ (gNe h1 h3)).trans (gRd_s _ _ _))) rfl) rfl ?_
    by_cases c1 : (nI n) ≤ 0
    · have c1x : n ≤ 0 := (nI_leI (a := n) (b := 0) (by omega) (by decide)).mp c1
      have c1y : ¬ 0 < n := by omega
      refine EvF.gop 102 (go_if_le_t 102 d_Pat_read_88 (by decide) (c1)) rfl ?_
      refine EvF.gop 103 (go_iconst (v := 0) d_Pat_read_102 (by decide)) rfl ?_
      exact EvF.rz d_Pat_read_103 rfl (by decide) (by simp [bI, rdF, *]) (by simp [rdF])
    · have c1x : 0 < n := Nat.lt_of_not_le (fun q9 => c1 ((nI_leI (a := n) (b := 0) (by omega) (by decide)).mpr q9))
      have c1y : ¬ n ≤ 0 := by omega
      refine EvF.gop 91 (go_if_le_f 102 d_Pat_read_88 (by decide) (c1)) rfl ?_
      refine EvF.gop 92 (go_aload_n d_Pat_read_91 rfl 0 rfl) rfl ?_
      refine EvF.gop 95 (go_callV [] [.int (bI (edF sg (n - 2) 1))] c0_Pat_hasPointsAtEdgesOnly im_Pat_hasPointsAtEdgesOnly se_Pat_hasPointsAtEdgesOnly lk_Pat_35 d_Pat_read_92 rfl rfl ((gRd_n _ _ (gNe h1 h2)).trans ((gRd_n _ _ (gNe h1 h3)).trans (gRd_s _ _ _))) (e_Pat_edges G _ p ps pl n sg lv ((gRd_n _ _ (gNe h1 h2)).trans ((gRd_n _ _ (gNe h1 h3)).trans (gRd_s _ _ _))) (gRd_s _ _ _) ((gRd_n _ _ (Ne.symm hne)).trans (gRd_s _ _ _)) hne hn (by omega)) (by decide) rfl rfl (Nat.le_of_ble_eq_true rfl) rfl) rfl ?_
      by_cases c2 : (bI (edF sg (n - 2) 1)) = 0
      · have c2x : (edF sg (n - 2) 1) = false := bI_0.mp c2
        refine EvF.gop 102 (go_if_eq_t 102 d_Pat_read_95 (by decide) (c2)) rfl ?_
        refine EvF.gop 103 (go_iconst (v := 0) d_Pat_read_102 (by decide)) rfl ?_
        exact EvF.rz d_Pat_read_103 rfl (by decide) (by simp [bI, rdF, *]) (by simp [rdF])
      · have c2x : (edF sg (n - 2) 1) = true := bI_n0.mp c2
        refine EvF.gop 98 (go_if_eq_f 102 d_Pat_read_95 (by decide) (c2)) rfl ?_
        refine EvF.gop 99 (go_iconst (v := 1) d_Pat_read_98 (by decide)) rfl ?_
        refine EvF.gop 103 (go_goto 103 d_Pat_read_99 (by decide)) rfl ?_
        exact EvF.rz d_Pat_read_103 rfl (by decide) (by simp [bI, rdF, *]) (by simp [rdF])
  | succ r ih =>
    intro k n sg lv z hk hn
    refine EvF.gop 17 (go_iload_n d_Pat_read_16 rfl 3 rfl) rfl ?_
    refine EvF.gop 18 (go_aload_n d_Pat_read_17 rfl 1 rfl) rfl ?_
    refine EvF.gop 21 (go_get f_Pat_22 d_Pat_read_18 ((gRd_n _ _ (gNe h4 h2)).trans ((gRd_n _ _ (gNe h4 h3)).trans ((gRd_n _ _ (Ne.symm (gNeK h1 h4 (by decide)))).trans (h4)))) rfl) rfl ?_
    refine EvF.gop 24 (go_icmp_ge_f 84 d_Pat_read_21 (by decide) (nI_ge (by omega) (by omega))) rfl ?_
    refine EvF.gop 25 (go_aload_n d_Pat_read_24 rfl 1 rfl) rfl ?_
    refine EvF.gop 28 (go_get f_Pat_25 d_Pat_read_25 ((gRd_n _ _ (gNe h4 h2)).trans ((gRd_n _ _ (gNe h4 h3)).trans ((gRd_n _ _ (Ne.symm (gNeK h1 h4 (by decide)))).trans (h4)))) rfl) rfl ?_
    refine EvF.gop 29 (go_iload_n d_Pat_read_28 rfl 3 rfl) rfl ?_
    refine EvF.gop 30 (go_iald (j := k) d_Pat_read_29 ((gRd_n _ _ hbs).trans ((gRd_n _ _ hbl).trans ((gRd_n _ _ (Ne.symm (gNe h1 h5))).trans (h5)))) (rfl) (by omega) (by omega)) rfl ?_
    refine EvF.gop 32 (go_istore [(4, .int (g k)), (0, .ref p), (1, .ref b), (2, .int (bI z)), (3, .int (nI k))] d_Pat_read_30 (by decide) rfl) rfl ?_
    refine EvF.go (go_pick [1, 2, 3, 4, 0] [(0, .ref p), (1, .ref b), (2, .int (bI z)), (3, .int (nI k)), (4, .int (g k))] rfl) ?_
    refine EvF.gop 34 (go_iload d_Pat_read_32 4 rfl) rfl ?_
    refine EvF.gop 37 (go_callS [.int (g k)] [.int (bI (cDig (g k)))] c0_PS_isDigit sm_PS_isDigit lk_Pat_28 d_Pat_read_34 (e_PS_isDigit G _ (g k)) (by decide) rfl rfl (Nat.le_of_ble_eq_true rfl) rfl) rfl ?_
    by_cases c1 : (bI (cDig (g k))) = 0
    · have c1x : (cDig (g k)) = false := bI_0.mp c1
      refine EvF.gop 65 (go_if_eq_t 65 d_Pat_read_37 (by decide) (c1)) rfl ?_
      refine EvF.gop 66 (go_aload_n d_Pat_read_65 rfl 0 rfl) rfl ?_
      refine EvF.gop 68 (go_iload d_Pat_read_66 4 rfl) rfl ?_
      by_cases hs : n = 5 ∨ (cLet (g k) || decide (g k = 46)) = false
      · refine EvF.gop 71 (go_callV [.int (g k)] [.int 0] c0_Pat_addSign im_Pat_addSign se_Pat_addSign lk_Pat_32 d_Pat_read_68 rfl rfl ((gRd_n _ _ (gNe h1 h2)).trans ((gRd_n _ _ (gNe h1 h3)).trans (gRd_s _ _ _))) (e_Pat_addSignF G _ p ps pl n sg lv (g k) ((gRd_n _ _ (gNe h1 h2)).trans ((gRd_n _ _ (gNe h1 h3)).trans (gRd_s _ _ _))) (gRd_s _ _ _) ((gRd_n _ _ (Ne.symm hne)).trans (gRd_s _ _ _)) hne hn hs) (by decide) rfl rfl (Nat.le_of_ble_eq_true rfl) rfl) rfl ?_
        refine EvF.gop 74 (go_if_ne_f 76 d_Pat_read_71 (by decide) (by decide)) rfl ?_
        refine EvF.gop 75 (go_iconst (v := 0) d_Pat_read_74 (by decide)) rfl ?_
        rw [show rdF g (r + 1) k n sg lv z = (false, n, sg, lv) from by rw [rdF, if_neg (by rw [c1x]; decide), if_pos hs]]
        exact EvF.rz d_Pat_read_75 rfl (by decide) (rfl) (rfl)
      · have hs5 : n < 5 := by have := fun q => hs (Or.inl q); omega
        have hs6 : (cLet (g k) || decide (g k = 46)) = true := by cases hh : (cLet (g k) || decide (g k = 46)) with | true => rfl | false => exact absurd (Or.inr hh) hs
        refine EvF.gop 71 (go_callV [.int (g k)] [.int 1] c0_Pat_addSign im_Pat_addSign se_Pat_addSign lk_Pat_32 d_Pat_read_68 rfl rfl ((gRd_n _ _ (gNe h1 h2)).trans ((gRd_n _ _ (gNe h1 h3)).trans (gRd_s _ _ _))) (e_Pat_addSign G _ p ps pl n sg lv (g k) ((gRd_n _ _ (gNe h1 h2)).trans ((gRd_n _ _ (gNe h1 h3)).trans (gRd_s _ _ _))) (gRd_s _ _ _) ((gRd_n _ _ (Ne.symm hne)).trans (gRd_s _ _ _)) hne hn hs5 hs6) (by decide) rfl rfl (Nat.le_of_ble_eq_true rfl) rfl) rfl ?_
        refine EvF.go (go_m (M' := (gWr (gWr (gWr M p (.inr (4, [.ref ps, .ref pl, .int (nI (n + 1))]))) pl (aI G 6 (upd lv (n + 1) 0))) ps (aI G 5 (upd sg n (g k))))) ((congrArg (fun m => gWr m pl (aI G 6 (upd lv (n + 1) 0))) ((congrArg (fun m => gWr m p (.inr (4, [.ref ps, .ref pl, .int (nI (n + 1))]))) (gWr_wr (gWr (gWr M p (.inr (4, [.ref ps, .ref pl, .int (nI n)]))) pl (aI G 6 lv)) ps (aI G 5 sg) (aI G 5 (upd sg n (g k))))).trans ((gWr_cm (gWr (gWr M p (.inr (4, [.ref ps, .ref pl, .int (nI n)]))) pl (aI G 6 lv)) (aI G 5 (upd sg n (g k))) (.inr (4, [.ref ps, .ref pl, .int (nI (n + 1))])) (Ne.symm (gNe h1 h2))).trans (congrArg (fun m => gWr m ps (aI G 5 (upd sg n (g k)))) ((gWr_cm (gWr M p (.inr (4, [.ref ps, .ref pl, .int (nI n)]))) (aI G 6 lv) (.inr (4, [.ref ps, .ref pl, .int (nI (n + 1))])) (Ne.symm (gNe h1 h3))).trans (congrArg (fun m => gWr m pl (aI G 6 lv)) (gWr_wr M p (.inr (4, [.ref ps, .ref pl, .int (nI n)])) (.inr (4, [.ref ps, .ref pl, .int (nI (n + 1))]))))))))).trans ((gWr_cm (gWr (gWr M p (.inr (4, [.ref ps, .ref pl, .int (nI (n + 1))]))) pl (aI G 6 lv)) (aI G 5 (upd sg n (g k))) (aI G 6 (upd lv (n + 1) 0)) hne).trans (congrArg (fun m => gWr m ps (aI G 5 (upd sg n (g k)))) (gWr_wr (gWr M p (.inr (4, [.ref ps, .ref pl, .int (nI (n + 1))]))) pl (aI G 6 lv) (aI G 6 (upd lv (n + 1) 0))))))) ?_
        refine EvF.gop 76 (go_if_ne_t 76 d_Pat_read_71 (by decide) (by decide)) rfl ?_
        refine EvF.gop 77 (go_iconst (v := bI false) d_Pat_read_76 (rfl)) rfl ?_
        refine EvF.gop 78 (go_istore_n [(2, .int (bI false)), (0, .ref p), (1, .ref b), (3, .int (nI k)), (4, .int (g k))] d_Pat_read_77 rfl (by decide) rfl) rfl ?_
        refine EvF.go (go_pick [1, 2, 0, 3, 4] [(0, .ref p), (1, .ref b), (2, .int (bI false)), (3, .int (nI k)), (4, .int (g k))] rfl) ?_
        refine EvF.gop 81 (go_inc1 (n0 := 3) (x := k) [(3, .int (nI (k + 1))), (0, .ref p), (1, .ref b), (2, .int (bI false)), (4, .int (g k))] d_Pat_read_78 rfl (by decide) rfl) rfl ?_
        refine EvF.go (go_pick [1, 2, 3, 0, 4] [(0, .ref p), (1, .ref b), (2, .int (bI false)), (3, .int (nI (k + 1))), (4, .int (g k))] rfl) ?_
        refine EvF.gop 16 (go_goto 16 d_Pat_read_81 (by decide)) rfl ?_
        refine EvF.go (go_pick [0, 1, 2, 3] [(0, .ref p), (1, .ref b), (2, .int (bI false)), (3, .int (nI (k + 1)))] rfl) ?_
        rw [show rdF g (r + 1) k n sg lv z = rdF g r (k + 1) (n + 1) (upd sg n (g k)) (upd lv (n + 1) 0) false from by rw [rdF, if_neg (by rw [c1x]; decide), if_neg hs]]
        exact ih (k + 1) (n + 1) (upd sg n (g k)) (upd lv (n + 1) 0) false (by omega) (by omega)
    · have c1x : (cDig (g k)) = true := bI_n0.mp c1
      refine EvF.gop 40 (go_if_eq_f 65 d_Pat_read_37 (by decide) (c1)) rfl ?_
      refine EvF.gop 41 (go_iload_n d_Pat_read_40 rfl 2 rfl) rfl ?_
      by_cases c2 : (bI z) = 0
      · have c2x : z = false := bI_0.mp c2
        refine EvF.gop 46 (go_if_eq_t 46 d_Pat_read_41 (by decide) (c2)) rfl ?_
        refine EvF.gop 47 (go_aload_n d_Pat_read_46 rfl 0 rfl) rfl ?_
        refine EvF.gop 50 (go_get f_Pat_15 d_Pat_read_47 ((gRd_n _ _ (gNe h1 h2)).trans ((gRd_n _ _ (gNe h1 h3)).trans (gRd_s _ _ _))) rfl) rfl ?_
        refine EvF.gop 51 (go_aload_n d_Pat_read_50 rfl 0 rfl) rfl ?_
        refine EvF.gop 54 (go_get f_Pat_18 d_Pat_read_51 ((gRd_n _ _ (gNe h1 h2)).trans ((gRd_n _ _ (gNe h1 h3)).trans (gRd_s _ _ _))) rfl) rfl ?_
        refine EvF.gop 56 (go_iload d_Pat_read_54 4 rfl) rfl ?_
        refine EvF.gop 58 (go_bipush (v := 48) d_Pat_read_56 (by decide)) rfl ?_
        refine EvF.gop 59 (go_isub d_Pat_read_58) rfl ?_
        refine EvF.gop 60 (go_iast (j := n) d_Pat_read_59 ((gRd_n _ _ (Ne.symm hne)).trans (gRd_s _ _ _)) (rfl) (by omega) (by omega)) rfl ?_
        refine EvF.go (go_m (M' := (gWr (gWr (gWr M p (.inr (4, [.ref ps, .ref pl, .int (nI n)]))) pl (aI G 6 (upd lv n ((g k) - 48)))) ps (aI G 5 sg))) ((gWr_cm (gWr (gWr M p (.inr (4, [.ref ps, .ref pl, .int (nI n)]))) pl (aI G 6 lv)) (aI G 5 sg) (aI G 6 (upd lv n ((g k) - 48))) hne).trans (congrArg (fun m => gWr m ps (aI G 5 sg)) (gWr_wr (gWr M p (.inr (4, [.ref ps, .ref pl, .int (nI n)]))) pl (aI G 6 lv) (aI G 6 (upd lv n ((g k) - 48))))))) ?_
        refine EvF.gop 61 (go_iconst (v := bI true) d_Pat_read_60 (rfl)) rfl ?_
        refine EvF.gop 62 (go_istore_n [(2, .int (bI true)), (0, .ref p), (1, .ref b), (3, .int (nI k)), (4, .int (g k))] d_Pat_read_61 rfl (by decide) rfl) rfl ?_
        refine EvF.go (go_pick [1, 2, 0, 3, 4] [(0, .ref p), (1, .ref b), (2, .int (bI true)), (3, .int (nI k)), (4, .int (g k))] rfl) ?_
        refine EvF.gop 78 (go_goto 78 d_Pat_read_62 (by decide)) rfl ?_
        refine EvF.gop 81 (go_inc1 (n0 := 3) (x := k) [(3, .int (nI (k + 1))), (0, .ref p), (1, .ref b), (2, .int (bI true)), (4, .int (g k))] d_Pat_read_78 rfl (by decide) rfl) rfl ?_
        refine EvF.go (go_pick [1, 2, 3, 0, 4] [(0, .ref p), (1, .ref b), (2, .int (bI true)), (3, .int (nI (k + 1))), (4, .int (g k))] rfl) ?_
        refine EvF.gop 16 (go_goto 16 d_Pat_read_81 (by decide)) rfl ?_
        refine EvF.go (go_pick [0, 1, 2, 3] [(0, .ref p), (1, .ref b), (2, .int (bI true)), (3, .int (nI (k + 1)))] rfl) ?_
        rw [show rdF g (r + 1) k n sg lv z = rdF g r (k + 1) n sg (upd lv n (g k - 48)) true from by simp [rdF, *]]
        exact ih (k + 1) n sg (upd lv n (g k - 48)) true (by omega) (by omega)
      · have c2x : z = true := bI_n0.mp c2
        refine EvF.gop 44 (go_if_eq_f 46 d_Pat_read_41 (by decide) (c2)) rfl ?_
        refine EvF.gop 45 (go_iconst (v := 0) d_Pat_read_44 (by decide)) rfl ?_
        rw [show rdF g (r + 1) k n sg lv z = (false, n, sg, lv) from by simp [rdF, *]]
        exact EvF.rz d_Pat_read_45 rfl (by decide) (rfl) (rfl)
theorem e_Pat_read (G : gG) (M : gM) (p ps pl b br nb m : Nat) (x : Int32) (sg0 lv0 g : Nat → Int32) (h1 : gRd M p = some (.inr (4, [.ref ps, .ref pl, .int x]))) (h2 : gRd M ps = some (aI G 5 sg0)) (h3 : gRd M pl = some (aI G 6 lv0)) (h4 : gRd M b = some (.inr (0, [.ref br, .int (nI m)]))) (h5 : gRd M br = some (aI G nb g)) (hne : ps ≠ pl) (hbs : br ≠ ps) (hbl : br ≠ pl) (hm : m ≤ nb) (hnb : nb < 2 ^ 31) : Ev G 2 m_Pat_read [.ref p, .ref b] M (some (.int (bI (rdF g m 0 0 sg0 (upd lv0 0 0) false).1))) (gWr (gWr (gWr M p (.inr (4, [.ref ps, .ref pl, .int (nI ((rdF g m 0 0 sg0 (upd lv0 0 0) false).2.1))]))) pl (aI G 6 ((rdF g m 0 0 sg0 (upd lv0 0 0) false).2.2.2))) ps (aI G 5 ((rdF g m 0 0 sg0 (upd lv0 0 0) false).2.2.1))) := by
  refine Ev.of (Nat.le_of_ble_eq_true rfl) ?_
  show EvF G 2 m_Pat_read (0, [(0, .ref p), (1, .ref b)], [], M) _ _
  refine EvF.gop 1 (go_aload_n d_Pat_read_0 rfl 0 rfl) rfl ?_
  refine EvF.gop 2 (go_iconst (v := nI 0) d_Pat_read_1 (rfl)) rfl ?_
  refine EvF.gop 5 (go_put [.ref ps, .ref pl, .int (nI 0)] f_Pat_18 ft_Pat_2 d_Pat_read_2 (h1) (rfl) (rfl) (Nat.le_of_ble_eq_true rfl) rfl) rfl ?_
  refine EvF.gop 6 (go_aload_n d_Pat_read_5 rfl 0 rfl) rfl ?_
  refine EvF.gop 9 (go_get f_Pat_15 d_Pat_read_6 (gRd_s _ _ _) rfl) rfl ?_
  refine EvF.gop 10 (go_iconst (v := nI 0) d_Pat_read_9 (rfl)) rfl ?_
  refine EvF.gop 11 (go_iconst (v := 0) d_Pat_read_10 (by decide)) rfl ?_
  refine EvF.gop 12 (go_iast (j := 0) d_Pat_read_11 ((gRd_n _ _ (Ne.symm (gNe h1 h3))).trans (h3)) (rfl) (by omega) (by omega)) rfl ?_
  refine EvF.gop 13 (go_iconst (v := bI false) d_Pat_read_12 (rfl)) rfl ?_
  refine EvF.gop 14 (go_istore_n [(2, .int (bI false)), (0, .ref p), (1, .ref b)] d_Pat_read_13 rfl (by decide) rfl) rfl ?_
  refine EvF.go (go_pick [1, 2, 0] [(0, .ref p), (1, .ref b), (2, .int (bI false))] rfl) ?_
  refine EvF.gop 15 (go_iconst (v := nI 0) d_Pat_read_14 (rfl)) rfl ?_
  refine EvF.gop 16 (go_istore_n [(3, .int (nI 0)), (0, .ref p), (1, .ref b), (2, .int (bI false))] d_Pat_read_15 rfl (by decide) rfl) rfl ?_
  refine EvF.go (go_pick [1, 2, 3, 0] [(0, .ref p), (1, .ref b), (2, .int (bI false)), (3, .int (nI 0))] rfl) ?_
  refine EvF.go (go_m (M' := (gWr (gWr (gWr M p (.inr (4, [.ref ps, .ref pl, .int (nI 0)]))) pl (aI G 6 (upd lv0 0 0))) ps (aI G 5 sg0))) (gWr_id ((gRd_n _ _ hne).trans ((gRd_n _ _ (Ne.symm (gNe h1 h2))).trans (h2)))).symm) ?_
  exact g_Pat_read G M p ps pl b br nb m x sg0 lv0 g h1 h2 h3 h4 h5 hne hbs hbl hm hnb m 0 0 sg0 (upd lv0 0 0) false (by omega) (by omega)
