def ptL (f : Nat → Int32) (k : Nat) : Bool := decide (f k - f k / 2 * 2 = 1)
/-- isPoint -/
theorem e_Hyp_isPoint (G : gG) (M : gM) (h hp hl : Nat) (hs : Int32) (fl : Nat → Int32) (k : Nat) (u1 : gRd M h = some (.inr (5, [.ref hp, .int hs, .ref hl]))) (u2 : gRd M hl = some (aI G 121 fl)) (hk : k < 121) : Ev G 0 m_Hyp_isPoint [.ref h, .int (nI k)] M (some (.int (bI (ptL fl k)))) M := by
  refine Ev.of (Nat.le_of_ble_eq_true rfl) ?_
  show EvF G 0 m_Hyp_isPoint (0, [(0, .ref h), (1, .int (nI k))], [], M) _ _
  refine EvF.gop 1 (go_aload_n d_Hyp_isPoint_0 rfl 0 rfl) rfl ?_
  refine EvF.gop 4 (go_get f_Hyp_21 d_Hyp_isPoint_1 (u1) rfl) rfl ?_
  refine EvF.gop 5 (go_iload_n d_Hyp_isPoint_4 rfl 1 rfl) rfl ?_
  refine EvF.gop 6 (go_iald (j := k) d_Hyp_isPoint_5 (u2) (rfl) (hk) (by omega)) rfl ?_
  refine EvF.gop 7 (go_iconst (v := 2) d_Hyp_isPoint_6 (by decide)) rfl ?_
  refine EvF.gop 8 (go_irem d_Hyp_isPoint_7 (by decide)) rfl ?_
  refine EvF.gop 9 (go_iconst (v := 1) d_Hyp_isPoint_8 (by decide)) rfl ?_
  by_cases c1 : ((fl k) - (fl k) / 2 * 2) = 1
  · refine EvF.gop 12 (go_icmp_ne_f 16 d_Hyp_isPoint_9 (by decide) (c1)) rfl ?_
    refine EvF.gop 13 (go_iconst (v := 1) d_Hyp_isPoint_12 (by decide)) rfl ?_
    refine EvF.gop 17 (go_goto 17 d_Hyp_isPoint_13 (by decide)) rfl ?_
    exact EvF.rz d_Hyp_isPoint_17 rfl (by decide) (by simp [bI, ptL, *]) (rfl)
  · refine EvF.gop 16 (go_icmp_ne_t 16 d_Hyp_isPoint_9 (by decide) (c1)) rfl ?_
    refine EvF.gop 17 (go_iconst (v := 0) d_Hyp_isPoint_16 (by decide)) rfl ?_
    exact EvF.rz d_Hyp_isPoint_17 rfl (by decide) (by simp [bI, ptL, *]) (rfl)
theorem g_Brk_find (G : gG) (M : gM) (b bk be bb : Nat) (t tc ts tn : Nat) (c s : Nat → Int32) (h hp hl : Nat) (hs : Int32) (fl : Nat → Int32) (hD : D4 b bk be bb) (t1 : gRd M t = some (.inr (3, [.ref tc, .ref ts, .int (nI tn)]))) (t2 : gRd M tc = some (aI G 120 c)) (t3 : gRd M ts = some (aI G 120 s)) (htn : tn ≤ 120) (hcs : tc ≠ ts) (hT : ∀ q, (q = t ∨ q = tc ∨ q = ts) → q ≠ b ∧ q ≠ bk ∧ q ≠ be ∧ q ≠ bb) (u1 : gRd M h = some (.inr (5, [.ref hp, .int hs, .ref hl]))) (u2 : gRd M hl = some (aI G 121 fl)) (hU : ∀ q, (q = h ∨ q = hl) → q ≠ b ∧ q ≠ bk ∧ q ≠ be ∧ q ≠ bb) : ∀ (r k : Nat) (S : bS), k + r = tn → S.1 ≤ 24 → EvF G 2 m_Brk_find (28, [(0, .ref b), (1, .ref t), (2, .ref h), (3, .int (nI k))], [], (gWr (gWr (gWr (gWr M b (.inr (6, [.ref bk, .ref be, .ref bb, .int (nI S.1)]))) bk (aI G 25 S.2.1)) be (aI G 25 S.2.2.1)) bb (aI G 25 S.2.2.2))) (some (.int (bI (bkF tn c (ptL fl) r k S).1))) (gWr (gWr (gWr (gWr M b (.inr (6, [.ref bk, .ref be, .ref bb, .int (nI (bkF tn c (ptL fl) r k S).2.1)]))) bk (aI G 25 ((bkF tn c (ptL fl) r k S).2.2.1))) be (aI G 25 ((bkF tn c (ptL fl) r k S).2.2.2.1))) bb (aI G 25 ((bkF tn c (ptL fl) r k S).2.2.2.2))) := by
  intro r
  induction r with
  | zero =>
    intro k S hk hn
    refine EvF.gop 29 (go_iload_n d_Brk_find_28 rfl 3 rfl) rfl ?_
    refine EvF.gop 30 (go_aload_n d_Brk_find_29 rfl 1 rfl) rfl ?_
    refine EvF.gop 33 (go_get f_Brk_25 d_Brk_find_30 ((gRd_n _ _ ((hT _ (Or.inl rfl)).2.2.2)).trans ((gRd_n _ _ ((hT _ (Or.inl rfl)).2.2.1)).trans ((gRd_n _ _ ((hT _ (Or.inl rfl)).2.1)).trans ((gRd_n _ _ ((hT _ (Or.inl rfl)).1)).trans (t1))))) rfl) rfl ?_
    refine EvF.gop 71 (go_icmp_ge_t 71 d_Brk_find_33 (by decide) (nI_le (by omega) (by omega))) rfl ?_
    refine EvF.gop 72 (go_aload_n d_Brk_find_71 rfl 1 rfl) rfl ?_
    refine EvF.gop 75 (go_get f_Brk_25 d_Brk_find_72 ((gRd_n _ _ ((hT _ (Or.inl rfl)).2.2.2)).trans ((gRd_n _ _ ((hT _ (Or.inl rfl)).2.2.1)).trans ((gRd_n _ _ ((hT _ (Or.inl rfl)).2.1)).trans ((gRd_n _ _ ((hT _ (Or.inl rfl)).1)).trans (t1))))) rfl) rfl ?_
    by_cases c1 : (nI tn) = 0
    · have c1x : tn = 0 := (nI_eq (a := tn) (b := 0) (by omega) (by decide)).mp c1
      refine EvF.gop 94 (go_if_eq_t 94 d_Brk_find_75 (by decide) (c1)) rfl ?_
      refine EvF.gop 95 (go_iconst (v := 1) d_Brk_find_94 (by decide)) rfl ?_
      refine EvF.gop 99 (go_goto 99 d_Brk_find_95 (by decide)) rfl ?_
      exact EvF.rz d_Brk_find_99 rfl (by decide) (by simp [bI, bkF, *]) (by simp [bkF, *])
    · have c1x : ¬ tn = 0 := fun q9 => c1 ((nI_eq (a := tn) (b := 0) (by omega) (by decide)).mpr q9)
      refine EvF.gop 78 (go_if_eq_f 94 d_Brk_find_75 (by decide) (c1)) rfl ?_
      refine EvF.gop 79 (go_aload_n d_Brk_find_78 rfl 0 rfl) rfl ?_
      refine EvF.gop 80 (go_iconst (v := 4) d_Brk_find_79 (by decide)) rfl ?_
      refine EvF.gop 81 (go_aload_n d_Brk_find_80 rfl 1 rfl) rfl ?_
      refine EvF.gop 84 (go_get f_Brk_25 d_Brk_find_81 ((gRd_n _ _ ((hT _ (Or.inl rfl)).2.2.2)).trans ((gRd_n _ _ ((hT _ (Or.inl rfl)).2.2.1)).trans ((gRd_n _ _ ((hT _ (Or.inl rfl)).2.1)).trans ((gRd_n _ _ ((hT _ (Or.inl rfl)).1)).trans (t1))))) rfl) rfl ?_
      refine EvF.gop 85 (go_aload_n d_Brk_find_84 rfl 1 rfl) rfl ?_
      refine EvF.gop 88 (go_get f_Brk_25 d_Brk_find_85 ((gRd_n _ _ ((hT _ (Or.inl rfl)).2.2.2)).trans ((gRd_n _ _ ((hT _ (Or.inl rfl)).2.2.1)).trans ((gRd_n _ _ ((hT _ (Or.inl rfl)).2.1)).trans ((gRd_n _ _ ((hT _ (Or.inl rfl)).1)).trans (t1))))) rfl) rfl ?_
      refine EvF.gop 91 (go_callV [.int 4, .int (nI tn), .int (nI tn)] [.int (bI (bA 4 (nI tn) (nI tn) S).1)] c0_Brk_add im_Brk_add se_Brk_add lk_Brk_34 d_Brk_find_88 rfl rfl ((gRd_n _ _ hD.2.2.1).trans ((gRd_n _ _ hD.2.1).trans ((gRd_n _ _ hD.1).trans (gRd_s _ _ _)))) (e_Brk_add G M b bk be bb S 4 (nI tn) (nI tn) hD hn) (by decide) rfl rfl (Nat.le_of_ble_eq_true rfl) rfl) rfl ?_
      by_cases c2 : (bI (bA 4 (nI tn) (nI tn) S).1) = 0
      · have c2x : (bA 4 (nI tn) (nI tn) S).1 = false := bI_0.mp c2
        refine EvF.gop 98 (go_if_eq_t 98 d_Brk_find_91 (by decide) (c2)) rfl ?_
        refine EvF.gop 99 (go_iconst (v := 0) d_Brk_find_98 (by decide)) rfl ?_
        exact EvF.rz d_Brk_find_99 rfl (by decide) (by simp [bI, bkF, *]) (by simp [bkF, *])
      · have c2x : (bA 4 (nI tn) (nI tn) S).1 = true := bI_n0.mp c2
        refine EvF.gop 94 (go_if_eq_f 98 d_Brk_find_91 (by decide) (c2)) rfl ?_
        refine EvF.gop 95 (go_iconst (v := 1) d_Brk_find_94 (by decide)) rfl ?_
        refine EvF.gop 99 (go_goto 99 d_Brk_find_95 (by decide)) rfl ?_
        exact EvF.rz d_Brk_find_99 rfl (by decide) (by simp [bI, bkF, *]) (by simp [bkF, *])
  | succ r ih =>
    intro k S hk hn
    refine EvF.gop 29 (go_iload_n d_Brk_find_28 rfl 3 rfl) rfl ?_
    refine EvF.gop 30 (go_aload_n d_Brk_find_29 rfl 1 rfl) rfl ?_
    refine EvF.gop 33 (go_get f_Brk_25 d_Brk_find_30 ((gRd_n _ _ ((hT _ (Or.inl rfl)).2.2.2)).trans ((gRd_n _ _ ((hT _ (Or.inl rfl)).2.2.1)).trans ((gRd_n _ _ ((hT _ (Or.inl rfl)).2.1)).trans ((gRd_n _ _ ((hT _ (Or.inl rfl)).1)).trans (t1))))) rfl) rfl ?_
    refine EvF.gop 36 (go_icmp_ge_f 71 d_Brk_find_33 (by decide) (nI_ge (by omega) (by omega))) rfl ?_
    refine EvF.gop 37 (go_aload_n d_Brk_find_36 rfl 2 rfl) rfl ?_
    refine EvF.gop 38 (go_iload_n d_Brk_find_37 rfl 3 rfl) rfl ?_
    refine EvF.gop 41 (go_callV [.int (nI k)] [.int (bI (ptL fl k))] c0_Hyp_isPoint im_Hyp_isPoint se_Hyp_isPoint lk_Brk_28 d_Brk_find_38 rfl rfl ((gRd_n _ _ ((hU _ (Or.inl rfl)).2.2.2)).trans ((gRd_n _ _ ((hU _ (Or.inl rfl)).2.2.1)).trans ((gRd_n _ _ ((hU _ (Or.inl rfl)).2.1)).trans ((gRd_n _ _ ((hU _ (Or.inl rfl)).1)).trans (u1))))) (e_Hyp_isPoint G _ h hp hl hs fl k ((gRd_n _ _ ((hU _ (Or.inl rfl)).2.2.2)).trans ((gRd_n _ _ ((hU _ (Or.inl rfl)).2.2.1)).trans ((gRd_n _ _ ((hU _ (Or.inl rfl)).2.1)).trans ((gRd_n _ _ ((hU _ (Or.inl rfl)).1)).trans (u1))))) ((gRd_n _ _ ((hU _ (Or.inr rfl)).2.2.2)).trans ((gRd_n _ _ ((hU _ (Or.inr rfl)).2.2.1)).trans ((gRd_n _ _ ((hU _ (Or.inr rfl)).2.1)).trans ((gRd_n _ _ ((hU _ (Or.inr rfl)).1)).trans (u2))))) (by omega)) (by decide) rfl rfl (Nat.le_of_ble_eq_true rfl) rfl) rfl ?_
    by_cases c1 : (bI (ptL fl k)) = 0
    · have c1x : (ptL fl k) = false := bI_0.mp c1
      refine EvF.gop 54 (go_if_eq_t 54 d_Brk_find_41 (by decide) (c1)) rfl ?_
      refine EvF.gop 55 (go_aload_n d_Brk_find_54 rfl 0 rfl) rfl ?_
      refine EvF.gop 56 (go_aload_n d_Brk_find_55 rfl 1 rfl) rfl ?_
      refine EvF.gop 57 (go_iload_n d_Brk_find_56 rfl 3 rfl) rfl ?_
      refine EvF.gop 60 (go_callV [.ref t, .int (nI k)] [.int (bI (bAt tn c k S).1)] c0_Brk_addAt im_Brk_addAt se_Brk_addAt lk_Brk_38 d_Brk_find_57 rfl rfl ((gRd_n _ _ hD.2.2.1).trans ((gRd_n _ _ hD.2.1).trans ((gRd_n _ _ hD.1).trans (gRd_s _ _ _)))) (e_Brk_addAt G M b bk be bb S t tc ts tn c s k hD hn t1 t2 t3 htn hcs hT (by omega)) (by decide) rfl rfl (Nat.le_of_ble_eq_true rfl) rfl) rfl ?_
      by_cases c2 : (bI (bAt tn c k S).1) = 0
      · have c2x : (bAt tn c k S).1 = false := bI_0.mp c2
        refine EvF.gop 63 (go_if_ne_f 65 d_Brk_find_60 (by decide) (c2)) rfl ?_
        refine EvF.gop 64 (go_iconst (v := 0) d_Brk_find_63 (by decide)) rfl ?_
        have e1 : bP (ptL fl) k S = (true, S) := by simp [bP, *]
        rw [show bkF tn c (ptL fl) (r + 1) k S = (false, (bAt tn c k S).2) from by rw [bkF, e1]; simp [*]]
        exact EvF.rz d_Brk_find_64 rfl (by decide) (rfl) (rfl)
      · have c2x : (bAt tn c k S).1 = true := bI_n0.mp c2
        refine EvF.gop 65 (go_if_ne_t 65 d_Brk_find_60 (by decide) (c2)) rfl ?_
        refine EvF.gop 68 (go_inc1 (n0 := 3) (x := k) [(3, .int (nI (k + 1))), (0, .ref b), (1, .ref t), (2, .ref h)] d_Brk_find_65 rfl (by decide) rfl) rfl ?_
        refine EvF.go (go_pick [1, 2, 3, 0] [(0, .ref b), (1, .ref t), (2, .ref h), (3, .int (nI (k + 1)))] rfl) ?_
        refine EvF.gop 28 (go_goto 28 d_Brk_find_68 (by decide)) rfl ?_
        have e1 : bP (ptL fl) k S = (true, S) := by simp [bP, *]
        rw [show bkF tn c (ptL fl) (r + 1) k S = bkF tn c (ptL fl) r (k + 1) (bAt tn c k S).2 from by rw [bkF, e1]; simp [*]]
        exact ih (k + 1) _ (by omega) (bAt_le hn)
    · have c1x : (ptL fl k) = true := bI_n0.mp c1
      refine EvF.gop 44 (go_if_eq_f 54 d_Brk_find_41 (by decide) (c1)) rfl ?_
      refine EvF.gop 45 (go_aload_n d_Brk_find_44 rfl 0 rfl) rfl ?_
      refine EvF.gop 46 (go_iconst (v := 2) d_Brk_find_45 (by decide)) rfl ?_
      refine EvF.gop 47 (go_iload_n d_Brk_find_46 rfl 3 rfl) rfl ?_
      refine EvF.gop 48 (go_iload_n d_Brk_find_47 rfl 3 rfl) rfl ?_
      refine EvF.gop 51 (go_callV [.int 2, .int (nI k), .int (nI k)] [.int (bI (bA 2 (nI k) (nI k) S).1)] c0_Brk_add im_Brk_add se_Brk_add lk_Brk_34 d_Brk_find_48 rfl rfl ((gRd_n _ _ hD.2.2.1).trans ((gRd_n _ _ hD.2.1).trans ((gRd_n _ _ hD.1).trans (gRd_s _ _ _)))) (e_Brk_add G M b bk be bb S 2 (nI k) (nI k) hD hn) (by decide) rfl rfl (Nat.le_of_ble_eq_true rfl) rfl) rfl ?_
      by_cases c3 : (bI (bA 2 (nI k) (nI k) S).1) = 0
      · have c3x : (bA 2 (nI k) (nI k) S).1 = false := bI_0.mp c3
        refine EvF.gop 63 (go_if_eq_t 63 d_Brk_find_51 (by decide) (c3)) rfl ?_
        refine EvF.gop 64 (go_iconst (v := 0) d_Brk_find_63 (by decide)) rfl ?_
        have e1 : bP (ptL fl) k S = (bA 2 (nI k) (nI k) S) := by simp [bP, *]
        rw [show bkF tn c (ptL fl) (r + 1) k S = (false, (bA 2 (nI k) (nI k) S).2) from by rw [bkF, e1]; simp [*]]
        exact EvF.rz d_Brk_find_64 rfl (by decide) (rfl) (rfl)
      · have c3x : (bA 2 (nI k) (nI k) S).1 = true := bI_n0.mp c3
        refine EvF.gop 54 (go_if_eq_f 63 d_Brk_find_51 (by decide) (c3)) rfl ?_
        refine EvF.gop 55 (go_aload_n d_Brk_find_54 rfl 0 rfl) rfl ?_
        refine EvF.gop 56 (go_aload_n d_Brk_find_55 rfl 1 rfl) rfl ?_
        refine EvF.gop 57 (go_iload_n d_Brk_find_56 rfl 3 rfl) rfl ?_
        refine EvF.gop 60 (go_callV [.ref t, .int (nI k)] [.int (bI (bAt tn c k ((bA 2 (nI k) (nI k) S).2)).1)] c0_Brk_addAt im_Brk_addAt se_Brk_addAt lk_Brk_38 d_Brk_find_57 rfl rfl ((gRd_n _ _ hD.2.2.1).trans ((gRd_n _ _ hD.2.1).trans ((gRd_n _ _ hD.1).trans (gRd_s _ _ _)))) (e_Brk_addAt G M b bk be bb ((bA 2 (nI k) (nI k) S).2) t tc ts tn c s k hD (bA_le hn) t1 t2 t3 htn hcs hT (by omega)) (by decide) rfl rfl (Nat.le_of_ble_eq_true rfl) rfl) rfl ?_
        by_cases c4 : (bI (bAt tn c k ((bA 2 (nI k) (nI k) S).2)).1) = 0
        · have c4x : (bAt tn c k ((bA 2 (nI k) (nI k) S).2)).1 = false := bI_0.mp c4
          refine EvF.gop 63 (go_if_ne_f 65 d_Brk_find_60 (by decide) (c4)) rfl ?_
          refine EvF.gop 64 (go_iconst (v := 0) d_Brk_find_63 (by decide)) rfl ?_
          have e1 : bP (ptL fl) k S = (bA 2 (nI k) (nI k) S) := by simp [bP, *]
          rw [show bkF tn c (ptL fl) (r + 1) k S = (false, (bAt tn c k ((bA 2 (nI k) (nI k) S).2)).2) from by rw [bkF, e1]; simp [*]]
          exact EvF.rz d_Brk_find_64 rfl (by decide) (rfl) (rfl)
        · have c4x : (bAt tn c k ((bA 2 (nI k) (nI k) S).2)).1 = true := bI_n0.mp c4
          refine EvF.gop 65 (go_if_ne_t 65 d_Brk_find_60 (by decide) (c4)) rfl ?_
          refine EvF.gop 68 (go_inc1 (n0 := 3) (x := k) [(3, .int (nI (k + 1))), (0, .ref b), (1, .ref t), (2, .ref h)] d_Brk_find_65 rfl (by decide) rfl) rfl ?_
          refine EvF.go (go_pick [1, 2, 3, 0] [(0, .ref b), (1, .ref t), (2, .ref h), (3, .int (nI (k + 1)))] rfl) ?_
          refine EvF.gop 28 (go_goto 28 d_Brk_find_68 (by decide)) rfl ?_
          have e1 : bP (ptL fl) k S = (bA 2 (nI k) (nI k) S) := by simp [bP, *]
          rw [show bkF tn c (ptL fl) (r + 1) k S = bkF tn c (ptL fl) r (k + 1) (bAt tn c k ((bA 2 (nI k) (nI k) S).2)).2 from by rw [bkF, e1]; simp [*]]
          exact ih (k + 1) _ (by omega) (bAt_le (bA_le hn))
theorem e_Brk_find (G : gG) (M : gM) (b bk be bb : Nat) (t tc ts tn : Nat) (c s : Nat → Int32) (h hp hl : Nat) (hs : Int32) (fl : Nat → Int32) (x : Int32) (K E B : Nat → Int32) (hD : D4 b bk be bb) (t1 : gRd M t = some (.inr (3, [.ref tc, .ref ts, .int (nI tn)]))) (t2 : gRd M tc = some (aI G 120 c)) (t3 : gRd M ts = some (aI G 120 s)) (htn : tn ≤ 120) (hcs : tc ≠ ts) (hT : ∀ q, (q = t ∨ q = tc ∨ q = ts) → q ≠ b ∧ q ≠ bk ∧ q ≠ be ∧ q ≠ bb) (u1 : gRd M h = some (.inr (5, [.ref hp, .int hs, .ref hl]))) (u2 : gRd M hl = some (aI G 121 fl)) (hU : ∀ q, (q = h ∨ q = hl) → q ≠ b ∧ q ≠ bk ∧ q ≠ be ∧ q ≠ bb) (b1 : gRd M b = some (.inr (6, [.ref bk, .ref be, .ref bb, .int x]))) (b2 : gRd M bk = some (aI G 25 K)) (b3 : gRd M be = some (aI G 25 E)) (b4 : gRd M bb = some (aI G 25 B)) : Ev G 2 m_Brk_find [.ref b, .ref t, .ref h] M (some (.int (bI (bkF tn c (ptL fl) tn 0 (0, upd K 0 (-1), upd E 0 0, upd B 0 0)).1))) (mB G M b bk be bb (bkF tn c (ptL fl) tn 0 (0, upd K 0 (-1), upd E 0 0, upd B 0 0)).2) := by
  refine Ev.of (Nat.le_of_ble_eq_true rfl) ?_
  show EvF G 2 m_Brk_find (0, [(0, .ref b), (1, .ref t), (2, .ref h)], [], M) _ _
  refine EvF.gop 1 (go_aload_n d_Brk_find_0 rfl 0 rfl) rfl ?_
  refine EvF.gop 2 (go_iconst (v := nI 0) d_Brk_find_1 (rfl)) rfl ?_
  refine EvF.gop 5 (go_put [.ref bk, .ref be, .ref bb, .int (nI 0)] f_Brk_21 ft_Brk_3 d_Brk_find_2 (b1) (rfl) (rfl) (Nat.le_of_ble_eq_true rfl) rfl) rfl ?_
  refine EvF.gop 6 (go_aload_n d_Brk_find_5 rfl 0 rfl) rfl ?_
  refine EvF.gop 9 (go_get f_Brk_9 d_Brk_find_6 (gRd_s _ _ _) rfl) rfl ?_
  refine EvF.gop 10 (go_iconst (v := nI 0) d_Brk_find_9 (rfl)) rfl ?_
  refine EvF.gop 11 (go_iconst (v := (-1)) d_Brk_find_10 (by decide)) rfl ?_
  refine EvF.gop 12 (go_iast (j := 0) d_Brk_find_11 ((gRd_n _ _ (Ne.symm hD.1)).trans (b2)) (rfl) (by omega) (by omega)) rfl ?_
  refine EvF.gop 13 (go_aload_n d_Brk_find_12 rfl 0 rfl) rfl ?_
  refine EvF.gop 16 (go_get f_Brk_15 d_Brk_find_13 ((gRd_n _ _ hD.1).trans (gRd_s _ _ _)) rfl) rfl ?_
  refine EvF.gop 17 (go_iconst (v := nI 0) d_Brk_find_16 (rfl)) rfl ?_
  refine EvF.gop 18 (go_iconst (v := 0) d_Brk_find_17 (by decide)) rfl ?_
  refine EvF.gop 19 (go_iast (j := 0) d_Brk_find_18 ((gRd_n _ _ (Ne.symm hD.2.2.2.1)).trans ((gRd_n _ _ (Ne.symm hD.2.1)).trans (b3))) (rfl) (by omega) (by omega)) rfl ?_
  refine EvF.gop 20 (go_aload_n d_Brk_find_19 rfl 0 rfl) rfl ?_
  refine EvF.gop 23 (go_get f_Brk_18 d_Brk_find_20 ((gRd_n _ _ hD.2.1).trans ((gRd_n _ _ hD.1).trans (gRd_s _ _ _))) rfl) rfl ?_
  refine EvF.gop 24 (go_iconst (v := nI 0) d_Brk_find_23 (rfl)) rfl ?_
  refine EvF.gop 25 (go_iconst (v := 0) d_Brk_find_24 (by decide)) rfl ?_
  refine EvF.gop 26 (go_iast (j := 0) d_Brk_find_25 ((gRd_n _ _ (Ne.symm hD.2.2.2.2.2)).trans ((gRd_n _ _ (Ne.symm hD.2.2.2.2.1)).trans ((gRd_n _ _ (Ne.symm hD.2.2.1)).trans (b4)))) (rfl) (by omega) (by omega)) rfl ?_
  refine EvF.gop 27 (go_iconst (v := nI 0) d_Brk_find_26 (rfl)) rfl ?_
  refine EvF.gop 28 (go_istore_n [(3, .int (nI 0)), (0, .ref b), (1, .ref t), (2, .ref h)] d_Brk_find_27 rfl (by decide) rfl) rfl ?_
  refine EvF.go (go_pick [1, 2, 3, 0] [(0, .ref b), (1, .ref t), (2, .ref h), (3, .int (nI 0))] rfl) ?_
  exact g_Brk_find G M b bk be bb t tc ts tn c s h hp hl hs fl hD t1 t2 t3 htn hcs hT u1 u2 hU tn 0 (0, upd K 0 (-1), upd E 0 0, upd B 0 0) (by omega) (Nat.zero_le _)
