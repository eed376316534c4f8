def bAm (tn : Nat) (c : Nat → Int32) (k : Nat) (S : bS) : Bool × bS :=
  if c k = 32 then bA 0 (nI k) (nI (k + 1)) S else if c k = 124 then bA 3 (nI k) (nI (k + 1)) S
  else if c k = 45 ∧ k + 1 < tn then bA 1 (nI (k + 1)) (nI (k + 1)) S else (true, S)
def ptM (pt : Nat → Int32) (k : Nat) : Bool := decide (¬ pt k = 0)
def mbF (tn : Nat) (c : Nat → Int32) (pt : Nat → Bool) : Nat → Nat → bS → Bool × bS
  | 0, _, S => bA 4 (nI tn) (nI tn) S
  | r + 1, k, S => if (bP pt k S).1 = true then (if (bAm tn c k (bP pt k S).2).1 = true then mbF tn c pt r (k + 1) (bAm tn c k (bP pt k S).2).2 else (false, (bAm tn c k (bP pt k S).2).2)) else (false, (bP pt k S).2)
theorem e_Mod_addB (G : gG) (M : gM) (A : Nat) (a : Nat → Nat) (s : Nat → Int32) (c : Int64) (S : bS) (x y z : Int32) (hI : InjA A a) (hS : S.1 ≤ 24) : Ev G 0 m_Mod_addBreak [.ref A, .int x, .int y, .int z] (gWr (gWr (gWr (gWr M A (.inr (11, oMod a (upd s 28 (nI S.1)) c))) (a 25) (aI G 26 S.2.1)) (a 26) (aI G 26 S.2.2.1)) (a 27) (aI G 26 S.2.2.2)) (some (.int (bI (bA x y z S).1))) (gWr (gWr (gWr (gWr M A (.inr (11, oMod a (upd s 28 (nI ((bA x y z S).2).1)) c))) (a 25) (aI G 26 (((bA x y z S).2).2.1))) (a 26) (aI G 26 (((bA x y z S).2).2.2.1))) (a 27) (aI G 26 (((bA x y z S).2).2.2.2))) := by
  by_cases h : S.1 = 24
  · rw [show bA x y z S = (false, S) from if_pos h]
    exact e_Mod_addBreakF G _ A a (upd s 28 (nI S.1)) c _ _ _ x y z hI ((gRd_n _ _ (hI.2 27)).trans ((gRd_n _ _ (hI.2 26)).trans ((gRd_n _ _ (hI.2 25)).trans (gRd_s _ _ _)))) ((gRd_n _ _ (hI.n (i := 25) (j := 27) (by decide))).trans ((gRd_n _ _ (hI.n (i := 25) (j := 26) (by decide))).trans (gRd_s _ _ _))) ((gRd_n _ _ (hI.n (i := 26) (j := 27) (by decide))).trans (gRd_s _ _ _)) (gRd_s _ _ _) (by show nI S.1 = 24; rw [h]; rfl)
  · rw [show bA x y z S = (true, (S.1 + 1, upd S.2.1 (S.1 + 1) x, upd S.2.2.1 (S.1 + 1) y, upd S.2.2.2 (S.1 + 1) z)) from if_neg h]
    have hm : gWr (gWr (gWr (gWr (gWr (gWr (gWr (gWr M A (.inr (11, oMod a (upd s 28 (nI S.1)) c))) (a 25) (aI G 26 S.2.1)) (a 26) (aI G 26 S.2.2.1)) (a 27) (aI G 26 S.2.2.2)) A (.inr (11, oMod a (upd s 28 (nI (S.1 + 1))) c))) (a 25) (aI G 26 (upd S.2.1 (S.1 + 1) x))) (a 26) (aI G 26 (upd S.2.2.1 (S.1 + 1) y))) (a 27) (aI G 26 (upd S.2.2.2 (S.1 + 1) z)) = (gWr (gWr (gWr (gWr M A (.inr (11, oMod a (upd s 28 (nI (S.1 + 1))) c))) (a 25) (aI G 26 (upd S.2.1 (S.1 + 1) x))) (a 26) (aI G 26 (upd S.2.2.1 (S.1 + 1) y))) (a 27) (aI G 26 (upd S.2.2.2 (S.1 + 1) z))) := ((congrArg (fun mZ => gWr mZ (a 27) (aI G 26 (upd S.2.2.2 (S.1 + 1) z))) ((congrArg (fun mZ => gWr mZ (a 26) (aI G 26 (upd S.2.2.1 (S.1 + 1) y))) ((congrArg (fun mZ => gWr mZ (a 25) (aI G 26 (upd S.2.1 (S.1 + 1) x))) ((gWr_cm (gWr (gWr (gWr M A (.inr (11, oMod a (upd s 28 (nI S.1)) c))) (a 25) (aI G 26 S.2.1)) (a 26) (aI G 26 S.2.2.1)) (aI G 26 S.2.2.2) (.inr (11, oMod a (upd s 28 (nI (S.1 + 1))) c)) (Ne.symm (hI.2 27))).trans (congrArg (fun mZ => gWr mZ (a 27) (aI G 26 S.2.2.2)) ((gWr_cm (gWr (gWr M A (.inr (11, oMod a (upd s 28 (nI S.1)) c))) (a 25) (aI G 26 S.2.1)) (aI G 26 S.2.2.1) (.inr (11, oMod a (upd s 28 (nI (S.1 + 1))) c)) (Ne.symm (hI.2 26))).trans (congrArg (fun mZ => gWr mZ (a 26) (aI G 26 S.2.2.1)) ((gWr_cm (gWr M A (.inr (11, oMod a (upd s 28 (nI S.1)) c))) (aI G 26 S.2.1) (.inr (11, oMod a (upd s 28 (nI (S.1 + 1))) c)) (Ne.symm (hI.2 25))).trans (congrArg (fun mZ => gWr mZ (a 25) (aI G 26 S.2.1)) (gWr_wr M A (.inr (11, oMod a (upd s 28 (nI S.1)) c)) (.inr (11, oMod a (upd s 28 (nI (S.1 + 1))) c)))))))))).trans ((gWr_cm (gWr (gWr (gWr M A (.inr (11, oMod a (upd s 28 (nI (S.1 + 1))) c))) (a 25) (aI G 26 S.2.1)) (a 26) (aI G 26 S.2.2.1)) (aI G 26 S.2.2.2) (aI G 26 (upd S.2.1 (S.1 + 1) x)) (hI.n (i := 27) (j := 25) (by decide))).trans (congrArg (fun mZ => gWr mZ (a 27) (aI G 26 S.2.2.2)) ((gWr_cm (gWr (gWr M A (.inr (11, oMod a (upd s 28 (nI (S.1 + 1))) c))) (a 25) (aI G 26 S.2.1)) (aI G 26 S.2.2.1) (aI G 26 (upd S.2.1 (S.1 + 1) x)) (hI.n (i := 26) (j := 25) (by decide))).trans (congrArg (fun mZ => gWr mZ (a 26) (aI G 26 S.2.2.1)) (gWr_wr (gWr M A (.inr (11, oMod a (upd s 28 (nI (S.1 + 1))) c))) (a 25) (aI G 26 S.2.1) (aI G 26 (upd S.2.1 (S.1 + 1) x))))))))).trans ((gWr_cm (gWr (gWr (gWr M A (.inr (11, oMod a (upd s 28 (nI (S.1 + 1))) c))) (a 25) (aI G 26 (upd S.2.1 (S.1 + 1) x))) (a 26) (aI G 26 S.2.2.1)) (aI G 26 S.2.2.2) (aI G 26 (upd S.2.2.1 (S.1 + 1) y)) (hI.n (i := 27) (j := 26) (by decide))).trans (congrArg (fun mZ => gWr mZ (a 27) (aI G 26 S.2.2.2)) (gWr_wr (gWr (gWr M A (.inr (11, oMod a (upd s 28 (nI (S.1 + 1))) c))) (a 25) (aI G 26 (upd S.2.1 (S.1 + 1) x))) (a 26) (aI G 26 S.2.2.1) (aI G 26 (upd S.2.2.1 (S.1 + 1) y))))))).trans (gWr_wr (gWr (gWr (gWr M A (.inr (11, oMod a (upd s 28 (nI (S.1 + 1))) c))) (a 25) (aI G 26 (upd S.2.1 (S.1 + 1) x))) (a 26) (aI G 26 (upd S.2.2.1 (S.1 + 1) y))) (a 27) (aI G 26 S.2.2.2) (aI G 26 (upd S.2.2.2 (S.1 + 1) z))))
    have h9 := e_Mod_addBreak G (gWr (gWr (gWr (gWr M A (.inr (11, oMod a (upd s 28 (nI S.1)) c))) (a 25) (aI G 26 S.2.1)) (a 26) (aI G 26 S.2.2.1)) (a 27) (aI G 26 S.2.2.2)) A a (upd s 28 (nI S.1)) c _ _ _ S.1 x y z hI ((gRd_n _ _ (hI.2 27)).trans ((gRd_n _ _ (hI.2 26)).trans ((gRd_n _ _ (hI.2 25)).trans (gRd_s _ _ _)))) ((gRd_n _ _ (hI.n (i := 25) (j := 27) (by decide))).trans ((gRd_n _ _ (hI.n (i := 25) (j := 26) (by decide))).trans (gRd_s _ _ _))) ((gRd_n _ _ (hI.n (i := 26) (j := 27) (by decide))).trans (gRd_s _ _ _)) (gRd_s _ _ _) rfl (by omega)
    exact hm ▸ h9
theorem bAm_le {tn : Nat} {c : Nat → Int32} {k : Nat} {S : bS} (h : S.1 ≤ 24) : (bAm tn c k S).2.1 ≤ 24 := by
  unfold bAm
  split
  · exact bA_le h
  · split
    · exact bA_le h
    · split
      · exact bA_le h
      · exact h
theorem bP_le' {pt : Nat → Bool} {k : Nat} {S : bS} (h : S.1 ≤ 24) : (bP pt k S).2.1 ≤ 24 := by
  unfold bP
  split
  · exact bA_le h
  · exact h
theorem g_Mod_findBreaks (G : gG) (M : gM) (A : Nat) (a : Nat → Nat) (s : Nat → Int32) (c : Int64) (ci pt : Nat → Int32) (n : Nat) (hI : InjA A a) (m17 : gRd M (a 17) = some (aI G 120 ci)) (m24 : gRd M (a 24) = some (aZ G 121 pt)) (h22 : s 22 = nI n) (hn : n ≤ 120) : ∀ (r k : Nat) (S : bS), k + r = n → S.1 ≤ 24 → EvF G 1 m_Mod_findBreaks (21, [(0, .ref A), (1, .int (nI k))], [], (gWr (gWr (gWr (gWr M A (.inr (11, oMod a (upd s 28 (nI S.1)) c))) (a 25) (aI G 26 S.2.1)) (a 26) (aI G 26 S.2.2.1)) (a 27) (aI G 26 S.2.2.2))) (some (.int (bI (mbF n ci (ptM pt) r k S).1))) (gWr (gWr (gWr (gWr M A (.inr (11, oMod a (upd s 28 (nI ((mbF n ci (ptM pt) r k S).2).1)) c))) (a 25) (aI G 26 (((mbF n ci (ptM pt) r k S).2).2.1))) (a 26) (aI G 26 (((mbF n ci (ptM pt) r k S).2).2.2.1))) (a 27) (aI G 26 (((mbF n ci (ptM pt) r k S).2).2.2.2))) := by
  intro r
  induction r with
  | zero =>
    intro k S hk hS
    refine EvF.gop 22 (go_iload_n d_Mod_findBreaks_21 rfl 1 rfl) rfl ?_
    refine EvF.gop 23 (go_aload_n d_Mod_findBreaks_22 rfl 0 rfl) rfl ?_
    refine EvF.gop 26 (go_get f_Mod_142 d_Mod_findBreaks_23 ((gRd_n _ _ (hI.2 27)).trans ((gRd_n _ _ (hI.2 26)).trans ((gRd_n _ _ (hI.2 25)).trans (gRd_s _ _ _)))) rfl) rfl ?_
    refine EvF.gop 143 (go_icmp_ge_t 143 d_Mod_findBreaks_26 (by decide) (show s 22 ≤ nI k from by rw [h22]; exact nI_le (by omega) (by omega))) rfl ?_
    refine EvF.gop 144 (go_aload_n d_Mod_findBreaks_143 rfl 0 rfl) rfl ?_
    refine EvF.gop 145 (go_iconst (v := 4) d_Mod_findBreaks_144 (by decide)) rfl ?_
    refine EvF.gop 146 (go_aload_n d_Mod_findBreaks_145 rfl 0 rfl) rfl ?_
    skip
    refine EvF.gop 149 (go_get f_Mod_142 d_Mod_findBreaks_146 ((gRd_n _ _ (hI.2 27)).trans ((gRd_n _ _ (hI.2 26)).trans ((gRd_n _ _ (hI.2 25)).trans (gRd_s _ _ _)))) rfl) rfl ?_
    refine EvF.go (go_v (y := nI n) (show s 22 = nI n from h22)) ?_
    refine EvF.gop 150 (go_aload_n d_Mod_findBreaks_149 rfl 0 rfl) rfl ?_
    refine EvF.gop 153 (go_get f_Mod_142 d_Mod_findBreaks_150 ((gRd_n _ _ (hI.2 27)).trans ((gRd_n _ _ (hI.2 26)).trans ((gRd_n _ _ (hI.2 25)).trans (gRd_s _ _ _)))) rfl) rfl ?_
    refine EvF.go (go_v (y := nI n) (show s 22 = nI n from h22)) ?_
    refine EvF.gop 156 (go_callV [.int 4, .int (nI n), .int (nI n)] [.int (bI (bA 4 (nI n) (nI n) S).1)] c0_Mod_addBreak im_Mod_addBreak se_Mod_addBreak lk_Mod_166 d_Mod_findBreaks_153 rfl rfl ((gRd_n _ _ (hI.2 27)).trans ((gRd_n _ _ (hI.2 26)).trans ((gRd_n _ _ (hI.2 25)).trans (gRd_s _ _ _)))) (e_Mod_addB G M A a s c S 4 (nI n) (nI n) hI (by assumption)) (by decide) rfl rfl (Nat.le_of_ble_eq_true rfl) rfl) rfl ?_
    have hS156 : (bA 4 (nI n) (nI n) S).2.1 ≤ 24 := bA_le (by assumption)
    exact EvF.rz d_Mod_findBreaks_156 rfl (bI_01 _) (rfl) (rfl)
  | succ r ih =>
    intro k S hk hS
    refine EvF.gop 22 (go_iload_n d_Mod_findBreaks_21 rfl 1 rfl) rfl ?_
    refine EvF.gop 23 (go_aload_n d_Mod_findBreaks_22 rfl 0 rfl) rfl ?_
    refine EvF.gop 26 (go_get f_Mod_142 d_Mod_findBreaks_23 ((gRd_n _ _ (hI.2 27)).trans ((gRd_n _ _ (hI.2 26)).trans ((gRd_n _ _ (hI.2 25)).trans (gRd_s _ _ _)))) rfl) rfl ?_
    refine EvF.gop 29 (go_icmp_ge_f 143 d_Mod_findBreaks_26 (by decide) (show ¬ s 22 ≤ nI k from by rw [h22]; exact nI_ge (by omega) (by omega))) rfl ?_
    refine EvF.gop 30 (go_aload_n d_Mod_findBreaks_29 rfl 0 rfl) rfl ?_
    refine EvF.gop 33 (go_get f_Mod_61 d_Mod_findBreaks_30 ((gRd_n _ _ (hI.2 27)).trans ((gRd_n _ _ (hI.2 26)).trans ((gRd_n _ _ (hI.2 25)).trans (gRd_s _ _ _)))) rfl) rfl ?_
    refine EvF.gop 34 (go_iload_n d_Mod_findBreaks_33 rfl 1 rfl) rfl ?_
    refine EvF.gop 35 (go_zald (j := k) d_Mod_findBreaks_34 ((gRd_n _ _ (hI.n (i := 24) (j := 27) (by decide))).trans ((gRd_n _ _ (hI.n (i := 24) (j := 26) (by decide))).trans ((gRd_n _ _ (hI.n (i := 24) (j := 25) (by decide))).trans ((gRd_n _ _ (Ne.symm (hI.2 24))).trans (m24))))) (rfl) (by omega) (by omega)) rfl ?_
    by_cases c1 : (pt k) = 0
    · refine EvF.gop 50 (go_if_eq_t 50 d_Mod_findBreaks_35 (by decide) (c1)) rfl ?_
      refine EvF.gop 51 (go_aload_n d_Mod_findBreaks_50 rfl 0 rfl) rfl ?_
      refine EvF.gop 54 (go_get f_Mod_46 d_Mod_findBreaks_51 ((gRd_n _ _ (hI.2 27)).trans ((gRd_n _ _ (hI.2 26)).trans ((gRd_n _ _ (hI.2 25)).trans (gRd_s _ _ _)))) rfl) rfl ?_
      refine EvF.gop 55 (go_iload_n d_Mod_findBreaks_54 rfl 1 rfl) rfl ?_
      refine EvF.gop 56 (go_iald (j := k) d_Mod_findBreaks_55 ((gRd_n _ _ (hI.n (i := 17) (j := 27) (by decide))).trans ((gRd_n _ _ (hI.n (i := 17) (j := 26) (by decide))).trans ((gRd_n _ _ (hI.n (i := 17) (j := 25) (by decide))).trans ((gRd_n _ _ (Ne.symm (hI.2 17))).trans (m17))))) (rfl) (by omega) (by omega)) rfl ?_
      refine EvF.gop 58 (go_bipush (v := 32) d_Mod_findBreaks_56 (by decide)) rfl ?_
      by_cases c2 : (ci k) = 32
      · refine EvF.gop 61 (go_icmp_ne_f 75 d_Mod_findBreaks_58 (by decide) (c2)) rfl ?_
        refine EvF.gop 62 (go_aload_n d_Mod_findBreaks_61 rfl 0 rfl) rfl ?_
        refine EvF.gop 63 (go_iconst (v := 0) d_Mod_findBreaks_62 (by decide)) rfl ?_
        refine EvF.gop 64 (go_iload_n d_Mod_findBreaks_63 rfl 1 rfl) rfl ?_
        refine EvF.gop 65 (go_iload_n d_Mod_findBreaks_64 rfl 1 rfl) rfl ?_
        refine EvF.gop 66 (go_iconst (v := 1) d_Mod_findBreaks_65 (by decide)) rfl ?_
        refine EvF.gop 67 (go_iadd d_Mod_findBreaks_66) rfl ?_
        refine EvF.go (go_v (y := nI (k + 1)) (nI_add k 1)) ?_
        refine EvF.gop 70 (go_callV [.int 0, .int (nI k), .int (nI (k + 1))] [.int (bI (bA 0 (nI k) (nI (k + 1)) S).1)] c0_Mod_addBreak im_Mod_addBreak se_Mod_addBreak lk_Mod_166 d_Mod_findBreaks_67 rfl rfl ((gRd_n _ _ (hI.2 27)).trans ((gRd_n _ _ (hI.2 26)).trans ((gRd_n _ _ (hI.2 25)).trans (gRd_s _ _ _)))) (e_Mod_addB G M A a s c S 0 (nI k) (nI (k + 1)) hI (by assumption)) (by decide) rfl rfl (Nat.le_of_ble_eq_true rfl) rfl) rfl ?_
        have hS70 : (bA 0 (nI k) (nI (k + 1)) S).2.1 ≤ 24 := bA_le (by assumption)
        by_cases c3 : (bI (bA 0 (nI k) (nI (k + 1)) S).1) = 0
        · have c3x : (bA 0 (nI k) (nI (k + 1)) S).1 = false := bI_0.mp c3
          refine EvF.gop 73 (go_if_ne_f 75 d_Mod_findBreaks_70 (by decide) (c3)) rfl ?_
          refine EvF.gop 74 (go_iconst (v := 0) d_Mod_findBreaks_73 (by decide)) rfl ?_
          have eX : (mbF n ci (ptM pt) (r + 1) k S) = (if (bP (ptM pt) k S).1 = true then (if (bAm n ci k (bP (ptM pt) k S).2).1 = true then mbF n ci (ptM pt) r (k + 1) (bAm n ci k (bP (ptM pt) k S).2).2 else (false, (bAm n ci k (bP (ptM pt) k S).2).2)) else (false, (bP (ptM pt) k S).2)) := rfl
          have e1 : bP (ptM pt) k S = (true, S) := if_neg (by simp [ptM, *])
          have e2 : bAm n ci k S = bA 0 (nI k) (nI (k + 1)) S := if_pos (by assumption)
          rw [show (mbF n ci (ptM pt) (r + 1) k S) = (false, (bA 0 (nI k) (nI (k + 1)) S).2) from by rw [eX, e1]; refine (if_pos rfl).trans ?_; rw [e2]; exact if_neg (by rw [‹(bA 0 (nI k) (nI (k + 1)) S).1 = false›]; decide)]
          exact EvF.rz d_Mod_findBreaks_74 rfl (by decide) (rfl) (rfl)
        · have c3x : (bA 0 (nI k) (nI (k + 1)) S).1 = true := bI_n0.mp c3
          refine EvF.gop 75 (go_if_ne_t 75 d_Mod_findBreaks_70 (by decide) (c3)) rfl ?_
          refine EvF.gop 76 (go_aload_n d_Mod_findBreaks_75 rfl 0 rfl) rfl ?_
          refine EvF.gop 79 (go_get f_Mod_46 d_Mod_findBreaks_76 ((gRd_n _ _ (hI.2 27)).trans ((gRd_n _ _ (hI.2 26)).trans ((gRd_n _ _ (hI.2 25)).trans (gRd_s _ _ _)))) rfl) rfl ?_
          refine EvF.gop 80 (go_iload_n d_Mod_findBreaks_79 rfl 1 rfl) rfl ?_
          refine EvF.gop 81 (go_iald (j := k) d_Mod_findBreaks_80 ((gRd_n _ _ (hI.n (i := 17) (j := 27) (by decide))).trans ((gRd_n _ _ (hI.n (i := 17) (j := 26) (by decide))).trans ((gRd_n _ _ (hI.n (i := 17) (j := 25) (by decide))).trans ((gRd_n _ _ (Ne.symm (hI.2 17))).trans (m17))))) (rfl) (by omega) (by omega)) rfl ?_
          refine EvF.gop 83 (go_bipush (v := 124) d_Mod_findBreaks_81 (by decide)) rfl ?_
          refine EvF.gop 100 (go_icmp_ne_t 100 d_Mod_findBreaks_83 (by decide) (show ¬ (ci k) = 124 from by rw [c2]; decide)) rfl ?_
          refine EvF.gop 101 (go_aload_n d_Mod_findBreaks_100 rfl 0 rfl) rfl ?_
          refine EvF.gop 104 (go_get f_Mod_46 d_Mod_findBreaks_101 ((gRd_n _ _ (hI.2 27)).trans ((gRd_n _ _ (hI.2 26)).trans ((gRd_n _ _ (hI.2 25)).trans (gRd_s _ _ _)))) rfl) rfl ?_
          refine EvF.gop 105 (go_iload_n d_Mod_findBreaks_104 rfl 1 rfl) rfl ?_
          refine EvF.gop 106 (go_iald (j := k) d_Mod_findBreaks_105 ((gRd_n _ _ (hI.n (i := 17) (j := 27) (by decide))).trans ((gRd_n _ _ (hI.n (i := 17) (j := 26) (by decide))).trans ((gRd_n _ _ (hI.n (i := 17) (j := 25) (by decide))).trans ((gRd_n _ _ (Ne.symm (hI.2 17))).trans (m17))))) (rfl) (by omega) (by omega)) rfl ?_
          refine EvF.gop 108 (go_bipush (v := 45) d_Mod_findBreaks_106 (by decide)) rfl ?_
          refine EvF.gop 137 (go_icmp_ne_t 137 d_Mod_findBreaks_108 (by decide) (show ¬ (ci k) = 45 from by rw [c2]; decide)) rfl ?_
          refine EvF.gop 140 (go_inc1 (n0 := 1) (x := k) [(1, .int (nI (k + 1))), (0, .ref A)] d_Mod_findBreaks_137 rfl (by decide) rfl) rfl ?_
          refine EvF.go (go_pick [1, 0] [(0, .ref A), (1, .int (nI (k + 1)))] rfl) ?_
          refine EvF.gop 21 (go_goto 21 d_Mod_findBreaks_140 (by decide)) rfl ?_
          have eX : (mbF n ci (ptM pt) (r + 1) k S) = (if (bP (ptM pt) k S).1 = true then (if (bAm n ci k (bP (ptM pt) k S).2).1 = true then mbF n ci (ptM pt) r (k + 1) (bAm n ci k (bP (ptM pt) k S).2).2 else (false, (bAm n ci k (bP (ptM pt) k S).2).2)) else (false, (bP (ptM pt) k S).2)) := rfl
          have e1 : bP (ptM pt) k S = (true, S) := if_neg (by simp [ptM, *])
          have e2 : bAm n ci k S = bA 0 (nI k) (nI (k + 1)) S := if_pos (by assumption)
          rw [show (mbF n ci (ptM pt) (r + 1) k S) = (mbF n ci (ptM pt) r (k + 1) ((bA 0 (nI k) (nI (k + 1)) S).2)) from by rw [eX, e1]; refine (if_pos rfl).trans ?_; rw [e2]; exact if_pos (by first | rfl | assumption)]
          exact ih (k + 1) _ (by omega) (by assumption)
      · refine EvF.gop 75 (go_icmp_ne_t 75 d_Mod_findBreaks_58 (by decide) (c2)) rfl ?_
        refine EvF.gop 76 (go_aload_n d_Mod_findBreaks_75 rfl 0 rfl) rfl ?_
        refine EvF.gop 79 (go_get f_Mod_46 d_Mod_findBreaks_76 ((gRd_n _ _ (hI.2 27)).trans ((gRd_n _ _ (hI.2 26)).trans ((gRd_n _ _ (hI.2 25)).trans (gRd_s _ _ _)))) rfl) rfl ?_
        refine EvF.gop 80 (go_iload_n d_Mod_findBreaks_79 rfl 1 rfl) rfl ?_
        refine EvF.gop 81 (go_iald (j := k) d_Mod_findBreaks_80 ((gRd_n _ _ (hI.n (i := 17) (j := 27) (by decide))).trans ((gRd_n _ _ (hI.n (i := 17) (j := 26) (by decide))).trans ((gRd_n _ _ (hI.n (i := 17) (j := 25) (by decide))).trans ((gRd_n _ _ (Ne.symm (hI.2 17))).trans (m17))))) (rfl) (by omega) (by omega)) rfl ?_
        refine EvF.gop 83 (go_bipush (v := 124) d_Mod_findBreaks_81 (by decide)) rfl ?_
        by_cases c4 : (ci k) = 124
        · refine EvF.gop 86 (go_icmp_ne_f 100 d_Mod_findBreaks_83 (by decide) (c4)) rfl ?_
          refine EvF.gop 87 (go_aload_n d_Mod_findBreaks_86 rfl 0 rfl) rfl ?_
          refine EvF.gop 88 (go_iconst (v := 3) d_Mod_findBreaks_87 (by decide)) rfl ?_
          refine EvF.gop 89 (go_iload_n d_Mod_findBreaks_88 rfl 1 rfl) rfl ?_
          refine EvF.gop 90 (go_iload_n d_Mod_findBreaks_89 rfl 1 rfl) rfl ?_
          refine EvF.gop 91 (go_iconst (v := 1) d_Mod_findBreaks_90 (by decide)) rfl ?_
          refine EvF.gop 92 (go_iadd d_Mod_findBreaks_91) rfl ?_
          refine EvF.go (go_v (y := nI (k + 1)) (nI_add k 1)) ?_
          refine EvF.gop 95 (go_callV [.int 3, .int (nI k), .int (nI (k + 1))] [.int (bI (bA 3 (nI k) (nI (k + 1)) S).1)] c0_Mod_addBreak im_Mod_addBreak se_Mod_addBreak lk_Mod_166 d_Mod_findBreaks_92 rfl rfl ((gRd_n _ _ (hI.2 27)).trans ((gRd_n _ _ (hI.2 26)).trans ((gRd_n _ _ (hI.2 25)).trans (gRd_s _ _ _)))) (e_Mod_addB G M A a s c S 3 (nI k) (nI (k + 1)) hI (by assumption)) (by decide) rfl rfl (Nat.le_of_ble_eq_true rfl) rfl) rfl ?_
          have hS95 : (bA 3 (nI k) (nI (k + 1)) S).2.1 ≤ 24 := bA_le (by assumption)
          by_cases c5 : (bI (bA 3 (nI k) (nI (k + 1)) S).1) = 0
          · have c5x : (bA 3 (nI k) (nI (k + 1)) S).1 = false := bI_0.mp c5
            refine EvF.gop 98 (go_if_ne_f 100 d_Mod_findBreaks_95 (by decide) (c5)) rfl ?_
            refine EvF.gop 99 (go_iconst (v := 0) d_Mod_findBreaks_98 (by decide)) rfl ?_
            have eX : (mbF n ci (ptM pt) (r + 1) k S) = (if (bP (ptM pt) k S).1 = true then (if (bAm n ci k (bP (ptM pt) k S).2).1 = true then mbF n ci (ptM pt) r (k + 1) (bAm n ci k (bP (ptM pt) k S).2).2 else (false, (bAm n ci k (bP (ptM pt) k S).2).2)) else (false, (bP (ptM pt) k S).2)) := rfl
            have e1 : bP (ptM pt) k S = (true, S) := if_neg (by simp [ptM, *])
            have e2 : bAm n ci k S = bA 3 (nI k) (nI (k + 1)) S := (if_neg (by assumption)).trans (if_pos (by assumption))
            rw [show (mbF n ci (ptM pt) (r + 1) k S) = (false, (bA 3 (nI k) (nI (k + 1)) S).2) from by rw [eX, e1]; refine (if_pos rfl).trans ?_; rw [e2]; exact if_neg (by rw [‹(bA 3 (nI k) (nI (k + 1)) S).1 = false›]; decide)]
            exact EvF.rz d_Mod_findBreaks_99 rfl (by decide) (rfl) (rfl)
          · have c5x : (bA 3 (nI k) (nI (k + 1)) S).1 = true := bI_n0.mp c5
            refine EvF.gop 100 (go_if_ne_t 100 d_Mod_findBreaks_95 (by decide) (c5)) rfl ?_
            refine EvF.gop 101 (go_aload_n d_Mod_findBreaks_100 rfl 0 rfl) rfl ?_
            refine EvF.gop 104 (go_get f_Mod_46 d_Mod_findBreaks_101 ((gRd_n _ _ (hI.2 27)).trans ((gRd_n _ _ (hI.2 26)).trans ((gRd_n _ _ (hI.2 25)).trans (gRd_s _ _ _)))) rfl) rfl ?_
            refine EvF.gop 105 (go_iload_n d_Mod_findBreaks_104 rfl 1 rfl) rfl ?_
            refine EvF.gop 106 (go_iald (j := k) d_Mod_findBreaks_105 ((gRd_n _ _ (hI.n (i := 17) (j := 27) (by decide))).trans ((gRd_n _ _ (hI.n (i := 17) (j := 26) (by decide))).trans ((gRd_n _ _ (hI.n (i := 17) (j := 25) (by decide))).trans ((gRd_n _ _ (Ne.symm (hI.2 17))).trans (m17))))) (rfl) (by omega) (by omega)) rfl ?_
            refine EvF.gop 108 (go_bipush (v := 45) d_Mod_findBreaks_106 (by decide)) rfl ?_
            refine EvF.gop 137 (go_icmp_ne_t 137 d_Mod_findBreaks_108 (by decide) (show ¬ (ci k) = 45 from by rw [c4]; decide)) rfl ?_
            refine EvF.gop 140 (go_inc1 (n0 := 1) (x := k) [(1, .int (nI (k + 1))), (0, .ref A)] d_Mod_findBreaks_137 rfl (by decide) rfl) rfl ?_
            refine EvF.go (go_pick [1, 0] [(0, .ref A), (1, .int (nI (k + 1)))] rfl) ?_
            refine EvF.gop 21 (go_goto 21 d_Mod_findBreaks_140 (by decide)) rfl ?_
            have eX : (mbF n ci (ptM pt) (r + 1) k S) = (if (bP (ptM pt) k S).1 = true then (if (bAm n ci k (bP (ptM pt) k S).2).1 = true then mbF n ci (ptM pt) r (k + 1) (bAm n ci k (bP (ptM pt) k S).2).2 else (false, (bAm n ci k (bP (ptM pt) k S).2).2)) else (false, (bP (ptM pt) k S).2)) := rfl
            have e1 : bP (ptM pt) k S = (true, S) := if_neg (by simp [ptM, *])
            have e2 : bAm n ci k S = bA 3 (nI k) (nI (k + 1)) S := (if_neg (by assumption)).trans (if_pos (by assumption))
            rw [show (mbF n ci (ptM pt) (r + 1) k S) = (mbF n ci (ptM pt) r (k + 1) ((bA 3 (nI k) (nI (k + 1)) S).2)) from by rw [eX, e1]; refine (if_pos rfl).trans ?_; rw [e2]; exact if_pos (by first | rfl | assumption)]
            exact ih (k + 1) _ (by omega) (by assumption)
        · refine EvF.gop 100 (go_icmp_ne_t 100 d_Mod_findBreaks_83 (by decide) (c4)) rfl ?_
          refine EvF.gop 101 (go_aload_n d_Mod_findBreaks_100 rfl 0 rfl) rfl ?_
          refine EvF.gop 104 (go_get f_Mod_46 d_Mod_findBreaks_101 ((gRd_n _ _ (hI.2 27)).trans ((gRd_n _ _ (hI.2 26)).trans ((gRd_n _ _ (hI.2 25)).trans (gRd_s _ _ _)))) rfl) rfl ?_
          refine EvF.gop 105 (go_iload_n d_Mod_findBreaks_104 rfl 1 rfl) rfl ?_
          refine EvF.gop 106 (go_iald (j := k) d_Mod_findBreaks_105 ((gRd_n _ _ (hI.n (i := 17) (j := 27) (by decide))).trans ((gRd_n _ _ (hI.n (i := 17) (j := 26) (by decide))).trans ((gRd_n _ _ (hI.n (i := 17) (j := 25) (by decide))).trans ((gRd_n _ _ (Ne.symm (hI.2 17))).trans (m17))))) (rfl) (by omega) (by omega)) rfl ?_
          refine EvF.gop 108 (go_bipush (v := 45) d_Mod_findBreaks_106 (by decide)) rfl ?_
          by_cases c6 : (ci k) = 45
          · refine EvF.gop 111 (go_icmp_ne_f 137 d_Mod_findBreaks_108 (by decide) (c6)) rfl ?_
            refine EvF.gop 112 (go_iload_n d_Mod_findBreaks_111 rfl 1 rfl) rfl ?_
            refine EvF.gop 113 (go_aload_n d_Mod_findBreaks_112 rfl 0 rfl) rfl ?_
            refine EvF.gop 116 (go_get f_Mod_142 d_Mod_findBreaks_113 ((gRd_n _ _ (hI.2 27)).trans ((gRd_n _ _ (hI.2 26)).trans ((gRd_n _ _ (hI.2 25)).trans (gRd_s _ _ _)))) rfl) rfl ?_
            refine EvF.gop 117 (go_iconst (v := 1) d_Mod_findBreaks_116 (by decide)) rfl ?_
            refine EvF.gop 118 (go_isub d_Mod_findBreaks_117) rfl ?_
            refine EvF.go (go_v (y := nI (n - 1)) (show s 22 - 1 = nI (n - 1) from by rw [h22]; exact pk_sub (b := 1) (by omega))) ?_
            by_cases c7 : (nI (n - 1)) ≤ (nI k)
            · have c7x : (n - 1) ≤ k := (nI_leI (a := (n - 1)) (b := k) (by omega) (by omega)).mp c7
              have c7y : ¬ k < (n - 1) := by omega
              refine EvF.gop 137 (go_icmp_ge_t 137 d_Mod_findBreaks_118 (by decide) (c7)) rfl ?_
              refine EvF.gop 140 (go_inc1 (n0 := 1) (x := k) [(1, .int (nI (k + 1))), (0, .ref A)] d_Mod_findBreaks_137 rfl (by decide) rfl) rfl ?_
              refine EvF.go (go_pick [1, 0] [(0, .ref A), (1, .int (nI (k + 1)))] rfl) ?_
              refine EvF.gop 21 (go_goto 21 d_Mod_findBreaks_140 (by decide)) rfl ?_
              have eX : (mbF n ci (ptM pt) (r + 1) k S) = (if (bP (ptM pt) k S).1 = true then (if (bAm n ci k (bP (ptM pt) k S).2).1 = true then mbF n ci (ptM pt) r (k + 1) (bAm n ci k (bP (ptM pt) k S).2).2 else (false, (bAm n ci k (bP (ptM pt) k S).2).2)) else (false, (bP (ptM pt) k S).2)) := rfl
              have e1 : bP (ptM pt) k S = (true, S) := if_neg (by simp [ptM, *])
              have e2 : bAm n ci k S = (true, S) := (if_neg (by assumption)).trans ((if_neg (by assumption)).trans (if_neg (by rintro ⟨q1, q2⟩; first | contradiction | omega)))
              rw [show (mbF n ci (ptM pt) (r + 1) k S) = (mbF n ci (ptM pt) r (k + 1) S) from by rw [eX, e1]; refine (if_pos rfl).trans ?_; rw [e2]; exact if_pos (by first | rfl | assumption)]
              exact ih (k + 1) _ (by omega) (by assumption)
            · have c7x : k < (n - 1) := Nat.lt_of_not_le (fun q9 => c7 ((nI_leI (a := (n - 1)) (b := k) (by omega) (by omega)).mpr q9))
              have c7y : ¬ (n - 1) ≤ k := by omega
              refine EvF.gop 121 (go_icmp_ge_f 137 d_Mod_findBreaks_118 (by decide) (c7)) rfl ?_
              refine EvF.gop 122 (go_aload_n d_Mod_findBreaks_121 rfl 0 rfl) rfl ?_
              refine EvF.gop 123 (go_iconst (v := 1) d_Mod_findBreaks_122 (by decide)) rfl ?_
              refine EvF.gop 124 (go_iload_n d_Mod_findBreaks_123 rfl 1 rfl) rfl ?_
              refine EvF.gop 125 (go_iconst (v := 1) d_Mod_findBreaks_124 (by decide)) rfl ?_
              refine EvF.gop 126 (go_iadd d_Mod_findBreaks_125) rfl ?_
              refine EvF.go (go_v (y := nI (k + 1)) (nI_add k 1)) ?_
              refine EvF.gop 127 (go_iload_n d_Mod_findBreaks_126 rfl 1 rfl) rfl ?_
              refine EvF.gop 128 (go_iconst (v := 1) d_Mod_findBreaks_127 (by decide)) rfl ?_
              refine EvF.gop 129 (go_iadd d_Mod_findBreaks_128) rfl ?_
              refine EvF.go (go_v (y := nI (k + 1)) (nI_add k 1)) ?_
              refine EvF.gop 132 (go_callV [.int 1, .int (nI (k + 1)), .int (nI (k + 1))] [.int (bI (bA 1 (nI (k + 1)) (nI (k + 1)) S).1)] c0_Mod_addBreak im_Mod_addBreak se_Mod_addBreak lk_Mod_166 d_Mod_findBreaks_129 rfl rfl ((gRd_n _ _ (hI.2 27)).trans ((gRd_n _ _ (hI.2 26)).trans ((gRd_n _ _ (hI.2 25)).trans (gRd_s _ _ _)))) (e_Mod_addB G M A a s c S 1 (nI (k + 1)) (nI (k + 1)) hI (by assumption)) (by decide) rfl rfl (Nat.le_of_ble_eq_true rfl) rfl) rfl ?_
              have hS132 : (bA 1 (nI (k + 1)) (nI (k + 1)) S).2.1 ≤ 24 := bA_le (by assumption)
              by_cases c8 : (bI (bA 1 (nI (k + 1)) (nI (k + 1)) S).1) = 0
              · have c8x : (bA 1 (nI (k + 1)) (nI (k + 1)) S).1 = false := bI_0.mp c8
                refine EvF.gop 135 (go_if_ne_f 137 d_Mod_findBreaks_132 (by decide) (c8)) rfl ?_
                refine EvF.gop 136 (go_iconst (v := 0) d_Mod_findBreaks_135 (by decide)) rfl ?_
                have eX : (mbF n ci (ptM pt) (r + 1) k S) = (if (bP (ptM pt) k S).1 = true then (if (bAm n ci k (bP (ptM pt) k S).2).1 = true then mbF n ci (ptM pt) r (k + 1) (bAm n ci k (bP (ptM pt) k S).2).2 else (false, (bAm n ci k (bP (ptM pt) k S).2).2)) else (false, (bP (ptM pt) k S).2)) := rfl
                have e1 : bP (ptM pt) k S = (true, S) := if_neg (by simp [ptM, *])
                have e2 : bAm n ci k S = bA 1 (nI (k + 1)) (nI (k + 1)) S := (if_neg (by assumption)).trans ((if_neg (by assumption)).trans (if_pos ⟨by assumption, by omega⟩))
                rw [show (mbF n ci (ptM pt) (r + 1) k S) = (false, (bA 1 (nI (k + 1)) (nI (k + 1)) S).2) from by rw [eX, e1]; refine (if_pos rfl).trans ?_; rw [e2]; exact if_neg (by rw [‹(bA 1 (nI (k + 1)) (nI (k + 1)) S).1 = false›]; decide)]
                exact EvF.rz d_Mod_findBreaks_136 rfl (by decide) (rfl) (rfl)
              · have c8x : (bA 1 (nI (k + 1)) (nI (k + 1)) S).1 = true := bI_n0.mp c8
                refine EvF.gop 137 (go_if_ne_t 137 d_Mod_findBreaks_132 (by decide) (c8)) rfl ?_
                refine EvF.gop 140 (go_inc1 (n0 := 1) (x := k) [(1, .int (nI (k + 1))), (0, .ref A)] d_Mod_findBreaks_137 rfl (by decide) rfl) rfl ?_
                refine EvF.go (go_pick [1, 0] [(0, .ref A), (1, .int (nI (k + 1)))] rfl) ?_
                refine EvF.gop 21 (go_goto 21 d_Mod_findBreaks_140 (by decide)) rfl ?_
                have eX : (mbF n ci (ptM pt) (r + 1) k S) = (if (bP (ptM pt) k S).1 = true then (if (bAm n ci k (bP (ptM pt) k S).2).1 = true then mbF n ci (ptM pt) r (k + 1) (bAm n ci k (bP (ptM pt) k S).2).2 else (false, (bAm n ci k (bP (ptM pt) k S).2).2)) else (false, (bP (ptM pt) k S).2)) := rfl
                have e1 : bP (ptM pt) k S = (true, S) := if_neg (by simp [ptM, *])
                have e2 : bAm n ci k S = bA 1 (nI (k + 1)) (nI (k + 1)) S := (if_neg (by assumption)).trans ((if_neg (by assumption)).trans (if_pos ⟨by assumption, by omega⟩))
                rw [show (mbF n ci (ptM pt) (r + 1) k S) = (mbF n ci (ptM pt) r (k + 1) ((bA 1 (nI (k + 1)) (nI (k + 1)) S).2)) from by rw [eX, e1]; refine (if_pos rfl).trans ?_; rw [e2]; exact if_pos (by first | rfl | assumption)]
                exact ih (k + 1) _ (by omega) (by assumption)
          · refine EvF.gop 137 (go_icmp_ne_t 137 d_Mod_findBreaks_108 (by decide) (c6)) rfl ?_
            refine EvF.gop 140 (go_inc1 (n0 := 1) (x := k) [(1, .int (nI (k + 1))), (0, .ref A)] d_Mod_findBreaks_137 rfl (by decide) rfl) rfl ?_
            refine EvF.go (go_pick [1, 0] [(0, .ref A), (1, .int (nI (k + 1)))] rfl) ?_
            refine EvF.gop 21 (go_goto 21 d_Mod_findBreaks_140 (by decide)) rfl ?_
            have eX : (mbF n ci (ptM pt) (r + 1) k S) = (if (bP (ptM pt) k S).1 = true then (if (bAm n ci k (bP (ptM pt) k S).2).1 = true then mbF n ci (ptM pt) r (k + 1) (bAm n ci k (bP (ptM pt) k S).2).2 else (false, (bAm n ci k (bP (ptM pt) k S).2).2)) else (false, (bP (ptM pt) k S).2)) := rfl
            have e1 : bP (ptM pt) k S = (true, S) := if_neg (by simp [ptM, *])
            have e2 : bAm n ci k S = (true, S) := (if_neg (by assumption)).trans ((if_neg (by assumption)).trans (if_neg (by rintro ⟨q1, q2⟩; first | contradiction | omega)))
            rw [show (mbF n ci (ptM pt) (r + 1) k S) = (mbF n ci (ptM pt) r (k + 1) S) from by rw [eX, e1]; refine (if_pos rfl).trans ?_; rw [e2]; exact if_pos (by first | rfl | assumption)]
            exact ih (k + 1) _ (by omega) (by assumption)
    · refine EvF.gop 38 (go_if_eq_f 50 d_Mod_findBreaks_35 (by decide) (c1)) rfl ?_
      refine EvF.gop 39 (go_aload_n d_Mod_findBreaks_38 rfl 0 rfl) rfl ?_
      refine EvF.gop 40 (go_iconst (v := 2) d_Mod_findBreaks_39 (by decide)) rfl ?_
      refine EvF.gop 41 (go_iload_n d_Mod_findBreaks_40 rfl 1 rfl) rfl ?_
      refine EvF.gop 42 (go_iload_n d_Mod_findBreaks_41 rfl 1 rfl) rfl ?_
      refine EvF.gop 45 (go_callV [.int 2, .int (nI k), .int (nI k)] [.int (bI (bA 2 (nI k) (nI k) S).1)] c0_Mod_addBreak im_Mod_addBreak se_Mod_addBreak lk_Mod_166 d_Mod_findBreaks_42 rfl rfl ((gRd_n _ _ (hI.2 27)).trans ((gRd_n _ _ (hI.2 26)).trans ((gRd_n _ _ (hI.2 25)).trans (gRd_s _ _ _)))) (e_Mod_addB G M A a s c S 2 (nI k) (nI k) hI (by assumption)) (by decide) rfl rfl (Nat.le_of_ble_eq_true rfl) rfl) rfl ?_
      have hS45 : (bA 2 (nI k) (nI k) S).2.1 ≤ 24 := bA_le (by assumption)
      by_cases c9 : (bI (bA 2 (nI k) (nI k) S).1) = 0
      · have c9x : (bA 2 (nI k) (nI k) S).1 = false := bI_0.mp c9
        refine EvF.gop 48 (go_if_ne_f 50 d_Mod_findBreaks_45 (by decide) (c9)) rfl ?_
        refine EvF.gop 49 (go_iconst (v := 0) d_Mod_findBreaks_48 (by decide)) rfl ?_
        have eX : (mbF n ci (ptM pt) (r + 1) k S) = (if (bP (ptM pt) k S).1 = true then (if (bAm n ci k (bP (ptM pt) k S).2).1 = true then mbF n ci (ptM pt) r (k + 1) (bAm n ci k (bP (ptM pt) k S).2).2 else (false, (bAm n ci k (bP (ptM pt) k S).2).2)) else (false, (bP (ptM pt) k S).2)) := rfl
        have e1 : bP (ptM pt) k S = bA 2 (nI k) (nI k) S := if_pos (by simp [ptM, *])
        rw [show (mbF n ci (ptM pt) (r + 1) k S) = (false, (bA 2 (nI k) (nI k) S).2) from by rw [eX, e1]; exact if_neg (by rw [‹(bA 2 (nI k) (nI k) S).1 = false›]; decide)]
        exact EvF.rz d_Mod_findBreaks_49 rfl (by decide) (rfl) (rfl)
      · have c9x : (bA 2 (nI k) (nI k) S).1 = true := bI_n0.mp c9
        refine EvF.gop 50 (go_if_ne_t 50 d_Mod_findBreaks_45 (by decide) (c9)) rfl ?_
        refine EvF.gop 51 (go_aload_n d_Mod_findBreaks_50 rfl 0 rfl) rfl ?_
        refine EvF.gop 54 (go_get f_Mod_46 d_Mod_findBreaks_51 ((gRd_n _ _ (hI.2 27)).trans ((gRd_n _ _ (hI.2 26)).trans ((gRd_n _ _ (hI.2 25)).trans (gRd_s _ _ _)))) rfl) rfl ?_
        refine EvF.gop 55 (go_iload_n d_Mod_findBreaks_54 rfl 1 rfl) rfl ?_
        refine EvF.gop 56 (go_iald (j := k) d_Mod_findBreaks_55 ((gRd_n _ _ (hI.n (i := 17) (j := 27) (by decide))).trans ((gRd_n _ _ (hI.n (i := 17) (j := 26) (by decide))).trans ((gRd_n _ _ (hI.n (i := 17) (j := 25) (by decide))).trans ((gRd_n _ _ (Ne.symm (hI.2 17))).trans (m17))))) (rfl) (by omega) (by omega)) rfl ?_
        refine EvF.gop 58 (go_bipush (v := 32) d_Mod_findBreaks_56 (by decide)) rfl ?_
        by_cases c10 : (ci k) = 32
        · refine EvF.gop 61 (go_icmp_ne_f 75 d_Mod_findBreaks_58 (by decide) (c10)) rfl ?_
          refine EvF.gop 62 (go_aload_n d_Mod_findBreaks_61 rfl 0 rfl) rfl ?_
          refine EvF.gop 63 (go_iconst (v := 0) d_Mod_findBreaks_62 (by decide)) rfl ?_
          refine EvF.gop 64 (go_iload_n d_Mod_findBreaks_63 rfl 1 rfl) rfl ?_
          refine EvF.gop 65 (go_iload_n d_Mod_findBreaks_64 rfl 1 rfl) rfl ?_
          refine EvF.gop 66 (go_iconst (v := 1) d_Mod_findBreaks_65 (by decide)) rfl ?_
          refine EvF.gop 67 (go_iadd d_Mod_findBreaks_66) rfl ?_
          refine EvF.go (go_v (y := nI (k + 1)) (nI_add k 1)) ?_
          refine EvF.gop 70 (go_callV [.int 0, .int (nI k), .int (nI (k + 1))] [.int (bI (bA 0 (nI k) (nI (k + 1)) ((bA 2 (nI k) (nI k) S).2)).1)] c0_Mod_addBreak im_Mod_addBreak se_Mod_addBreak lk_Mod_166 d_Mod_findBreaks_67 rfl rfl ((gRd_n _ _ (hI.2 27)).trans ((gRd_n _ _ (hI.2 26)).trans ((gRd_n _ _ (hI.2 25)).trans (gRd_s _ _ _)))) (e_Mod_addB G M A a s c ((bA 2 (nI k) (nI k) S).2) 0 (nI k) (nI (k + 1)) hI (by assumption)) (by decide) rfl rfl (Nat.le_of_ble_eq_true rfl) rfl) rfl ?_
          have hS70 : (bA 0 (nI k) (nI (k + 1)) ((bA 2 (nI k) (nI k) S).2)).2.1 ≤ 24 := bA_le (by assumption)
          by_cases c11 : (bI (bA 0 (nI k) (nI (k + 1)) ((bA 2 (nI k) (nI k) S).2)).1) = 0
          · have c11x : (bA 0 (nI k) (nI (k + 1)) ((bA 2 (nI k) (nI k) S).2)).1 = false := bI_0.mp c11
            refine EvF.gop 73 (go_if_ne_f 75 d_Mod_findBreaks_70 (by decide) (c11)) rfl ?_
            refine EvF.gop 74 (go_iconst (v := 0) d_Mod_findBreaks_73 (by decide)) rfl ?_
            have eX : (mbF n ci (ptM pt) (r + 1) k S) = (if (bP (ptM pt) k S).1 = true then (if (bAm n ci k (bP (ptM pt) k S).2).1 = true then mbF n ci (ptM pt) r (k + 1) (bAm n ci k (bP (ptM pt) k S).2).2 else (false, (bAm n ci k (bP (ptM pt) k S).2).2)) else (false, (bP (ptM pt) k S).2)) := rfl
            have e1 : bP (ptM pt) k S = bA 2 (nI k) (nI k) S := if_pos (by simp [ptM, *])
            have e2 : bAm n ci k ((bA 2 (nI k) (nI k) S).2) = bA 0 (nI k) (nI (k + 1)) ((bA 2 (nI k) (nI k) S).2) := if_pos (by assumption)
            rw [show (mbF n ci (ptM pt) (r + 1) k S) = (false, (bA 0 (nI k) (nI (k + 1)) ((bA 2 (nI k) (nI k) S).2)).2) from by rw [eX, e1]; refine (if_pos (by assumption)).trans ?_; rw [e2]; exact if_neg (by rw [‹(bA 0 (nI k) (nI (k + 1)) ((bA 2 (nI k) (nI k) S).2)).1 = false›]; decide)]
            exact EvF.rz d_Mod_findBreaks_74 rfl (by decide) (rfl) (rfl)
          · have c11x : (bA 0 (nI k) (nI (k + 1)) ((bA 2 (nI k) (nI k) S).2)).1 = true := bI_n0.mp c11
            refine EvF.gop 75 (go_if_ne_t 75 d_Mod_findBreaks_70 (by decide) (c11)) rfl ?_
            refine EvF.gop 76 (go_aload_n d_Mod_findBreaks_75 rfl 0 rfl) rfl ?_
            refine EvF.gop 79 (go_get f_Mod_46 d_Mod_findBreaks_76 ((gRd_n _ _ (hI.2 27)).trans ((gRd_n _ _ (hI.2 26)).trans ((gRd_n _ _ (hI.2 25)).trans (gRd_s _ _ _)))) rfl) rfl ?_
            refine EvF.gop 80 (go_iload_n d_Mod_findBreaks_79 rfl 1 rfl) rfl ?_
            refine EvF.gop 81 (go_iald (j := k) d_Mod_findBreaks_80 ((gRd_n _ _ (hI.n (i := 17) (j := 27) (by decide))).trans ((gRd_n _ _ (hI.n (i := 17) (j := 26) (by decide))).trans ((gRd_n _ _ (hI.n (i := 17) (j := 25) (by decide))).trans ((gRd_n _ _ (Ne.symm (hI.2 17))).trans (m17))))) (rfl) (by omega) (by omega)) rfl ?_
            refine EvF.gop 83 (go_bipush (v := 124) d_Mod_findBreaks_81 (by decide)) rfl ?_
            refine EvF.gop 100 (go_icmp_ne_t 100 d_Mod_findBreaks_83 (by decide) (show ¬ (ci k) = 124 from by rw [c10]; decide)) rfl ?_
            refine EvF.gop 101 (go_aload_n d_Mod_findBreaks_100 rfl 0 rfl) rfl ?_
            refine EvF.gop 104 (go_get f_Mod_46 d_Mod_findBreaks_101 ((gRd_n _ _ (hI.2 27)).trans ((gRd_n _ _ (hI.2 26)).trans ((gRd_n _ _ (hI.2 25)).trans (gRd_s _ _ _)))) rfl) rfl ?_
            refine EvF.gop 105 (go_iload_n d_Mod_findBreaks_104 rfl 1 rfl) rfl ?_
            refine EvF.gop 106 (go_iald (j := k) d_Mod_findBreaks_105 ((gRd_n _ _ (hI.n (i := 17) (j := 27) (by decide))).trans ((gRd_n _ _ (hI.n (i := 17) (j := 26) (by decide))).trans ((gRd_n _ _ (hI.n (i := 17) (j := 25) (by decide))).trans ((gRd_n _ _ (Ne.symm (hI.2 17))).trans (m17))))) (rfl) (by omega) (by omega)) rfl ?_
            refine EvF.gop 108 (go_bipush (v := 45) d_Mod_findBreaks_106 (by decide)) rfl ?_
            refine EvF.gop 137 (go_icmp_ne_t 137 d_Mod_findBreaks_108 (by decide) (show ¬ (ci k) = 45 from by rw [c10]; decide)) rfl ?_
            refine EvF.gop 140 (go_inc1 (n0 := 1) (x := k) [(1, .int (nI (k + 1))), (0, .ref A)] d_Mod_findBreaks_137 rfl (by decide) rfl) rfl ?_
            refine EvF.go (go_pick [1, 0] [(0, .ref A), (1, .int (nI (k + 1)))] rfl) ?_
            refine EvF.gop 21 (go_goto 21 d_Mod_findBreaks_140 (by decide)) rfl ?_
            have eX : (mbF n ci (ptM pt) (r + 1) k S) = (if (bP (ptM pt) k S).1 = true then (if (bAm n ci k (bP (ptM pt) k S).2).1 = true then mbF n ci (ptM pt) r (k + 1) (bAm n ci k (bP (ptM pt) k S).2).2 else (false, (bAm n ci k (bP (ptM pt) k S).2).2)) else (false, (bP (ptM pt) k S).2)) := rfl
            have e1 : bP (ptM pt) k S = bA 2 (nI k) (nI k) S := if_pos (by simp [ptM, *])
            have e2 : bAm n ci k ((bA 2 (nI k) (nI k) S).2) = bA 0 (nI k) (nI (k + 1)) ((bA 2 (nI k) (nI k) S).2) := if_pos (by assumption)
            rw [show (mbF n ci (ptM pt) (r + 1) k S) = (mbF n ci (ptM pt) r (k + 1) ((bA 0 (nI k) (nI (k + 1)) ((bA 2 (nI k) (nI k) S).2)).2)) from by rw [eX, e1]; refine (if_pos (by assumption)).trans ?_; rw [e2]; exact if_pos (by first | rfl | assumption)]
            exact ih (k + 1) _ (by omega) (by assumption)
        · refine EvF.gop 75 (go_icmp_ne_t 75 d_Mod_findBreaks_58 (by decide) (c10)) rfl ?_
          refine EvF.gop 76 (go_aload_n d_Mod_findBreaks_75 rfl 0 rfl) rfl ?_
          refine EvF.gop 79 (go_get f_Mod_46 d_Mod_findBreaks_76 ((gRd_n _ _ (hI.2 27)).trans ((gRd_n _ _ (hI.2 26)).trans ((gRd_n _ _ (hI.2 25)).trans (gRd_s _ _ _)))) rfl) rfl ?_
          refine EvF.gop 80 (go_iload_n d_Mod_findBreaks_79 rfl 1 rfl) rfl ?_
          refine EvF.gop 81 (go_iald (j := k) d_Mod_findBreaks_80 ((gRd_n _ _ (hI.n (i := 17) (j := 27) (by decide))).trans ((gRd_n _ _ (hI.n (i := 17) (j := 26) (by decide))).trans ((gRd_n _ _ (hI.n (i := 17) (j := 25) (by decide))).trans ((gRd_n _ _ (Ne.symm (hI.2 17))).trans (m17))))) (rfl) (by omega) (by omega)) rfl ?_
          refine EvF.gop 83 (go_bipush (v := 124) d_Mod_findBreaks_81 (by decide)) rfl ?_
          by_cases c12 : (ci k) = 124
          · refine EvF.gop 86 (go_icmp_ne_f 100 d_Mod_findBreaks_83 (by decide) (c12)) rfl ?_
            refine EvF.gop 87 (go_aload_n d_Mod_findBreaks_86 rfl 0 rfl) rfl ?_
            refine EvF.gop 88 (go_iconst (v := 3) d_Mod_findBreaks_87 (by decide)) rfl ?_
            refine EvF.gop 89 (go_iload_n d_Mod_findBreaks_88 rfl 1 rfl) rfl ?_
            refine EvF.gop 90 (go_iload_n d_Mod_findBreaks_89 rfl 1 rfl) rfl ?_
            refine EvF.gop 91 (go_iconst (v := 1) d_Mod_findBreaks_90 (by decide)) rfl ?_
            refine EvF.gop 92 (go_iadd d_Mod_findBreaks_91) rfl ?_
            refine EvF.go (go_v (y := nI (k + 1)) (nI_add k 1)) ?_
            refine EvF.gop 95 (go_callV [.int 3, .int (nI k), .int (nI (k + 1))] [.int (bI (bA 3 (nI k) (nI (k + 1)) ((bA 2 (nI k) (nI k) S).2)).1)] c0_Mod_addBreak im_Mod_addBreak se_Mod_addBreak lk_Mod_166 d_Mod_findBreaks_92 rfl rfl ((gRd_n _ _ (hI.2 27)).trans ((gRd_n _ _ (hI.2 26)).trans ((gRd_n _ _ (hI.2 25)).trans (gRd_s _ _ _)))) (e_Mod_addB G M A a s c ((bA 2 (nI k) (nI k) S).2) 3 (nI k) (nI (k + 1)) hI (by assumption)) (by decide) rfl rfl (Nat.le_of_ble_eq_true rfl) rfl) rfl ?_
            have hS95 : (bA 3 (nI k) (nI (k + 1)) ((bA 2 (nI k) (nI k) S).2)).2.1 ≤ 24 := bA_le (by assumption)
            by_cases c13 : (bI (bA 3 (nI k) (nI (k + 1)) ((bA 2 (nI k) (nI k) S).2)).1) = 0
            · have c13x : (bA 3 (nI k) (nI (k + 1)) ((bA 2 (nI k) (nI k) S).2)).1 = false := bI_0.mp c13
              refine EvF.gop 98 (go_if_ne_f 100 d_Mod_findBreaks_95 (by decide) (c13)) rfl ?_
              refine EvF.gop 99 (go_iconst (v := 0) d_Mod_findBreaks_98 (by decide)) rfl ?_
              have eX : (mbF n ci (ptM pt) (r + 1) k S) = (if (bP (ptM pt) k S).1 = true then (if (bAm n ci k (bP (ptM pt) k S).2).1 = true then mbF n ci (ptM pt) r (k + 1) (bAm n ci k (bP (ptM pt) k S).2).2 else (false, (bAm n ci k (bP (ptM pt) k S).2).2)) else (false, (bP (ptM pt) k S).2)) := rfl
              have e1 : bP (ptM pt) k S = bA 2 (nI k) (nI k) S := if_pos (by simp [ptM, *])
              have e2 : bAm n ci k ((bA 2 (nI k) (nI k) S).2) = bA 3 (nI k) (nI (k + 1)) ((bA 2 (nI k) (nI k) S).2) := (if_neg (by assumption)).trans (if_pos (by assumption))
              rw [show (mbF n ci (ptM pt) (r + 1) k S) = (false, (bA 3 (nI k) (nI (k + 1)) ((bA 2 (nI k) (nI k) S).2)).2) from by rw [eX, e1]; refine (if_pos (by assumption)).trans ?_; rw [e2]; exact if_neg (by rw [‹(bA 3 (nI k) (nI (k + 1)) ((bA 2 (nI k) (nI k) S).2)).1 = false›]; decide)]
              exact EvF.rz d_Mod_findBreaks_99 rfl (by decide) (rfl) (rfl)
            · have c13x : (bA 3 (nI k) (nI (k + 1)) ((bA 2 (nI k) (nI k) S).2)).1 = true := bI_n0.mp c13
              refine EvF.gop 100 (go_if_ne_t 100 d_Mod_findBreaks_95 (by decide) (c13)) rfl ?_
              refine EvF.gop 101 (go_aload_n d_Mod_findBreaks_100 rfl 0 rfl) rfl ?_
              refine EvF.gop 104 (go_get f_Mod_46 d_Mod_findBreaks_101 ((gRd_n _ _ (hI.2 27)).trans ((gRd_n _ _ (hI.2 26)).trans ((gRd_n _ _ (hI.2 25)).trans (gRd_s _ _ _)))) rfl) rfl ?_
              refine EvF.gop 105 (go_iload_n d_Mod_findBreaks_104 rfl 1 rfl) rfl ?_
              refine EvF.gop 106 (go_iald (j := k) d_Mod_findBreaks_105 ((gRd_n _ _ (hI.n (i := 17) (j := 27) (by decide))).trans ((gRd_n _ _ (hI.n (i := 17) (j := 26) (by decide))).trans ((gRd_n _ _ (hI.n (i := 17) (j := 25) (by decide))).trans ((gRd_n _ _ (Ne.symm (hI.2 17))).trans (m17))))) (rfl) (by omega) (by omega)) rfl ?_
              refine EvF.gop 108 (go_bipush (v := 45) d_Mod_findBreaks_106 (by decide)) rfl ?_
              refine EvF.gop 137 (go_icmp_ne_t 137 d_Mod_findBreaks_108 (by decide) (show ¬ (ci k) = 45 from by rw [c12]; decide)) rfl ?_
              refine EvF.gop 140 (go_inc1 (n0 := 1) (x := k) [(1, .int (nI (k + 1))), (0, .ref A)] d_Mod_findBreaks_137 rfl (by decide) rfl) rfl ?_
              refine EvF.go (go_pick [1, 0] [(0, .ref A), (1, .int (nI (k + 1)))] rfl) ?_
              refine EvF.gop 21 (go_goto 21 d_Mod_findBreaks_140 (by decide)) rfl ?_
              have eX : (mbF n ci (ptM pt) (r + 1) k S) = (if (bP (ptM pt) k S).1 = true then (if (bAm n ci k (bP (ptM pt) k S).2).1 = true then mbF n ci (ptM pt) r (k + 1) (bAm n ci k (bP (ptM pt) k S).2).2 else (false, (bAm n ci k (bP (ptM pt) k S).2).2)) else (false, (bP (ptM pt) k S).2)) := rfl
              have e1 : bP (ptM pt) k S = bA 2 (nI k) (nI k) S := if_pos (by simp [ptM, *])
              have e2 : bAm n ci k ((bA 2 (nI k) (nI k) S).2) = bA 3 (nI k) (nI (k + 1)) ((bA 2 (nI k) (nI k) S).2) := (if_neg (by assumption)).trans (if_pos (by assumption))
              rw [show (mbF n ci (ptM pt) (r + 1) k S) = (mbF n ci (ptM pt) r (k + 1) ((bA 3 (nI k) (nI (k + 1)) ((bA 2 (nI k) (nI k) S).2)).2)) from by rw [eX, e1]; refine (if_pos (by assumption)).trans ?_; rw [e2]; exact if_pos (by first | rfl | assumption)]
              exact ih (k + 1) _ (by omega) (by assumption)
          · refine EvF.gop 100 (go_icmp_ne_t 100 d_Mod_findBreaks_83 (by decide) (c12)) rfl ?_
            refine EvF.gop 101 (go_aload_n d_Mod_findBreaks_100 rfl 0 rfl) rfl ?_
            refine EvF.gop 104 (go_get f_Mod_46 d_Mod_findBreaks_101 ((gRd_n _ _ (hI.2 27)).trans ((gRd_n _ _ (hI.2 26)).trans ((gRd_n _ _ (hI.2 25)).trans (gRd_s _ _ _)))) rfl) rfl ?_
            refine EvF.gop 105 (go_iload_n d_Mod_findBreaks_104 rfl 1 rfl) rfl ?_
            refine EvF.gop 106 (go_iald (j := k) d_Mod_findBreaks_105 ((gRd_n _ _ (hI.n (i := 17) (j := 27) (by decide))).trans ((gRd_n _ _ (hI.n (i := 17) (j := 26) (by decide))).trans ((gRd_n _ _ (hI.n (i := 17) (j := 25) (by decide))).trans ((gRd_n _ _ (Ne.symm (hI.2 17))).trans (m17))))) (rfl) (by omega) (by omega)) rfl ?_
            refine EvF.gop 108 (go_bipush (v := 45) d_Mod_findBreaks_106 (by decide)) rfl ?_
            by_cases c14 : (ci k) = 45
            · refine EvF.gop 111 (go_icmp_ne_f 137 d_Mod_findBreaks_108 (by decide) (c14)) rfl ?_
              refine EvF.gop 112 (go_iload_n d_Mod_findBreaks_111 rfl 1 rfl) rfl ?_
              refine EvF.gop 113 (go_aload_n d_Mod_findBreaks_112 rfl 0 rfl) rfl ?_
              refine EvF.gop 116 (go_get f_Mod_142 d_Mod_findBreaks_113 ((gRd_n _ _ (hI.2 27)).trans ((gRd_n _ _ (hI.2 26)).trans ((gRd_n _ _ (hI.2 25)).trans (gRd_s _ _ _)))) rfl) rfl ?_
              refine EvF.gop 117 (go_iconst (v := 1) d_Mod_findBreaks_116 (by decide)) rfl ?_
              refine EvF.gop 118 (go_isub d_Mod_findBreaks_117) rfl ?_
              refine EvF.go (go_v (y := nI (n - 1)) (show s 22 - 1 = nI (n - 1) from by rw [h22]; exact pk_sub (b := 1) (by omega))) ?_
              by_cases c15 : (nI (n - 1)) ≤ (nI k)
              · have c15x : (n - 1) ≤ k := (nI_leI (a := (n - 1)) (b := k) (by omega) (by omega)).mp c15
                have c15y : ¬ k < (n - 1) := by omega
                refine EvF.gop 137 (go_icmp_ge_t 137 d_Mod_findBreaks_118 (by decide) (c15)) rfl ?_
                refine EvF.gop 140 (go_inc1 (n0 := 1) (x := k) [(1, .int (nI (k + 1))), (0, .ref A)] d_Mod_findBreaks_137 rfl (by decide) rfl) rfl ?_
                refine EvF.go (go_pick [1, 0] [(0, .ref A), (1, .int (nI (k + 1)))] rfl) ?_
                refine EvF.gop 21 (go_goto 21 d_Mod_findBreaks_140 (by decide)) rfl ?_
                have eX : (mbF n ci (ptM pt) (r + 1) k S) = (if (bP (ptM pt) k S).1 = true then (if (bAm n ci k (bP (ptM pt) k S).2).1 = true then mbF n ci (ptM pt) r (k + 1) (bAm n ci k (bP (ptM pt) k S).2).2 else (false, (bAm n ci k (bP (ptM pt) k S).2).2)) else (false, (bP (ptM pt) k S).2)) := rfl
                have e1 : bP (ptM pt) k S = bA 2 (nI k) (nI k) S := if_pos (by simp [ptM, *])
                have e2 : bAm n ci k ((bA 2 (nI k) (nI k) S).2) = (true, (bA 2 (nI k) (nI k) S).2) := (if_neg (by assumption)).trans ((if_neg (by assumption)).trans (if_neg (by rintro ⟨q1, q2⟩; first | contradiction | omega)))
                rw [show (mbF n ci (ptM pt) (r + 1) k S) = (mbF n ci (ptM pt) r (k + 1) ((bA 2 (nI k) (nI k) S).2)) from by rw [eX, e1]; refine (if_pos (by assumption)).trans ?_; rw [e2]; exact if_pos (by first | rfl | assumption)]
                exact ih (k + 1) _ (by omega) (by assumption)
              · have c15x : k < (n - 1) := Nat.lt_of_not_le (fun q9 => c15 ((nI_leI (a := (n - 1)) (b := k) (by omega) (by omega)).mpr q9))
                have c15y : ¬ (n - 1) ≤ k := by omega
                refine EvF.gop 121 (go_icmp_ge_f 137 d_Mod_findBreaks_118 (by decide) (c15)) rfl ?_
                refine EvF.gop 122 (go_aload_n d_Mod_findBreaks_121 rfl 0 rfl) rfl ?_
                refine EvF.gop 123 (go_iconst (v := 1) d_Mod_findBreaks_122 (by decide)) rfl ?_
                refine EvF.gop 124 (go_iload_n d_Mod_findBreaks_123 rfl 1 rfl) rfl ?_
                refine EvF.gop 125 (go_iconst (v := 1) d_Mod_findBreaks_124 (by decide)) rfl ?_
                refine EvF.gop 126 (go_iadd d_Mod_findBreaks_125) rfl ?_
                refine EvF.go (go_v (y := nI (k + 1)) (nI_add k 1)) ?_
                refine EvF.gop 127 (go_iload_n d_Mod_findBreaks_126 rfl 1 rfl) rfl ?_
                refine EvF.gop 128 (go_iconst (v := 1) d_Mod_findBreaks_127 (by decide)) rfl ?_
                refine EvF.gop 129 (go_iadd d_Mod_findBreaks_128) rfl ?_
                refine EvF.go (go_v (y := nI (k + 1)) (nI_add k 1)) ?_
                refine EvF.gop 132 (go_callV [.int 1, .int (nI (k + 1)), .int (nI (k + 1))] [.int (bI (bA 1 (nI (k + 1)) (nI (k + 1)) ((bA 2 (nI k) (nI k) S).2)).1)] c0_Mod_addBreak im_Mod_addBreak se_Mod_addBreak lk_Mod_166 d_Mod_findBreaks_129 rfl rfl ((gRd_n _ _ (hI.2 27)).trans ((gRd_n _ _ (hI.2 26)).trans ((gRd_n _ _ (hI.2 25)).trans (gRd_s _ _ _)))) (e_Mod_addB G M A a s c ((bA 2 (nI k) (nI k) S).2) 1 (nI (k + 1)) (nI (k + 1)) hI (by assumption)) (by decide) rfl rfl (Nat.le_of_ble_eq_true rfl) rfl) rfl ?_
                have hS132 : (bA 1 (nI (k + 1)) (nI (k + 1)) ((bA 2 (nI k) (nI k) S).2)).2.1 ≤ 24 := bA_le (by assumption)
                by_cases c16 : (bI (bA 1 (nI (k + 1)) (nI (k + 1)) ((bA 2 (nI k) (nI k) S).2)).1) = 0
                · have c16x : (bA 1 (nI (k + 1)) (nI (k + 1)) ((bA 2 (nI k) (nI k) S).2)).1 = false := bI_0.mp c16
                  refine EvF.gop 135 (go_if_ne_f 137 d_Mod_findBreaks_132 (by decide) (c16)) rfl ?_
                  refine EvF.gop 136 (go_iconst (v := 0) d_Mod_findBreaks_135 (by decide)) rfl ?_
                  have eX : (mbF n ci (ptM pt) (r + 1) k S) = (if (bP (ptM pt) k S).1 = true then (if (bAm n ci k (bP (ptM pt) k S).2).1 = true then mbF n ci (ptM pt) r (k + 1) (bAm n ci k (bP (ptM pt) k S).2).2 else (false, (bAm n ci k (bP (ptM pt) k S).2).2)) else (false, (bP (ptM pt) k S).2)) := rfl
                  have e1 : bP (ptM pt) k S = bA 2 (nI k) (nI k) S := if_pos (by simp [ptM, *])
                  have e2 : bAm n ci k ((bA 2 (nI k) (nI k) S).2) = bA 1 (nI (k + 1)) (nI (k + 1)) ((bA 2 (nI k) (nI k) S).2) := (if_neg (by assumption)).trans ((if_neg (by assumption)).trans (if_pos ⟨by assumption, by omega⟩))
                  rw [show (mbF n ci (ptM pt) (r + 1) k S) = (false, (bA 1 (nI (k + 1)) (nI (k + 1)) ((bA 2 (nI k) (nI k) S).2)).2) from by rw [eX, e1]; refine (if_pos (by assumption)).trans ?_; rw [e2]; exact if_neg (by rw [‹(bA 1 (nI (k + 1)) (nI (k + 1)) ((bA 2 (nI k) (nI k) S).2)).1 = false›]; decide)]
                  exact EvF.rz d_Mod_findBreaks_136 rfl (by decide) (rfl) (rfl)
                · have c16x : (bA 1 (nI (k + 1)) (nI (k + 1)) ((bA 2 (nI k) (nI k) S).2)).1 = true := bI_n0.mp c16
                  refine EvF.gop 137 (go_if_ne_t 137 d_Mod_findBreaks_132 (by decide) (c16)) rfl ?_
                  refine EvF.gop 140 (go_inc1 (n0 := 1) (x := k) [(1, .int (nI (k + 1))), (0, .ref A)] d_Mod_findBreaks_137 rfl (by decide) rfl) rfl ?_
                  refine EvF.go (go_pick [1, 0] [(0, .ref A), (1, .int (nI (k + 1)))] rfl) ?_
                  refine EvF.gop 21 (go_goto 21 d_Mod_findBreaks_140 (by decide)) rfl ?_
                  have eX : (mbF n ci (ptM pt) (r + 1) k S) = (if (bP (ptM pt) k S).1 = true then (if (bAm n ci k (bP (ptM pt) k S).2).1 = true then mbF n ci (ptM pt) r (k + 1) (bAm n ci k (bP (ptM pt) k S).2).2 else (false, (bAm n ci k (bP (ptM pt) k S).2).2)) else (false, (bP (ptM pt) k S).2)) := rfl
                  have e1 : bP (ptM pt) k S = bA 2 (nI k) (nI k) S := if_pos (by simp [ptM, *])
                  have e2 : bAm n ci k ((bA 2 (nI k) (nI k) S).2) = bA 1 (nI (k + 1)) (nI (k + 1)) ((bA 2 (nI k) (nI k) S).2) := (if_neg (by assumption)).trans ((if_neg (by assumption)).trans (if_pos ⟨by assumption, by omega⟩))
                  rw [show (mbF n ci (ptM pt) (r + 1) k S) = (mbF n ci (ptM pt) r (k + 1) ((bA 1 (nI (k + 1)) (nI (k + 1)) ((bA 2 (nI k) (nI k) S).2)).2)) from by rw [eX, e1]; refine (if_pos (by assumption)).trans ?_; rw [e2]; exact if_pos (by first | rfl | assumption)]
                  exact ih (k + 1) _ (by omega) (by assumption)
            · refine EvF.gop 137 (go_icmp_ne_t 137 d_Mod_findBreaks_108 (by decide) (c14)) rfl ?_
              refine EvF.gop 140 (go_inc1 (n0 := 1) (x := k) [(1, .int (nI (k + 1))), (0, .ref A)] d_Mod_findBreaks_137 rfl (by decide) rfl) rfl ?_
              refine EvF.go (go_pick [1, 0] [(0, .ref A), (1, .int (nI (k + 1)))] rfl) ?_
              refine EvF.gop 21 (go_goto 21 d_Mod_findBreaks_140 (by decide)) rfl ?_
              have eX : (mbF n ci (ptM pt) (r + 1) k S) = (if (bP (ptM pt) k S).1 = true then (if (bAm n ci k (bP (ptM pt) k S).2).1 = true then mbF n ci (ptM pt) r (k + 1) (bAm n ci k (bP (ptM pt) k S).2).2 else (false, (bAm n ci k (bP (ptM pt) k S).2).2)) else (false, (bP (ptM pt) k S).2)) := rfl
              have e1 : bP (ptM pt) k S = bA 2 (nI k) (nI k) S := if_pos (by simp [ptM, *])
              have e2 : bAm n ci k ((bA 2 (nI k) (nI k) S).2) = (true, (bA 2 (nI k) (nI k) S).2) := (if_neg (by assumption)).trans ((if_neg (by assumption)).trans (if_neg (by rintro ⟨q1, q2⟩; first | contradiction | omega)))
              rw [show (mbF n ci (ptM pt) (r + 1) k S) = (mbF n ci (ptM pt) r (k + 1) ((bA 2 (nI k) (nI k) S).2)) from by rw [eX, e1]; refine (if_pos (by assumption)).trans ?_; rw [e2]; exact if_pos (by first | rfl | assumption)]
              exact ih (k + 1) _ (by omega) (by assumption)
theorem e_Mod_findBreaks (G : gG) (M : gM) (A : Nat) (a : Nat → Nat) (s : Nat → Int32) (c : Int64) (ci pt K E B : Nat → Int32) (n : Nat) (hI : InjA A a) (hA : gRd M A = some (.inr (11, oMod a s c))) (m17 : gRd M (a 17) = some (aI G 120 ci)) (m24 : gRd M (a 24) = some (aZ G 121 pt)) (m25 : gRd M (a 25) = some (aI G 26 K)) (m26 : gRd M (a 26) = some (aI G 26 E)) (m27 : gRd M (a 27) = some (aI G 26 B)) (h22 : s 22 = nI n) (hn : n ≤ 120) : Ev G 1 m_Mod_findBreaks [.ref A] M (some (.int (bI (mbF n ci (ptM pt) n 0 ((0, upd K 0 0, E, upd B 0 0))).1))) (gWr (gWr (gWr (gWr M A (.inr (11, oMod a (upd s 28 (nI ((mbF n ci (ptM pt) n 0 ((0, upd K 0 0, E, upd B 0 0))).2).1)) c))) (a 25) (aI G 26 (((mbF n ci (ptM pt) n 0 ((0, upd K 0 0, E, upd B 0 0))).2).2.1))) (a 26) (aI G 26 (((mbF n ci (ptM pt) n 0 ((0, upd K 0 0, E, upd B 0 0))).2).2.2.1))) (a 27) (aI G 26 (((mbF n ci (ptM pt) n 0 ((0, upd K 0 0, E, upd B 0 0))).2).2.2.2))) := by
  refine Ev.of (Nat.le_of_ble_eq_true rfl) ?_
  show EvF G 1 m_Mod_findBreaks (0, [(0, .ref A)], [], M) _ _
  refine EvF.go (go_m (M' := (gWr M A (.inr (11, oMod a s c)))) (gWr_id (hA)).symm) ?_
  refine EvF.go (go_m (M' := (gWr (gWr M A (.inr (11, oMod a s c))) (a 25) (aI G 26 K))) (gWr_id ((gRd_n _ _ (Ne.symm (hI.2 25))).trans (m25))).symm) ?_
  refine EvF.go (go_m (M' := (gWr (gWr (gWr M A (.inr (11, oMod a s c))) (a 25) (aI G 26 K)) (a 26) (aI G 26 E))) (gWr_id ((gRd_n _ _ (hI.n (i := 26) (j := 25) (by decide))).trans ((gRd_n _ _ (Ne.symm (hI.2 26))).trans (m26)))).symm) ?_
  refine EvF.go (go_m (M' := (gWr (gWr (gWr (gWr M A (.inr (11, oMod a s c))) (a 25) (aI G 26 K)) (a 26) (aI G 26 E)) (a 27) (aI G 26 B))) (gWr_id ((gRd_n _ _ (hI.n (i := 27) (j := 26) (by decide))).trans ((gRd_n _ _ (hI.n (i := 27) (j := 25) (by decide))).trans ((gRd_n _ _ (Ne.symm (hI.2 27))).trans (m27))))).symm) ?_
  refine EvF.gop 1 (go_aload_n d_Mod_findBreaks_0 rfl 0 rfl) rfl ?_
  refine EvF.gop 2 (go_iconst (v := nI 0) d_Mod_findBreaks_1 (rfl)) rfl ?_
  refine EvF.gop 5 (go_put (oMod a (upd s 28 (nI 0)) c) f_Mod_163 ft_Mod_28 d_Mod_findBreaks_2 ((gRd_n _ _ (hI.2 27)).trans ((gRd_n _ _ (hI.2 26)).trans ((gRd_n _ _ (hI.2 25)).trans (gRd_s _ _ _)))) rfl rfl (Nat.le_of_ble_eq_true rfl) rfl) rfl ?_
  refine EvF.go (go_m (M' := (gWr (gWr (gWr (gWr M A (.inr (11, oMod a (upd s 28 (nI 0)) c))) (a 25) (aI G 26 K)) (a 26) (aI G 26 E)) (a 27) (aI G 26 B))) ((gWr_cm (gWr (gWr (gWr M A (.inr (11, oMod a s c))) (a 25) (aI G 26 K)) (a 26) (aI G 26 E)) (aI G 26 B) (.inr (11, oMod a (upd s 28 (nI 0)) c)) (Ne.symm (hI.2 27))).trans (congrArg (fun mZ => gWr mZ (a 27) (aI G 26 B)) ((gWr_cm (gWr (gWr M A (.inr (11, oMod a s c))) (a 25) (aI G 26 K)) (aI G 26 E) (.inr (11, oMod a (upd s 28 (nI 0)) c)) (Ne.symm (hI.2 26))).trans (congrArg (fun mZ => gWr mZ (a 26) (aI G 26 E)) ((gWr_cm (gWr M A (.inr (11, oMod a s c))) (aI G 26 K) (.inr (11, oMod a (upd s 28 (nI 0)) c)) (Ne.symm (hI.2 25))).trans (congrArg (fun mZ => gWr mZ (a 25) (aI G 26 K)) (gWr_wr M A (.inr (11, oMod a s c)) (.inr (11, oMod a (upd s 28 (nI 0)) c)))))))))) ?_
  refine EvF.gop 6 (go_aload_n d_Mod_findBreaks_5 rfl 0 rfl) rfl ?_
  refine EvF.gop 9 (go_get f_Mod_65 d_Mod_findBreaks_6 ((gRd_n _ _ (hI.2 27)).trans ((gRd_n _ _ (hI.2 26)).trans ((gRd_n _ _ (hI.2 25)).trans (gRd_s _ _ _)))) rfl) rfl ?_
  refine EvF.gop 10 (go_iconst (v := 0) d_Mod_findBreaks_9 (by decide)) rfl ?_
  refine EvF.gop 11 (go_aload_n d_Mod_findBreaks_10 rfl 0 rfl) rfl ?_
  refine EvF.gop 14 (go_get f_Mod_71 d_Mod_findBreaks_11 ((gRd_n _ _ (hI.2 27)).trans ((gRd_n _ _ (hI.2 26)).trans ((gRd_n _ _ (hI.2 25)).trans (gRd_s _ _ _)))) rfl) rfl ?_
  refine EvF.gop 15 (go_iconst (v := 0) d_Mod_findBreaks_14 (by decide)) rfl ?_
  refine EvF.gop 16 (go_iconst (v := 0) d_Mod_findBreaks_15 (by decide)) rfl ?_
  refine EvF.gop 17 (go_dup_x2 d_Mod_findBreaks_16 rfl rfl rfl) rfl ?_
  refine EvF.gop 18 (go_iast (j := 0) d_Mod_findBreaks_17 (gRd_s _ _ _) (rfl) (by omega) (by omega)) rfl ?_
  refine EvF.go (go_m (M' := (gWr (gWr (gWr (gWr M A (.inr (11, oMod a (upd s 28 (nI 0)) c))) (a 25) (aI G 26 K)) (a 26) (aI G 26 E)) (a 27) (aI G 26 (upd B 0 0)))) (gWr_wr (gWr (gWr (gWr M A (.inr (11, oMod a (upd s 28 (nI 0)) c))) (a 25) (aI G 26 K)) (a 26) (aI G 26 E)) (a 27) (aI G 26 B) (aI G 26 (upd B 0 0)))) ?_
  refine EvF.gop 19 (go_iast (j := 0) d_Mod_findBreaks_18 ((gRd_n _ _ (hI.n (i := 25) (j := 27) (by decide))).trans ((gRd_n _ _ (hI.n (i := 25) (j := 26) (by decide))).trans (gRd_s _ _ _))) (rfl) (by omega) (by omega)) rfl ?_
  refine EvF.go (go_m (M' := (gWr (gWr (gWr (gWr M A (.inr (11, oMod a (upd s 28 (nI 0)) c))) (a 25) (aI G 26 (upd K 0 0))) (a 26) (aI G 26 E)) (a 27) (aI G 26 (upd B 0 0)))) ((gWr_cm (gWr (gWr (gWr M A (.inr (11, oMod a (upd s 28 (nI 0)) c))) (a 25) (aI G 26 K)) (a 26) (aI G 26 E)) (aI G 26 (upd B 0 0)) (aI G 26 (upd K 0 0)) (hI.n (i := 27) (j := 25) (by decide))).trans (congrArg (fun mZ => gWr mZ (a 27) (aI G 26 (upd B 0 0))) ((gWr_cm (gWr (gWr M A (.inr (11, oMod a (upd s 28 (nI 0)) c))) (a 25) (aI G 26 K)) (aI G 26 E) (aI G 26 (upd K 0 0)) (hI.n (i := 26) (j := 25) (by decide))).trans (congrArg (fun mZ => gWr mZ (a 26) (aI G 26 E)) (gWr_wr (gWr M A (.inr (11, oMod a (upd s 28 (nI 0)) c))) (a 25) (aI G 26 K) (aI G 26 (upd K 0 0)))))))) ?_
  refine EvF.gop 20 (go_iconst (v := nI 0) d_Mod_findBreaks_19 (rfl)) rfl ?_
  refine EvF.gop 21 (go_istore_n [(1, .int (nI 0)), (0, .ref A)] d_Mod_findBreaks_20 rfl (by decide) rfl) rfl ?_
  refine EvF.go (go_pick [1, 0] [(0, .ref A), (1, .int (nI 0))] rfl) ?_
  exact g_Mod_findBreaks G M A a s c ci pt n hI m17 m24 h22 hn n 0 (0, upd K 0 0, E, upd B 0 0) (by omega) (Nat.zero_le _)
