theorem tgF_le (l : Nat → Int32) : ∀ (r k d an : Nat) (ar : Nat → Int32), k + r = 200 → an < k → (tgF l r k d an ar).2.1 ≤ 200 ∧ (tgF l r k d an ar).2.2.1 < 200 + 1 := by
  intro r
  induction r with
  | zero => intro k d an ar h1 h2; exact ⟨by show k ≤ 200; omega, by show an < 201; omega⟩
  | succ r ih =>
    intro k d an ar h1 h2
    rw [tgF]
    generalize (if l k = 123 then d + 1 else if l k = 125 then d - 1 else d) = d2
    split
    · exact ⟨by show k + 1 ≤ 200; omega, by show an < 201; omega⟩
    · exact ih (k + 1) _ (an + 1) _ (by omega) (by omega)
/-- an argument is taken off: whether there is one, the new front, its length and its characters -/
def taF (f : Nat) (l ar : Nat → Int32) : Bool × Nat × Nat × (Nat → Int32) :=
  if f = 200 then (false, f, 0, ar) else if l f = 125 then (false, f, 0, ar)
  else if l f = 123 then ((tgF l (200 - (f + 1)) (f + 1) 1 0 ar).1, (if (tgF l (200 - (f + 1)) (f + 1) 1 0 ar).1 = true then (tgF l (200 - (f + 1)) (f + 1) 1 0 ar).2.1 else f + 1), (tgF l (200 - (f + 1)) (f + 1) 1 0 ar).2.2.1, (tgF l (200 - (f + 1)) (f + 1) 1 0 ar).2.2.2)
  else (true, f + 1, 1, upd ar 0 (l f))
theorem taF_le {f : Nat} {l ar : Nat → Int32} (h : f ≤ 200) : (taF f l ar).2.1 ≤ 200 ∧ (taF f l ar).2.2.1 ≤ 200 := by
  unfold taF
  split
  · exact ⟨h, by show 0 ≤ 200; omega⟩
  · split
    · exact ⟨h, by show 0 ≤ 200; omega⟩
    · split
      · have := tgF_le l (200 - (f + 1)) (f + 1) 1 0 ar (by omega) (by omega)
        refine ⟨?_, by show (tgF l (200 - (f + 1)) (f + 1) 1 0 ar).2.2.1 ≤ 200; omega⟩
        show (if (tgF l (200 - (f + 1)) (f + 1) 1 0 ar).1 = true then (tgF l (200 - (f + 1)) (f + 1) 1 0 ar).2.1 else f + 1) ≤ 200
        split <;> omega
      · exact ⟨by show f + 1 ≤ 200; omega, by show 1 ≤ 200; omega⟩
theorem e_Exp_takeGroup (G : gG) (M : gM) (x xm xl xg xga xo : Nat) (f o cl an : Nat) (sp : Int32) (l ar os : Nat → Int32) (hN : va_nd [x, xl, xg, xga, xo] = true) (hf : f ≤ 200) (han : an < f) : Ev G 1 m_Exp_takeGroup [.ref x] (gWr (gWr (gWr (gWr (gWr M x (.inr (2, [.ref xm, .ref xl, .int (nI f), .ref xg, .ref xo, .int (nI o), .int sp, .int (nI cl)]))) xl (aI G 200 l)) xg (.inr (0, [.ref xga, .int (nI an)]))) xga (aI G 200 ar)) xo (aI G 8 os)) (some (.int (bI (tgF l (200 - f) f 1 an ar).1))) (gWr (gWr (gWr (gWr (gWr M x (.inr (2, [.ref xm, .ref xl, .int (nI ((if (tgF l (200 - f) f 1 an ar).1 = true then (tgF l (200 - f) f 1 an ar).2.1 else f))), .ref xg, .ref xo, .int (nI o), .int sp, .int (nI cl)]))) xl (aI G 200 l)) xg (.inr (0, [.ref xga, .int (nI ((tgF l (200 - f) f 1 an ar).2.2.1))]))) xga (aI G 200 ((tgF l (200 - f) f 1 an ar).2.2.2))) xo (aI G 8 os)) := by
  refine Ev.of (Nat.le_of_ble_eq_true rfl) ?_
  show EvF G 1 m_Exp_takeGroup (0, [(0, .ref x)], [], (gWr (gWr (gWr (gWr (gWr M x (.inr (2, [.ref xm, .ref xl, .int (nI f), .ref xg, .ref xo, .int (nI o), .int sp, .int (nI cl)]))) xl (aI G 200 l)) xg (.inr (0, [.ref xga, .int (nI an)]))) xga (aI G 200 ar)) xo (aI G 8 os))) _ _
  refine EvF.gop 1 (go_iconst (v := nI 1) d_Exp_takeGroup_0 (rfl)) rfl ?_
  refine EvF.gop 2 (go_istore_n [(1, .int (nI 1)), (0, .ref x)] d_Exp_takeGroup_1 rfl (by decide) rfl) rfl ?_
  refine EvF.go (go_pick [1, 0] [(0, .ref x), (1, .int (nI 1))] rfl) ?_
  refine EvF.gop 3 (go_aload_n d_Exp_takeGroup_2 rfl 0 rfl) rfl ?_
  refine EvF.gop 6 (go_get f_Exp_60 d_Exp_takeGroup_3 ((gRd_n _ _ (ndN hN 0 4 rfl rfl (by decide))).trans ((gRd_n _ _ (ndN hN 0 3 rfl rfl (by decide))).trans ((gRd_n _ _ (ndN hN 0 2 rfl rfl (by decide))).trans ((gRd_n _ _ (ndN hN 0 1 rfl rfl (by decide))).trans (gRd_s _ _ _))))) rfl) rfl ?_
  refine EvF.gop 7 (go_istore_n [(2, .int (nI f)), (0, .ref x), (1, .int (nI 1))] d_Exp_takeGroup_6 rfl (by decide) rfl) rfl ?_
  refine EvF.go (go_pick [1, 2, 0] [(0, .ref x), (1, .int (nI 1)), (2, .int (nI f))] rfl) ?_
  exact g_Exp_takeGroup G M x xm xl xg xga xo f o cl sp l os hN (200 - f) f 1 an ar (by omega) (by omega) (by omega) han
theorem e_Exp_takeArgument (G : gG) (M : gM) (x xm xl xg xga xo : Nat) (f o cl an : Nat) (sp : Int32) (l ar os : Nat → Int32) (hN : va_nd [x, xl, xg, xga, xo] = true) (hf : f ≤ 200) : Ev G 2 m_Exp_takeArgument [.ref x] (gWr (gWr (gWr (gWr (gWr M x (.inr (2, [.ref xm, .ref xl, .int (nI f), .ref xg, .ref xo, .int (nI o), .int sp, .int (nI cl)]))) xl (aI G 200 l)) xg (.inr (0, [.ref xga, .int (nI an)]))) xga (aI G 200 ar)) xo (aI G 8 os)) (some (.int (bI (taF f l ar).1))) (gWr (gWr (gWr (gWr (gWr M x (.inr (2, [.ref xm, .ref xl, .int (nI ((taF f l ar).2.1)), .ref xg, .ref xo, .int (nI o), .int sp, .int (nI cl)]))) xl (aI G 200 l)) xg (.inr (0, [.ref xga, .int (nI ((taF f l ar).2.2.1))]))) xga (aI G 200 ((taF f l ar).2.2.2))) xo (aI G 8 os)) := by
  refine Ev.of (Nat.le_of_ble_eq_true rfl) ?_
  show EvF G 2 m_Exp_takeArgument (0, [(0, .ref x)], [], (gWr (gWr (gWr (gWr (gWr M x (.inr (2, [.ref xm, .ref xl, .int (nI f), .ref xg, .ref xo, .int (nI o), .int sp, .int (nI cl)]))) xl (aI G 200 l)) xg (.inr (0, [.ref xga, .int (nI an)]))) xga (aI G 200 ar)) xo (aI G 8 os))) _ _
  refine EvF.gop 1 (go_aload_n d_Exp_takeArgument_0 rfl 0 rfl) rfl ?_
  refine EvF.gop 4 (go_get f_Exp_26 d_Exp_takeArgument_1 ((gRd_n _ _ (ndN hN 0 4 rfl rfl (by decide))).trans ((gRd_n _ _ (ndN hN 0 3 rfl rfl (by decide))).trans ((gRd_n _ _ (ndN hN 0 2 rfl rfl (by decide))).trans ((gRd_n _ _ (ndN hN 0 1 rfl rfl (by decide))).trans (gRd_s _ _ _))))) rfl) rfl ?_
  refine EvF.gop 7 (go_callV [] [] c0_Row_clear im_Row_clear se_Row_clear lk_Exp_116 d_Exp_takeArgument_4 rfl rfl ((gRd_n _ _ (ndN hN 2 4 rfl rfl (by decide))).trans ((gRd_n _ _ (ndN hN 2 3 rfl rfl (by decide))).trans (gRd_s _ _ _))) (e_Row_clear G _ xg xga (nI an) ((gRd_n _ _ (ndN hN 2 4 rfl rfl (by decide))).trans ((gRd_n _ _ (ndN hN 2 3 rfl rfl (by decide))).trans (gRd_s _ _ _)))) (by decide) rfl rfl (Nat.le_of_ble_eq_true rfl) rfl) rfl ?_
  refine EvF.go (go_m (M' := (gWr (gWr (gWr (gWr (gWr M x (.inr (2, [.ref xm, .ref xl, .int (nI f), .ref xg, .ref xo, .int (nI o), .int sp, .int (nI cl)]))) xl (aI G 200 l)) xg (.inr (0, [.ref xga, .int (nI 0)]))) xga (aI G 200 ar)) xo (aI G 8 os))) ((gWr_cm (gWr (gWr (gWr (gWr M x (.inr (2, [.ref xm, .ref xl, .int (nI f), .ref xg, .ref xo, .int (nI o), .int sp, .int (nI cl)]))) xl (aI G 200 l)) xg (.inr (0, [.ref xga, .int (nI an)]))) xga (aI G 200 ar)) (aI G 8 os) (.inr (0, [.ref xga, .int (nI 0)])) (Ne.symm (ndN hN 2 4 rfl rfl (by decide)))).trans (congrArg (fun m => gWr m xo (aI G 8 os)) ((gWr_cm (gWr (gWr (gWr M x (.inr (2, [.ref xm, .ref xl, .int (nI f), .ref xg, .ref xo, .int (nI o), .int sp, .int (nI cl)]))) xl (aI G 200 l)) xg (.inr (0, [.ref xga, .int (nI an)]))) (aI G 200 ar) (.inr (0, [.ref xga, .int (nI 0)])) (Ne.symm (ndN hN 2 3 rfl rfl (by decide)))).trans (congrArg (fun m => gWr m xga (aI G 200 ar)) (gWr_wr (gWr (gWr M x (.inr (2, [.ref xm, .ref xl, .int (nI f), .ref xg, .ref xo, .int (nI o), .int sp, .int (nI cl)]))) xl (aI G 200 l)) xg (.inr (0, [.ref xga, .int (nI an)])) (.inr (0, [.ref xga, .int (nI 0)])))))))) ?_
  refine EvF.gop 8 (go_aload_n d_Exp_takeArgument_7 rfl 0 rfl) rfl ?_
  refine EvF.gop 11 (go_callV [] [.int (bI (decide (f = 200)))] c0_Exp_isListEmpty im_Exp_isListEmpty se_Exp_isListEmpty lk_Exp_44 d_Exp_takeArgument_8 rfl rfl ((gRd_n _ _ (ndN hN 0 4 rfl rfl (by decide))).trans ((gRd_n _ _ (ndN hN 0 3 rfl rfl (by decide))).trans ((gRd_n _ _ (ndN hN 0 2 rfl rfl (by decide))).trans ((gRd_n _ _ (ndN hN 0 1 rfl rfl (by decide))).trans (gRd_s _ _ _))))) (e_Exp_isListEmpty G M x xm xl xg xga xo f o cl 0 sp l ar os hN (by omega)) (by decide) rfl rfl (Nat.le_of_ble_eq_true rfl) rfl) rfl ?_
  by_cases c1 : (bI (decide (f = 200))) = 0
  · have c1x : (decide (f = 200)) = false := bI_0.mp c1
    refine EvF.gop 14 (go_if_ne_f 28 d_Exp_takeArgument_11 (by decide) (c1)) rfl ?_
    refine EvF.gop 15 (go_aload_n d_Exp_takeArgument_14 rfl 0 rfl) rfl ?_
    refine EvF.gop 18 (go_get f_Exp_17 d_Exp_takeArgument_15 ((gRd_n _ _ (ndN hN 0 4 rfl rfl (by decide))).trans ((gRd_n _ _ (ndN hN 0 3 rfl rfl (by decide))).trans ((gRd_n _ _ (ndN hN 0 2 rfl rfl (by decide))).trans ((gRd_n _ _ (ndN hN 0 1 rfl rfl (by decide))).trans (gRd_s _ _ _))))) rfl) rfl ?_
    refine EvF.gop 19 (go_aload_n d_Exp_takeArgument_18 rfl 0 rfl) rfl ?_
    refine EvF.gop 22 (go_get f_Exp_60 d_Exp_takeArgument_19 ((gRd_n _ _ (ndN hN 0 4 rfl rfl (by decide))).trans ((gRd_n _ _ (ndN hN 0 3 rfl rfl (by decide))).trans ((gRd_n _ _ (ndN hN 0 2 rfl rfl (by decide))).trans ((gRd_n _ _ (ndN hN 0 1 rfl rfl (by decide))).trans (gRd_s _ _ _))))) rfl) rfl ?_
    refine EvF.gop 23 (go_iald (j := f) d_Exp_takeArgument_22 ((gRd_n _ _ (ndN hN 1 4 rfl rfl (by decide))).trans ((gRd_n _ _ (ndN hN 1 3 rfl rfl (by decide))).trans ((gRd_n _ _ (ndN hN 1 2 rfl rfl (by decide))).trans (gRd_s _ _ _)))) (rfl) (by have := of_decide_eq_false c1x; omega) (by omega)) rfl ?_
    refine EvF.gop 25 (go_bipush (v := 125) d_Exp_takeArgument_23 (by decide)) rfl ?_
    by_cases c2 : (l f) = 125
    · refine EvF.gop 28 (go_icmp_ne_f 30 d_Exp_takeArgument_25 (by decide) (c2)) rfl ?_
      refine EvF.gop 29 (go_iconst (v := 0) d_Exp_takeArgument_28 (by decide)) rfl ?_
      rw [show (taF f l ar) = (false, f, 0, ar) from by unfold taF; first | rw [if_pos (of_decide_eq_true c1x)] | rw [if_neg (of_decide_eq_false c1x), if_pos (by assumption)]]
      exact EvF.rz d_Exp_takeArgument_29 rfl (by decide) rfl rfl
    · refine EvF.gop 30 (go_icmp_ne_t 30 d_Exp_takeArgument_25 (by decide) (c2)) rfl ?_
      refine EvF.gop 31 (go_aload_n d_Exp_takeArgument_30 rfl 0 rfl) rfl ?_
      refine EvF.gop 34 (go_callV [] [.int (l f)] c0_Exp_takeOff im_Exp_takeOff se_Exp_takeOff lk_Exp_48 d_Exp_takeArgument_31 rfl rfl ((gRd_n _ _ (ndN hN 0 4 rfl rfl (by decide))).trans ((gRd_n _ _ (ndN hN 0 3 rfl rfl (by decide))).trans ((gRd_n _ _ (ndN hN 0 2 rfl rfl (by decide))).trans ((gRd_n _ _ (ndN hN 0 1 rfl rfl (by decide))).trans (gRd_s _ _ _))))) (e_Exp_takeOff G M x xm xl xg xga xo f o cl 0 sp l ar os hN (by have := of_decide_eq_false c1x; omega)) (by decide) rfl rfl (Nat.le_of_ble_eq_true rfl) rfl) rfl ?_
      refine EvF.gop 35 (go_istore_n [(1, .int (l f)), (0, .ref x)] d_Exp_takeArgument_34 rfl (by decide) rfl) rfl ?_
      refine EvF.go (go_pick [1, 0] [(0, .ref x), (1, .int (l f))] rfl) ?_
      refine EvF.gop 36 (go_iload_n d_Exp_takeArgument_35 rfl 1 rfl) rfl ?_
      refine EvF.gop 38 (go_bipush (v := 123) d_Exp_takeArgument_36 (by decide)) rfl ?_
      by_cases c3 : (l f) = 123
      · refine EvF.gop 41 (go_icmp_ne_f 46 d_Exp_takeArgument_38 (by decide) (c3)) rfl ?_
        refine EvF.gop 42 (go_aload_n d_Exp_takeArgument_41 rfl 0 rfl) rfl ?_
        refine EvF.gop 45 (go_callV [] [.int (bI (tgF l (200 - (f + 1)) (f + 1) 1 0 ar).1)] c0_Exp_takeGroup im_Exp_takeGroup se_Exp_takeGroup lk_Exp_119 d_Exp_takeArgument_42 rfl rfl ((gRd_n _ _ (ndN hN 0 4 rfl rfl (by decide))).trans ((gRd_n _ _ (ndN hN 0 3 rfl rfl (by decide))).trans ((gRd_n _ _ (ndN hN 0 2 rfl rfl (by decide))).trans ((gRd_n _ _ (ndN hN 0 1 rfl rfl (by decide))).trans (gRd_s _ _ _))))) (e_Exp_takeGroup G M x xm xl xg xga xo (f + 1) o cl 0 sp l ar os hN (by have := of_decide_eq_false c1x; omega) (by omega)) (by decide) rfl rfl (Nat.le_of_ble_eq_true rfl) rfl) rfl ?_
        rw [show (taF f l ar) = ((tgF l (200 - (f + 1)) (f + 1) 1 0 ar).1, (if (tgF l (200 - (f + 1)) (f + 1) 1 0 ar).1 = true then (tgF l (200 - (f + 1)) (f + 1) 1 0 ar).2.1 else f + 1), (tgF l (200 - (f + 1)) (f + 1) 1 0 ar).2.2.1, (tgF l (200 - (f + 1)) (f + 1) 1 0 ar).2.2.2) from by unfold taF; rw [if_neg (of_decide_eq_false c1x), if_neg (by assumption), if_pos (by assumption)]]
        exact EvF.rz d_Exp_takeArgument_45 rfl (bI_01 _) rfl rfl
      · refine EvF.gop 46 (go_icmp_ne_t 46 d_Exp_takeArgument_38 (by decide) (c3)) rfl ?_
        refine EvF.gop 47 (go_aload_n d_Exp_takeArgument_46 rfl 0 rfl) rfl ?_
        refine EvF.gop 50 (go_get f_Exp_26 d_Exp_takeArgument_47 ((gRd_n _ _ (ndN hN 0 4 rfl rfl (by decide))).trans ((gRd_n _ _ (ndN hN 0 3 rfl rfl (by decide))).trans ((gRd_n _ _ (ndN hN 0 2 rfl rfl (by decide))).trans ((gRd_n _ _ (ndN hN 0 1 rfl rfl (by decide))).trans (gRd_s _ _ _))))) rfl) rfl ?_
        refine EvF.gop 51 (go_iload_n d_Exp_takeArgument_50 rfl 1 rfl) rfl ?_
        refine EvF.gop 54 (go_callV [.int (l f)] [] c0_Row_add im_Row_add se_Row_add lk_Exp_122 d_Exp_takeArgument_51 rfl rfl ((gRd_n _ _ (ndN hN 2 4 rfl rfl (by decide))).trans ((gRd_n _ _ (ndN hN 2 3 rfl rfl (by decide))).trans (gRd_s _ _ _))) (e_Row_add G _ xg xga 200 0 ar (l f) ((gRd_n _ _ (ndN hN 2 4 rfl rfl (by decide))).trans ((gRd_n _ _ (ndN hN 2 3 rfl rfl (by decide))).trans (gRd_s _ _ _))) ((gRd_n _ _ (ndN hN 3 4 rfl rfl (by decide))).trans (gRd_s _ _ _)) (by decide) (by decide)) (by decide) rfl rfl (Nat.le_of_ble_eq_true rfl) rfl) rfl ?_
        refine EvF.go (go_m (M' := (gWr (gWr (gWr (gWr (gWr M x (.inr (2, [.ref xm, .ref xl, .int (nI (f + 1)), .ref xg, .ref xo, .int (nI o), .int sp, .int (nI cl)]))) xl (aI G 200 l)) xg (.inr (0, [.ref xga, .int (nI (0 + 1))]))) xga (aI G 200 (upd ar 0 (l f)))) xo (aI G 8 os))) ((congrArg (fun m => gWr m xg (.inr (0, [.ref xga, .int (nI (0 + 1))]))) ((gWr_cm (gWr (gWr (gWr (gWr M x (.inr (2, [.ref xm, .ref xl, .int (nI (f + 1)), .ref xg, .ref xo, .int (nI o), .int sp, .int (nI cl)]))) xl (aI G 200 l)) xg (.inr (0, [.ref xga, .int (nI 0)]))) xga (aI G 200 ar)) (aI G 8 os) (aI G 200 (upd ar 0 (l f))) (Ne.symm (ndN hN 3 4 rfl rfl (by decide)))).trans (congrArg (fun m => gWr m xo (aI G 8 os)) (gWr_wr (gWr (gWr (gWr M x (.inr (2, [.ref xm, .ref xl, .int (nI (f + 1)), .ref xg, .ref xo, .int (nI o), .int sp, .int (nI cl)]))) xl (aI G 200 l)) xg (.inr (0, [.ref xga, .int (nI 0)]))) xga (aI G 200 ar) (aI G 200 (upd ar 0 (l f))))))).trans ((gWr_cm (gWr (gWr (gWr (gWr M x (.inr (2, [.ref xm, .ref xl, .int (nI (f + 1)), .ref xg, .ref xo, .int (nI o), .int sp, .int (nI cl)]))) xl (aI G 200 l)) xg (.inr (0, [.ref xga, .int (nI 0)]))) xga (aI G 200 (upd ar 0 (l f)))) (aI G 8 os) (.inr (0, [.ref xga, .int (nI (0 + 1))])) (Ne.symm (ndN hN 2 4 rfl rfl (by decide)))).trans (congrArg (fun m => gWr m xo (aI G 8 os)) ((gWr_cm (gWr (gWr (gWr M x (.inr (2, [.ref xm, .ref xl, .int (nI (f + 1)), .ref xg, .ref xo, .int (nI o), .int sp, .int (nI cl)]))) xl (aI G 200 l)) xg (.inr (0, [.ref xga, .int (nI 0)]))) (aI G 200 (upd ar 0 (l f))) (.inr (0, [.ref xga, .int (nI (0 + 1))])) (Ne.symm (ndN hN 2 3 rfl rfl (by decide)))).trans (congrArg (fun m => gWr m xga (aI G 200 (upd ar 0 (l f)))) (gWr_wr (gWr (gWr M x (.inr (2, [.ref xm, .ref xl, .int (nI (f + 1)), .ref xg, .ref xo, .int (nI o), .int sp, .int (nI cl)]))) xl (aI G 200 l)) xg (.inr (0, [.ref xga, .int (nI 0)])) (.inr (0, [.ref xga, .int (nI (0 + 1))]))))))))) ?_
        refine EvF.gop 55 (go_iconst (v := 1) d_Exp_takeArgument_54 (by decide)) rfl ?_
        rw [show (taF f l ar) = (true, f + 1, 1, upd ar 0 (l f)) from by unfold taF; rw [if_neg (of_decide_eq_false c1x), if_neg (by assumption), if_neg (by assumption)]]
        exact EvF.rz d_Exp_takeArgument_55 rfl (by decide) rfl rfl
  · have c1x : (decide (f = 200)) = true := bI_n0.mp c1
    refine EvF.gop 28 (go_if_ne_t 28 d_Exp_takeArgument_11 (by decide) (c1)) rfl ?_
    refine EvF.gop 29 (go_iconst (v := 0) d_Exp_takeArgument_28 (by decide)) rfl ?_
    rw [show (taF f l ar) = (false, f, 0, ar) from by unfold taF; first | rw [if_pos (of_decide_eq_true c1x)] | rw [if_neg (of_decide_eq_false c1x), if_pos (by assumption)]]
    exact EvF.rz d_Exp_takeArgument_29 rfl (by decide) rfl rfl
def exL (bd : Nat → Int32) (an : Nat) : Nat → Nat
  | 0 => 0
  | k + 1 => exL bd an k + (if bd k = 35 then an else 1)
theorem exL_mono (bd : Nat → Int32) (an : Nat) : ∀ (r k : Nat), exL bd an k ≤ exL bd an (k + r)
  | 0, k => Nat.le_refl _
  | r + 1, k => Nat.le_trans (exL_mono bd an r k) (by show _ ≤ exL bd an (k + r) + _; omega)
theorem exL_eq (bd : Nat → Int32) (an : Nat) : ∀ k, exL bd an k + cntI bd 35 k = k + cntI bd 35 k * an
  | 0 => by simp [exL, cntI]
  | k + 1 => by
    have h := exL_eq bd an k
    by_cases hc : bd k = 35
    · simp only [exL, cntI, hc, if_true]
      rw [Nat.add_mul]; omega
    · simp only [exL, cntI, hc, if_false, Nat.add_zero]
      omega
def piF (bd : Nat → Int32) (an : Nat) (ar : Nat → Int32) (f : Nat) (l : Nat → Int32) : Nat → Nat × (Nat → Int32)
  | 0 => (f, l)
  | k + 1 => if bd k = 35 then ((piF bd an ar f l k).1 + an, wrB (piF bd an ar f l k).2 (piF bd an ar f l k).1 ar an) else ((piF bd an ar f l k).1 + 1, upd (piF bd an ar f l k).2 (piF bd an ar f l k).1 (bd k))
theorem piF_1 (bd : Nat → Int32) (an : Nat) (ar : Nat → Int32) (f : Nat) (l : Nat → Int32) : ∀ k, (piF bd an ar f l k).1 = f + exL bd an k
  | 0 => rfl
  | k + 1 => by
    have h := piF_1 bd an ar f l k
    by_cases hc : bd k = 35
    · simp only [piF, exL, hc, if_true, h]; omega
    · simp only [piF, exL, hc, if_false, h]; omega
theorem g_Exp_pif1 (G : gG) (M : gM) (x xm xl xg xga xo : Nat) (f o cl an : Nat) (sp : Int32) (l ar os : Nat → Int32) (b br bn : Nat) (bd : Nat → Int32) (q : Nat) (x3 : Int32) (hN : va_nd [x, xl, xg, xga, xo] = true) (b1 : gRd M b = some (.inr (0, [.ref br, .int (nI bn)]))) (b2 : gRd M br = some (aI G 24 bd)) (hB : ∀ y ∈ [x, xl, xg, xga, xo], b ≠ y) (hB2 : ∀ y ∈ [x, xl, xg, xga, xo], br ≠ y) (hbn : bn ≤ 24) (han : an ≤ 200) (hq : q + an ≤ 200) : ∀ r k : Nat, k + r = an → Go G m_Exp_putInFront 0 (29, [(0, .ref x), (1, .ref b), (2, .int (nI q)), (3, .int x3), (4, .int (nI k))], [], (gWr (gWr (gWr (gWr (gWr M x (.inr (2, [.ref xm, .ref xl, .int (nI f), .ref xg, .ref xo, .int (nI o), .int sp, .int (nI cl)]))) xl (aI G 200 (wrB l q ar k))) xg (.inr (0, [.ref xga, .int (nI an)]))) xga (aI G 200 ar)) xo (aI G 8 os))) (66, [(0, .ref x), (1, .ref b), (2, .int (nI q)), (3, .int x3), (4, .int (nI an))], [], (gWr (gWr (gWr (gWr (gWr M x (.inr (2, [.ref xm, .ref xl, .int (nI f), .ref xg, .ref xo, .int (nI o), .int sp, .int (nI cl)]))) xl (aI G 200 (wrB l q ar an))) xg (.inr (0, [.ref xga, .int (nI an)]))) xga (aI G 200 ar)) xo (aI G 8 os))) := by
  intro r
  induction r with
  | zero =>
    intro k hk
    rw [show k = an from by omega]
    refine Go.trp 31 (go_iload d_Exp_putInFront_29 4 rfl) rfl ?_
    refine Go.trp 32 (go_aload_n d_Exp_putInFront_31 rfl 0 rfl) rfl ?_
    refine Go.trp 35 (go_get f_Exp_26 d_Exp_putInFront_32 ((gRd_n _ _ (ndN hN 0 4 rfl rfl (by decide))).trans ((gRd_n _ _ (ndN hN 0 3 rfl rfl (by decide))).trans ((gRd_n _ _ (ndN hN 0 2 rfl rfl (by decide))).trans ((gRd_n _ _ (ndN hN 0 1 rfl rfl (by decide))).trans (gRd_s _ _ _))))) rfl) rfl ?_
    refine Go.trp 38 (go_get f_Exp_59 d_Exp_putInFront_35 ((gRd_n _ _ (ndN hN 2 4 rfl rfl (by decide))).trans ((gRd_n _ _ (ndN hN 2 3 rfl rfl (by decide))).trans (gRd_s _ _ _))) rfl) rfl ?_
    refine Go.trp 66 (go_icmp_ge_t 66 d_Exp_putInFront_38 (by decide) (nI_le (Nat.le_refl an) (by omega))) rfl ?_
    exact Go.rf
  | succ r ih =>
    intro k hk
    refine Go.trp 31 (go_iload d_Exp_putInFront_29 4 rfl) rfl ?_
    refine Go.trp 32 (go_aload_n d_Exp_putInFront_31 rfl 0 rfl) rfl ?_
    refine Go.trp 35 (go_get f_Exp_26 d_Exp_putInFront_32 ((gRd_n _ _ (ndN hN 0 4 rfl rfl (by decide))).trans ((gRd_n _ _ (ndN hN 0 3 rfl rfl (by decide))).trans ((gRd_n _ _ (ndN hN 0 2 rfl rfl (by decide))).trans ((gRd_n _ _ (ndN hN 0 1 rfl rfl (by decide))).trans (gRd_s _ _ _))))) rfl) rfl ?_
    refine Go.trp 38 (go_get f_Exp_59 d_Exp_putInFront_35 ((gRd_n _ _ (ndN hN 2 4 rfl rfl (by decide))).trans ((gRd_n _ _ (ndN hN 2 3 rfl rfl (by decide))).trans (gRd_s _ _ _))) rfl) rfl ?_
    refine Go.trp 41 (go_icmp_ge_f 66 d_Exp_putInFront_38 (by decide) (nI_ge (by omega) (by omega))) rfl ?_
    refine Go.trp 42 (go_aload_n d_Exp_putInFront_41 rfl 0 rfl) rfl ?_
    refine Go.trp 45 (go_get f_Exp_17 d_Exp_putInFront_42 ((gRd_n _ _ (ndN hN 0 4 rfl rfl (by decide))).trans ((gRd_n _ _ (ndN hN 0 3 rfl rfl (by decide))).trans ((gRd_n _ _ (ndN hN 0 2 rfl rfl (by decide))).trans ((gRd_n _ _ (ndN hN 0 1 rfl rfl (by decide))).trans (gRd_s _ _ _))))) rfl) rfl ?_
    refine Go.trp 46 (go_iload_n d_Exp_putInFront_45 rfl 2 rfl) rfl ?_
    refine Go.trp 48 (go_iload d_Exp_putInFront_46 4 rfl) rfl ?_
    refine Go.trp 49 (go_iadd d_Exp_putInFront_48) rfl ?_
    refine (go_v (y := nI (q + k)) (nI_add _ _)).tr ?_
    refine Go.trp 50 (go_aload_n d_Exp_putInFront_49 rfl 0 rfl) rfl ?_
    refine Go.trp 53 (go_get f_Exp_26 d_Exp_putInFront_50 ((gRd_n _ _ (ndN hN 0 4 rfl rfl (by decide))).trans ((gRd_n _ _ (ndN hN 0 3 rfl rfl (by decide))).trans ((gRd_n _ _ (ndN hN 0 2 rfl rfl (by decide))).trans ((gRd_n _ _ (ndN hN 0 1 rfl rfl (by decide))).trans (gRd_s _ _ _))))) rfl) rfl ?_
    refine Go.trp 56 (go_get f_Exp_63 d_Exp_putInFront_53 ((gRd_n _ _ (ndN hN 2 4 rfl rfl (by decide))).trans ((gRd_n _ _ (ndN hN 2 3 rfl rfl (by decide))).trans (gRd_s _ _ _))) rfl) rfl ?_
    refine Go.trp 58 (go_iload d_Exp_putInFront_56 4 rfl) rfl ?_
    refine Go.trp 59 (go_iald (j := k) d_Exp_putInFront_58 ((gRd_n _ _ (ndN hN 3 4 rfl rfl (by decide))).trans (gRd_s _ _ _)) (rfl) (by omega) (by omega)) rfl ?_
    refine Go.trp 60 (go_iast (j := (q + k)) d_Exp_putInFront_59 ((gRd_n _ _ (ndN hN 1 4 rfl rfl (by decide))).trans ((gRd_n _ _ (ndN hN 1 3 rfl rfl (by decide))).trans ((gRd_n _ _ (ndN hN 1 2 rfl rfl (by decide))).trans (gRd_s _ _ _)))) (rfl) (by omega) (by omega)) rfl ?_
    refine (go_m (M' := (gWr (gWr (gWr (gWr (gWr M x (.inr (2, [.ref xm, .ref xl, .int (nI f), .ref xg, .ref xo, .int (nI o), .int sp, .int (nI cl)]))) xl (aI G 200 (upd (wrB l q ar k) (q + k) (ar k)))) xg (.inr (0, [.ref xga, .int (nI an)]))) xga (aI G 200 ar)) xo (aI G 8 os))) ((gWr_cm (gWr (gWr (gWr (gWr M x (.inr (2, [.ref xm, .ref xl, .int (nI f), .ref xg, .ref xo, .int (nI o), .int sp, .int (nI cl)]))) xl (aI G 200 (wrB l q ar k))) xg (.inr (0, [.ref xga, .int (nI an)]))) xga (aI G 200 ar)) (aI G 8 os) (aI G 200 (upd (wrB l q ar k) (q + k) (ar k))) (Ne.symm (ndN hN 1 4 rfl rfl (by decide)))).trans (congrArg (fun m => gWr m xo (aI G 8 os)) ((gWr_cm (gWr (gWr (gWr M x (.inr (2, [.ref xm, .ref xl, .int (nI f), .ref xg, .ref xo, .int (nI o), .int sp, .int (nI cl)]))) xl (aI G 200 (wrB l q ar k))) xg (.inr (0, [.ref xga, .int (nI an)]))) (aI G 200 ar) (aI G 200 (upd (wrB l q ar k) (q + k) (ar k))) (Ne.symm (ndN hN 1 3 rfl rfl (by decide)))).trans (congrArg (fun m => gWr m xga (aI G 200 ar)) ((gWr_cm (gWr (gWr M x (.inr (2, [.ref xm, .ref xl, .int (nI f), .ref xg, .ref xo, .int (nI o), .int sp, .int (nI cl)]))) xl (aI G 200 (wrB l q ar k))) (.inr (0, [.ref xga, .int (nI an)])) (aI G 200 (upd (wrB l q ar k) (q + k) (ar k))) (Ne.symm (ndN hN 1 2 rfl rfl (by decide)))).trans (congrArg (fun m => gWr m xg (.inr (0, [.ref xga, .int (nI an)]))) (gWr_wr (gWr M x (.inr (2, [.ref xm, .ref xl, .int (nI f), .ref xg, .ref xo, .int (nI o), .int sp, .int (nI cl)]))) xl (aI G 200 (wrB l q ar k)) (aI G 200 (upd (wrB l q ar k) (q + k) (ar k))))))))))).tr ?_
    refine Go.trp 63 (go_inc1 (n0 := 4) (x := k) [(4, .int (nI (k + 1))), (0, .ref x), (1, .ref b), (2, .int (nI q)), (3, .int x3)] d_Exp_putInFront_60 rfl (by decide) rfl) rfl ?_
    refine (go_pick [1, 2, 3, 4, 0] [(0, .ref x), (1, .ref b), (2, .int (nI q)), (3, .int x3), (4, .int (nI (k + 1)))] rfl).tr ?_
    refine Go.trp 29 (go_goto 29 d_Exp_putInFront_63 (by decide)) rfl ?_
    rw [wrB_s]
    exact ih (k + 1) (by omega)
theorem g_Exp_pif2 (G : gG) (M : gM) (x xm xl xg xga xo : Nat) (f o cl an : Nat) (sp : Int32) (l ar os : Nat → Int32) (b br bn : Nat) (bd : Nat → Int32) (hN : va_nd [x, xl, xg, xga, xo] = true) (b1 : gRd M b = some (.inr (0, [.ref br, .int (nI bn)]))) (b2 : gRd M br = some (aI G 24 bd)) (hB : ∀ y ∈ [x, xl, xg, xga, xo], b ≠ y) (hB2 : ∀ y ∈ [x, xl, xg, xga, xo], br ≠ y) (hbn : bn ≤ 24) (han : an ≤ 200) (hq : f + exL bd an bn ≤ 200) : ∀ r k : Nat, k + r = bn → Go G m_Exp_putInFront 0 (7, [(0, .ref x), (1, .ref b), (2, .int (nI (piF bd an ar f l k).1)), (3, .int (nI k))], [], (gWr (gWr (gWr (gWr (gWr M x (.inr (2, [.ref xm, .ref xl, .int (nI f), .ref xg, .ref xo, .int (nI o), .int sp, .int (nI cl)]))) xl (aI G 200 ((piF bd an ar f l k).2))) xg (.inr (0, [.ref xga, .int (nI an)]))) xga (aI G 200 ar)) xo (aI G 8 os))) (100, [(0, .ref x), (1, .ref b), (2, .int (nI (piF bd an ar f l bn).1)), (3, .int (nI bn))], [], (gWr (gWr (gWr (gWr (gWr M x (.inr (2, [.ref xm, .ref xl, .int (nI f), .ref xg, .ref xo, .int (nI o), .int sp, .int (nI cl)]))) xl (aI G 200 ((piF bd an ar f l bn).2))) xg (.inr (0, [.ref xga, .int (nI an)]))) xga (aI G 200 ar)) xo (aI G 8 os))) := by
  intro r
  induction r with
  | zero =>
    intro k hk
    rw [show k = bn from by omega]
    refine Go.trp 8 (go_iload_n d_Exp_putInFront_7 rfl 3 rfl) rfl ?_
    refine Go.trp 9 (go_aload_n d_Exp_putInFront_8 rfl 1 rfl) rfl ?_
    refine Go.trp 12 (go_get f_Exp_59 d_Exp_putInFront_9 ((gRd_n _ _ (hB _ (by simp))).trans ((gRd_n _ _ (hB _ (by simp))).trans ((gRd_n _ _ (hB _ (by simp))).trans ((gRd_n _ _ (hB _ (by simp))).trans ((gRd_n _ _ (hB _ (by simp))).trans (b1)))))) rfl) rfl ?_
    refine Go.trp 100 (go_icmp_ge_t 100 d_Exp_putInFront_12 (by decide) (nI_le (Nat.le_refl bn) (by omega))) rfl ?_
    exact Go.rf
  | succ r ih =>
    intro k hk
    have e1 := piF_1 bd an ar f l k
    have e2 := exL_mono bd an r (k + 1)
    rw [show k + 1 + r = bn from by omega] at e2
    have e3 : exL bd an (k + 1) = exL bd an k + (if bd k = 35 then an else 1) := rfl
    refine Go.trp 8 (go_iload_n d_Exp_putInFront_7 rfl 3 rfl) rfl ?_
    refine Go.trp 9 (go_aload_n d_Exp_putInFront_8 rfl 1 rfl) rfl ?_
    refine Go.trp 12 (go_get f_Exp_59 d_Exp_putInFront_9 ((gRd_n _ _ (hB _ (by simp))).trans ((gRd_n _ _ (hB _ (by simp))).trans ((gRd_n _ _ (hB _ (by simp))).trans ((gRd_n _ _ (hB _ (by simp))).trans ((gRd_n _ _ (hB _ (by simp))).trans (b1)))))) rfl) rfl ?_
    refine Go.trp 15 (go_icmp_ge_f 100 d_Exp_putInFront_12 (by decide) (nI_ge (by omega) (by omega))) rfl ?_
    refine Go.trp 16 (go_aload_n d_Exp_putInFront_15 rfl 1 rfl) rfl ?_
    refine Go.trp 19 (go_get f_Exp_63 d_Exp_putInFront_16 ((gRd_n _ _ (hB _ (by simp))).trans ((gRd_n _ _ (hB _ (by simp))).trans ((gRd_n _ _ (hB _ (by simp))).trans ((gRd_n _ _ (hB _ (by simp))).trans ((gRd_n _ _ (hB _ (by simp))).trans (b1)))))) rfl) rfl ?_
    refine Go.trp 20 (go_iload_n d_Exp_putInFront_19 rfl 3 rfl) rfl ?_
    refine Go.trp 21 (go_iald (j := k) d_Exp_putInFront_20 ((gRd_n _ _ (hB2 _ (by simp))).trans ((gRd_n _ _ (hB2 _ (by simp))).trans ((gRd_n _ _ (hB2 _ (by simp))).trans ((gRd_n _ _ (hB2 _ (by simp))).trans ((gRd_n _ _ (hB2 _ (by simp))).trans (b2)))))) (rfl) (by omega) (by omega)) rfl ?_
    refine Go.trp 23 (go_bipush (v := 35) d_Exp_putInFront_21 (by decide)) rfl ?_
    by_cases c1 : bd k = 35
    · refine Go.trp 26 (go_icmp_ne_f 79 d_Exp_putInFront_23 (by decide) (c1)) rfl ?_
      refine Go.trp 27 (go_iconst (v := nI 0) d_Exp_putInFront_26 (rfl)) rfl ?_
      refine Go.trp 29 (go_istore [(4, .int (nI 0)), (0, .ref x), (1, .ref b), (2, .int (nI (piF bd an ar f l k).1)), (3, .int (nI k))] d_Exp_putInFront_27 (by decide) rfl) rfl ?_
      refine (go_pick [1, 2, 3, 4, 0] [(0, .ref x), (1, .ref b), (2, .int (nI (piF bd an ar f l k).1)), (3, .int (nI k)), (4, .int (nI 0))] rfl).tr ?_
      refine (go_m (M' := (gWr (gWr (gWr (gWr (gWr M x (.inr (2, [.ref xm, .ref xl, .int (nI f), .ref xg, .ref xo, .int (nI o), .int sp, .int (nI cl)]))) xl (aI G 200 (wrB (piF bd an ar f l k).2 (piF bd an ar f l k).1 ar 0))) xg (.inr (0, [.ref xga, .int (nI an)]))) xga (aI G 200 ar)) xo (aI G 8 os))) (by rw [wrB_0])).tr ?_
      refine (g_Exp_pif1 G M x xm xl xg xga xo f o cl an sp (piF bd an ar f l k).2 ar os b br bn bd (piF bd an ar f l k).1 (nI k) hN b1 b2 hB hB2 hbn han (by rw [if_pos c1] at e3; omega) an 0 (by omega)).tr ?_
      refine Go.trp 67 (go_iload_n d_Exp_putInFront_66 rfl 2 rfl) rfl ?_
      refine Go.trp 68 (go_aload_n d_Exp_putInFront_67 rfl 0 rfl) rfl ?_
      refine Go.trp 71 (go_get f_Exp_26 d_Exp_putInFront_68 ((gRd_n _ _ (ndN hN 0 4 rfl rfl (by decide))).trans ((gRd_n _ _ (ndN hN 0 3 rfl rfl (by decide))).trans ((gRd_n _ _ (ndN hN 0 2 rfl rfl (by decide))).trans ((gRd_n _ _ (ndN hN 0 1 rfl rfl (by decide))).trans (gRd_s _ _ _))))) rfl) rfl ?_
      refine Go.trp 74 (go_get f_Exp_59 d_Exp_putInFront_71 ((gRd_n _ _ (ndN hN 2 4 rfl rfl (by decide))).trans ((gRd_n _ _ (ndN hN 2 3 rfl rfl (by decide))).trans (gRd_s _ _ _))) rfl) rfl ?_
      refine Go.trp 75 (go_iadd d_Exp_putInFront_74) rfl ?_
      refine (go_v (y := nI ((piF bd an ar f l k).1 + an)) (nI_add _ _)).tr ?_
      refine Go.trp 76 (go_istore_n [(2, .int (nI ((piF bd an ar f l k).1 + an))), (0, .ref x), (1, .ref b), (3, .int (nI k)), (4, .int (nI an))] d_Exp_putInFront_75 rfl (by decide) rfl) rfl ?_
      refine (go_pick [1, 2, 0, 3, 4] [(0, .ref x), (1, .ref b), (2, .int (nI ((piF bd an ar f l k).1 + an))), (3, .int (nI k)), (4, .int (nI an))] rfl).tr ?_
      refine Go.trp 94 (go_goto 94 d_Exp_putInFront_76 (by decide)) rfl ?_
      refine Go.trp 97 (go_inc1 (n0 := 3) (x := k) [(3, .int (nI (k + 1))), (0, .ref x), (1, .ref b), (2, .int (nI ((piF bd an ar f l k).1 + an))), (4, .int (nI an))] d_Exp_putInFront_94 rfl (by decide) rfl) rfl ?_
      refine (go_pick [1, 2, 3, 0, 4] [(0, .ref x), (1, .ref b), (2, .int (nI ((piF bd an ar f l k).1 + an))), (3, .int (nI (k + 1))), (4, .int (nI an))] rfl).tr ?_
      refine Go.trp 7 (go_goto 7 d_Exp_putInFront_97 (by decide)) rfl ?_
      refine (go_pick [0, 1, 2, 3] [(0, .ref x), (1, .ref b), (2, .int (nI ((piF bd an ar f l k).1 + an))), (3, .int (nI (k + 1)))] rfl).tr ?_
      have h9 := ih (k + 1) (by omega)
      rw [show (piF bd an ar f l (k + 1)) = ((piF bd an ar f l k).1 + an, wrB (piF bd an ar f l k).2 (piF bd an ar f l k).1 ar an) from by rw [piF, if_pos c1]] at h9
      exact h9
    · refine Go.trp 79 (go_icmp_ne_t 79 d_Exp_putInFront_23 (by decide) (c1)) rfl ?_
      refine Go.trp 80 (go_aload_n d_Exp_putInFront_79 rfl 0 rfl) rfl ?_
      refine Go.trp 83 (go_get f_Exp_17 d_Exp_putInFront_80 ((gRd_n _ _ (ndN hN 0 4 rfl rfl (by decide))).trans ((gRd_n _ _ (ndN hN 0 3 rfl rfl (by decide))).trans ((gRd_n _ _ (ndN hN 0 2 rfl rfl (by decide))).trans ((gRd_n _ _ (ndN hN 0 1 rfl rfl (by decide))).trans (gRd_s _ _ _))))) rfl) rfl ?_
      refine Go.trp 84 (go_iload_n d_Exp_putInFront_83 rfl 2 rfl) rfl ?_
      refine Go.trp 85 (go_aload_n d_Exp_putInFront_84 rfl 1 rfl) rfl ?_
      refine Go.trp 88 (go_get f_Exp_63 d_Exp_putInFront_85 ((gRd_n _ _ (hB _ (by simp))).trans ((gRd_n _ _ (hB _ (by simp))).trans ((gRd_n _ _ (hB _ (by simp))).trans ((gRd_n _ _ (hB _ (by simp))).trans ((gRd_n _ _ (hB _ (by simp))).trans (b1)))))) rfl) rfl ?_
      refine Go.trp 89 (go_iload_n d_Exp_putInFront_88 rfl 3 rfl) rfl ?_
      refine Go.trp 90 (go_iald (j := k) d_Exp_putInFront_89 ((gRd_n _ _ (hB2 _ (by simp))).trans ((gRd_n _ _ (hB2 _ (by simp))).trans ((gRd_n _ _ (hB2 _ (by simp))).trans ((gRd_n _ _ (hB2 _ (by simp))).trans ((gRd_n _ _ (hB2 _ (by simp))).trans (b2)))))) (rfl) (by omega) (by omega)) rfl ?_
      refine Go.trp 91 (go_iast (j := (piF bd an ar f l k).1) d_Exp_putInFront_90 ((gRd_n _ _ (ndN hN 1 4 rfl rfl (by decide))).trans ((gRd_n _ _ (ndN hN 1 3 rfl rfl (by decide))).trans ((gRd_n _ _ (ndN hN 1 2 rfl rfl (by decide))).trans (gRd_s _ _ _)))) (rfl) (by rw [if_neg c1] at e3; omega) (by omega)) rfl ?_
      refine (go_m (M' := (gWr (gWr (gWr (gWr (gWr M x (.inr (2, [.ref xm, .ref xl, .int (nI f), .ref xg, .ref xo, .int (nI o), .int sp, .int (nI cl)]))) xl (aI G 200 (upd ((piF bd an ar f l k).2) ((piF bd an ar f l k).1) (bd k)))) xg (.inr (0, [.ref xga, .int (nI an)]))) xga (aI G 200 ar)) xo (aI G 8 os))) ((gWr_cm (gWr (gWr (gWr (gWr M x (.inr (2, [.ref xm, .ref xl, .int (nI f), .ref xg, .ref xo, .int (nI o), .int sp, .int (nI cl)]))) xl (aI G 200 ((piF bd an ar f l k).2))) xg (.inr (0, [.ref xga, .int (nI an)]))) xga (aI G 200 ar)) (aI G 8 os) (aI G 200 (upd ((piF bd an ar f l k).2) ((piF bd an ar f l k).1) (bd k))) (Ne.symm (ndN hN 1 4 rfl rfl (by decide)))).trans (congrArg (fun m => gWr m xo (aI G 8 os)) ((gWr_cm (gWr (gWr (gWr M x (.inr (2, [.ref xm, .ref xl, .int (nI f), .ref xg, .ref xo, .int (nI o), .int sp, .int (nI cl)]))) xl (aI G 200 ((piF bd an ar f l k).2))) xg (.inr (0, [.ref xga, .int (nI an)]))) (aI G 200 ar) (aI G 200 (upd ((piF bd an ar f l k).2) ((piF bd an ar f l k).1) (bd k))) (Ne.symm (ndN hN 1 3 rfl rfl (by decide)))).trans (congrArg (fun m => gWr m xga (aI G 200 ar)) ((gWr_cm (gWr (gWr M x (.inr (2, [.ref xm, .ref xl, .int (nI f), .ref xg, .ref xo, .int (nI o), .int sp, .int (nI cl)]))) xl (aI G 200 ((piF bd an ar f l k).2))) (.inr (0, [.ref xga, .int (nI an)])) (aI G 200 (upd ((piF bd an ar f l k).2) ((piF bd an ar f l k).1) (bd k))) (Ne.symm (ndN hN 1 2 rfl rfl (by decide)))).trans (congrArg (fun m => gWr m xg (.inr (0, [.ref xga, .int (nI an)]))) (gWr_wr (gWr M x (.inr (2, [.ref xm, .ref xl, .int (nI f), .ref xg, .ref xo, .int (nI o), .int sp, .int (nI cl)]))) xl (aI G 200 ((piF bd an ar f l k).2)) (aI G 200 (upd ((piF bd an ar f l k).2) ((piF bd an ar f l k).1) (bd k))))))))))).tr ?_
      refine Go.trp 94 (go_inc1 (n0 := 2) (x := (piF bd an ar f l k).1) [(2, .int (nI ((piF bd an ar f l k).1 + 1))), (0, .ref x), (1, .ref b), (3, .int (nI k))] d_Exp_putInFront_91 rfl (by decide) rfl) rfl ?_
      refine (go_pick [1, 2, 0, 3] [(0, .ref x), (1, .ref b), (2, .int (nI ((piF bd an ar f l k).1 + 1))), (3, .int (nI k))] rfl).tr ?_
      refine Go.trp 97 (go_inc1 (n0 := 3) (x := k) [(3, .int (nI (k + 1))), (0, .ref x), (1, .ref b), (2, .int (nI ((piF bd an ar f l k).1 + 1)))] d_Exp_putInFront_94 rfl (by decide) rfl) rfl ?_
      refine (go_pick [1, 2, 3, 0] [(0, .ref x), (1, .ref b), (2, .int (nI ((piF bd an ar f l k).1 + 1))), (3, .int (nI (k + 1)))] rfl).tr ?_
      refine Go.trp 7 (go_goto 7 d_Exp_putInFront_97 (by decide)) rfl ?_
      have h9 := ih (k + 1) (by omega)
      rw [show (piF bd an ar f l (k + 1)) = ((piF bd an ar f l k).1 + 1, upd (piF bd an ar f l k).2 (piF bd an ar f l k).1 (bd k)) from by rw [piF, if_neg c1]] at h9
      exact h9
theorem e_Exp_putInFront (G : gG) (M : gM) (x xm xl xg xga xo : Nat) (f o cl an : Nat) (sp : Int32) (l ar os : Nat → Int32) (b br bn : Nat) (bd : Nat → Int32) (hN : va_nd [x, xl, xg, xga, xo] = true) (b1 : gRd M b = some (.inr (0, [.ref br, .int (nI bn)]))) (b2 : gRd M br = some (aI G 24 bd)) (hB : ∀ y ∈ [x, xl, xg, xga, xo], b ≠ y) (hB2 : ∀ y ∈ [x, xl, xg, xga, xo], br ≠ y) (hbn : bn ≤ 24) (han : an ≤ 200) (hq : f + exL bd an bn ≤ 200) : Ev G 0 m_Exp_putInFront [.ref x, .ref b] (gWr (gWr (gWr (gWr (gWr M x (.inr (2, [.ref xm, .ref xl, .int (nI f), .ref xg, .ref xo, .int (nI o), .int sp, .int (nI cl)]))) xl (aI G 200 l)) xg (.inr (0, [.ref xga, .int (nI an)]))) xga (aI G 200 ar)) xo (aI G 8 os)) none (gWr (gWr (gWr (gWr (gWr M x (.inr (2, [.ref xm, .ref xl, .int (nI f), .ref xg, .ref xo, .int (nI o), .int sp, .int (nI cl)]))) xl (aI G 200 ((piF bd an ar f l bn).2))) xg (.inr (0, [.ref xga, .int (nI an)]))) xga (aI G 200 ar)) xo (aI G 8 os)) := by
  refine Ev.of (Nat.le_of_ble_eq_true rfl) ?_
  show EvF G 0 m_Exp_putInFront (0, [(0, .ref x), (1, .ref b)], [], (gWr (gWr (gWr (gWr (gWr M x (.inr (2, [.ref xm, .ref xl, .int (nI f), .ref xg, .ref xo, .int (nI o), .int sp, .int (nI cl)]))) xl (aI G 200 l)) xg (.inr (0, [.ref xga, .int (nI an)]))) xga (aI G 200 ar)) xo (aI G 8 os))) _ _
  refine EvF.gop 1 (go_aload_n d_Exp_putInFront_0 rfl 0 rfl) rfl ?_
  refine EvF.gop 4 (go_get f_Exp_60 d_Exp_putInFront_1 ((gRd_n _ _ (ndN hN 0 4 rfl rfl (by decide))).trans ((gRd_n _ _ (ndN hN 0 3 rfl rfl (by decide))).trans ((gRd_n _ _ (ndN hN 0 2 rfl rfl (by decide))).trans ((gRd_n _ _ (ndN hN 0 1 rfl rfl (by decide))).trans (gRd_s _ _ _))))) rfl) rfl ?_
  refine EvF.gop 5 (go_istore_n [(2, .int (nI f)), (0, .ref x), (1, .ref b)] d_Exp_putInFront_4 rfl (by decide) rfl) rfl ?_
  refine EvF.go (go_pick [1, 2, 0] [(0, .ref x), (1, .ref b), (2, .int (nI f))] rfl) ?_
  refine EvF.gop 6 (go_iconst (v := nI 0) d_Exp_putInFront_5 (rfl)) rfl ?_
  refine EvF.gop 7 (go_istore_n [(3, .int (nI 0)), (0, .ref x), (1, .ref b), (2, .int (nI f))] d_Exp_putInFront_6 rfl (by decide) rfl) rfl ?_
  refine EvF.go (go_pick [1, 2, 3, 0] [(0, .ref x), (1, .ref b), (2, .int (nI f)), (3, .int (nI 0))] rfl) ?_
  refine EvF.go (g_Exp_pif2 G M x xm xl xg xga xo f o cl an sp l ar os b br bn bd hN b1 b2 hB hB2 hbn han hq bn 0 (by omega)) ?_
  exact EvF.rv d_Exp_putInFront_100 rfl rfl
