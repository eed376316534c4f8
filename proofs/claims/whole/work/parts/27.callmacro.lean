abbrev eT : Type := Int32 × Nat × Nat × (Nat → Int32) × Nat × (Nat → Int32)
def cm2 (bd : Nat → Int32) (bn f cl : Nat) (l : Nat → Int32) (an : Nat) (ar : Nat → Int32) : eT :=
  if f < exL bd an bn then (-4, f, cl, l, an, ar) else (0, f - exL bd an bn, cl, (piF bd an ar (f - exL bd an bn) l bn).2, an, ar)
/-- a macro with the body bd (bn characters) is called: answer, front, calls, list, argument -/
def cmF (df : Bool) (bd : Nat → Int32) (bn f cl : Nat) (l : Nat → Int32) (an : Nat) (ar : Nat → Int32) : eT :=
  if df = false then (-3, f, cl, l, an, ar) else if cl = 40 then (-4, f, cl, l, an, ar)
  else if cntI bd 35 bn ≤ 0 then cm2 bd bn f (cl + 1) l an ar
  else if (taF f l ar).1 = true then cm2 bd bn (taF f l ar).2.1 (cl + 1) l (taF f l ar).2.2.1 (taF f l ar).2.2.2 else (-3, (taF f l ar).2.1, cl + 1, l, (taF f l ar).2.2.1, (taF f l ar).2.2.2)
theorem exL_le (bd : Nat → Int32) (an : Nat) : ∀ k, exL bd an k ≤ k * (an + 1)
  | 0 => Nat.zero_le _
  | k + 1 => by
    have h := exL_le bd an k
    have e : (k + 1) * (an + 1) = k * (an + 1) + (an + 1) := Nat.succ_mul k (an + 1)
    show exL bd an k + _ ≤ _
    split <;> omega
theorem exL_lt {bd : Nat → Int32} {an bn : Nat} (h1 : bn ≤ 24) (h2 : an ≤ 200) : exL bd an bn < 2 ^ 20 := by
  have h := exL_le bd an bn
  have h3 : bn * (an + 1) ≤ 24 * 201 := Nat.mul_le_mul h1 (by omega)
  omega
theorem nI_ex {b e m a : Nat} (h : e + m = b + m * a) : nI b + nI m * (nI a - 1) = nI e := by
  have h1 : nI e + nI m = nI b + nI m * nI a := by rw [pk_mul, nI_add, nI_add, h]
  grind
theorem e_Exp_callMacro (G : gG) (M : gM) (x xm xl xg xga xo : Nat) (f o cl an : Nat) (sp : Int32) (l ar os : Nat → Int32) (b br bn : Nat) (bd : Nat → Int32) (q : Nat) (df : Bool) (hN : va_nd [x, xl, xg, xga, xo] = true) (b1 : gRd M b = some (.inr (0, [.ref br, .int (nI bn)]))) (b2 : gRd M br = some (aI G 24 bd)) (hB : ∀ y ∈ [x, xl, xg, xga, xo], b ≠ y) (hB2 : ∀ y ∈ [x, xl, xg, xga, xo], br ≠ y) (hbn : bn ≤ 24) (han : an ≤ 200) (q1 : gRd M q = some (.inr (1, [.ref b, .int (bI df)]))) (hQ : ∀ y ∈ [x, xl, xg, xga, xo], q ≠ y) (hf : f ≤ 200) (hcl : cl ≤ 40) : Ev G 3 m_Exp_callMacro [.ref x, .ref q] (gWr (gWr (gWr (gWr (gWr M x (.inr (2, [.ref xm, .ref xl, .int (nI f), .ref xg, .ref xo, .int (nI o), .int sp, .int (nI cl)]))) xl (aI G 200 l)) xg (.inr (0, [.ref xga, .int (nI an)]))) xga (aI G 200 ar)) xo (aI G 8 os)) (some (.int (cmF df bd bn f cl l an ar).1)) (gWr (gWr (gWr (gWr (gWr M x (.inr (2, [.ref xm, .ref xl, .int (nI ((cmF df bd bn f cl l an ar).2.1)), .ref xg, .ref xo, .int (nI o), .int sp, .int (nI ((cmF df bd bn f cl l an ar).2.2.1))]))) xl (aI G 200 ((cmF df bd bn f cl l an ar).2.2.2.1))) xg (.inr (0, [.ref xga, .int (nI ((cmF df bd bn f cl l an ar).2.2.2.2.1))]))) xga (aI G 200 ((cmF df bd bn f cl l an ar).2.2.2.2.2))) xo (aI G 8 os)) := by
  have hcn := cntI_le bd 35 bn
  refine Ev.of (Nat.le_of_ble_eq_true rfl) ?_
  show EvF G 3 m_Exp_callMacro (0, [(0, .ref x), (1, .ref q)], [], (gWr (gWr (gWr (gWr (gWr M x (.inr (2, [.ref xm, .ref xl, .int (nI f), .ref xg, .ref xo, .int (nI o), .int sp, .int (nI cl)]))) xl (aI G 200 l)) xg (.inr (0, [.ref xga, .int (nI an)]))) xga (aI G 200 ar)) xo (aI G 8 os))) _ _
  refine EvF.gop 1 (go_aload_n d_Exp_callMacro_0 rfl 1 rfl) rfl ?_
  refine EvF.gop 4 (go_get f_Exp_99 d_Exp_callMacro_1 ((gRd_n _ _ (hQ _ (by simp))).trans ((gRd_n _ _ (hQ _ (by simp))).trans ((gRd_n _ _ (hQ _ (by simp))).trans ((gRd_n _ _ (hQ _ (by simp))).trans ((gRd_n _ _ (hQ _ (by simp))).trans (q1)))))) rfl) rfl ?_
  by_cases c1 : (bI df) = 0
  · have c1x : df = false := bI_0.mp c1
    refine EvF.gop 7 (go_if_ne_f 10 d_Exp_callMacro_4 (by decide) (c1)) rfl ?_
    refine EvF.gop 9 (go_bipush (v := (-3)) d_Exp_callMacro_7 (by decide)) rfl ?_
    rw [show (cmF df bd bn f cl l an ar) = (-3, f, cl, l, an, ar) from by unfold cmF; rw [if_pos c1x]]
    exact EvF.ri d_Exp_callMacro_9 rfl rfl (rfl)
  · have c1x : df = true := bI_n0.mp c1
    refine EvF.gop 10 (go_if_ne_t 10 d_Exp_callMacro_4 (by decide) (c1)) rfl ?_
    refine EvF.gop 11 (go_aload_n d_Exp_callMacro_10 rfl 0 rfl) rfl ?_
    refine EvF.gop 14 (go_get f_Exp_69 d_Exp_callMacro_11 ((gRd_n _ _ (ndN hN 0 4 rfl rfl (by decide))).trans ((gRd_n _ _ (ndN hN 0 3 rfl rfl (by decide))).trans ((gRd_n _ _ (ndN hN 0 2 rfl rfl (by decide))).trans ((gRd_n _ _ (ndN hN 0 1 rfl rfl (by decide))).trans (gRd_s _ _ _))))) rfl) rfl ?_
    refine EvF.gop 16 (go_bipush (v := 40) d_Exp_callMacro_14 (by decide)) rfl ?_
    by_cases c2 : (nI cl) = 40
    · have c2x : cl = 40 := (nI_eq (a := cl) (b := 40) (by omega) (by decide)).mp c2
      refine EvF.gop 19 (go_icmp_ne_f 22 d_Exp_callMacro_16 (by decide) (c2)) rfl ?_
      refine EvF.gop 21 (go_bipush (v := (-4)) d_Exp_callMacro_19 (by decide)) rfl ?_
      rw [show (cmF df bd bn f cl l an ar) = (-4, f, cl, l, an, ar) from by unfold cmF; rw [if_neg (by rw [c1x]; decide), if_pos c2x]]
      exact EvF.ri d_Exp_callMacro_21 rfl rfl (rfl)
    · have c2x : ¬ cl = 40 := fun q9 => c2 ((nI_eq (a := cl) (b := 40) (by omega) (by decide)).mpr q9)
      refine EvF.gop 22 (go_icmp_ne_t 22 d_Exp_callMacro_16 (by decide) (c2)) rfl ?_
      refine EvF.gop 23 (go_aload_n d_Exp_callMacro_22 rfl 0 rfl) rfl ?_
      refine EvF.gop 24 (go_dup d_Exp_callMacro_23 rfl) rfl ?_
      refine EvF.gop 27 (go_get f_Exp_69 d_Exp_callMacro_24 ((gRd_n _ _ (ndN hN 0 4 rfl rfl (by decide))).trans ((gRd_n _ _ (ndN hN 0 3 rfl rfl (by decide))).trans ((gRd_n _ _ (ndN hN 0 2 rfl rfl (by decide))).trans ((gRd_n _ _ (ndN hN 0 1 rfl rfl (by decide))).trans (gRd_s _ _ _))))) rfl) rfl ?_
      refine EvF.gop 28 (go_iconst (v := 1) d_Exp_callMacro_27 (by decide)) rfl ?_
      refine EvF.gop 29 (go_iadd d_Exp_callMacro_28) rfl ?_
      refine EvF.go (go_v (y := nI (cl + 1)) (nI_1 cl)) ?_
      refine EvF.gop 32 (go_put [.ref xm, .ref xl, .int (nI f), .ref xg, .ref xo, .int (nI o), .int sp, .int (nI (cl + 1))] f_Exp_69 ft_Exp_7 d_Exp_callMacro_29 ((gRd_n _ _ (ndN hN 0 4 rfl rfl (by decide))).trans ((gRd_n _ _ (ndN hN 0 3 rfl rfl (by decide))).trans ((gRd_n _ _ (ndN hN 0 2 rfl rfl (by decide))).trans ((gRd_n _ _ (ndN hN 0 1 rfl rfl (by decide))).trans (gRd_s _ _ _))))) (rfl) (rfl) (Nat.le_of_ble_eq_true rfl) rfl) rfl ?_
      refine EvF.go (go_m (M' := (gWr (gWr (gWr (gWr (gWr M x (.inr (2, [.ref xm, .ref xl, .int (nI f), .ref xg, .ref xo, .int (nI o), .int sp, .int (nI (cl + 1))]))) xl (aI G 200 l)) xg (.inr (0, [.ref xga, .int (nI an)]))) xga (aI G 200 ar)) xo (aI G 8 os))) ((gWr_cm (gWr (gWr (gWr (gWr M x (.inr (2, [.ref xm, .ref xl, .int (nI f), .ref xg, .ref xo, .int (nI o), .int sp, .int (nI cl)]))) xl (aI G 200 l)) xg (.inr (0, [.ref xga, .int (nI an)]))) xga (aI G 200 ar)) (aI G 8 os) (.inr (2, [.ref xm, .ref xl, .int (nI f), .ref xg, .ref xo, .int (nI o), .int sp, .int (nI (cl + 1))])) (Ne.symm (ndN hN 0 4 rfl rfl (by decide)))).trans (congrArg (fun m => gWr m xo (aI G 8 os)) ((gWr_cm (gWr (gWr (gWr M x (.inr (2, [.ref xm, .ref xl, .int (nI f), .ref xg, .ref xo, .int (nI o), .int sp, .int (nI cl)]))) xl (aI G 200 l)) xg (.inr (0, [.ref xga, .int (nI an)]))) (aI G 200 ar) (.inr (2, [.ref xm, .ref xl, .int (nI f), .ref xg, .ref xo, .int (nI o), .int sp, .int (nI (cl + 1))])) (Ne.symm (ndN hN 0 3 rfl rfl (by decide)))).trans (congrArg (fun m => gWr m xga (aI G 200 ar)) ((gWr_cm (gWr (gWr M x (.inr (2, [.ref xm, .ref xl, .int (nI f), .ref xg, .ref xo, .int (nI o), .int sp, .int (nI cl)]))) xl (aI G 200 l)) (.inr (0, [.ref xga, .int (nI an)])) (.inr (2, [.ref xm, .ref xl, .int (nI f), .ref xg, .ref xo, .int (nI o), .int sp, .int (nI (cl + 1))])) (Ne.symm (ndN hN 0 2 rfl rfl (by decide)))).trans (congrArg (fun m => gWr m xg (.inr (0, [.ref xga, .int (nI an)]))) ((gWr_cm (gWr M x (.inr (2, [.ref xm, .ref xl, .int (nI f), .ref xg, .ref xo, .int (nI o), .int sp, .int (nI cl)]))) (aI G 200 l) (.inr (2, [.ref xm, .ref xl, .int (nI f), .ref xg, .ref xo, .int (nI o), .int sp, .int (nI (cl + 1))])) (Ne.symm (ndN hN 0 1 rfl rfl (by decide)))).trans (congrArg (fun m => gWr m xl (aI G 200 l)) (gWr_wr M x (.inr (2, [.ref xm, .ref xl, .int (nI f), .ref xg, .ref xo, .int (nI o), .int sp, .int (nI cl)])) (.inr (2, [.ref xm, .ref xl, .int (nI f), .ref xg, .ref xo, .int (nI o), .int sp, .int (nI (cl + 1))])))))))))))) ?_
      refine EvF.gop 33 (go_aload_n d_Exp_callMacro_32 rfl 1 rfl) rfl ?_
      refine EvF.gop 36 (go_get f_Exp_103 d_Exp_callMacro_33 ((gRd_n _ _ (hQ _ (by simp))).trans ((gRd_n _ _ (hQ _ (by simp))).trans ((gRd_n _ _ (hQ _ (by simp))).trans ((gRd_n _ _ (hQ _ (by simp))).trans ((gRd_n _ _ (hQ _ (by simp))).trans (q1)))))) rfl) rfl ?_
      refine EvF.gop 38 (go_bipush (v := 35) d_Exp_callMacro_36 (by decide)) rfl ?_
      refine EvF.gop 41 (go_callV [.int 35] [.int (nI (cntI bd 35 bn))] c0_Row_howMany im_Row_howMany se_Row_howMany lk_Exp_106 d_Exp_callMacro_38 rfl rfl ((gRd_n _ _ (hB _ (by simp))).trans ((gRd_n _ _ (hB _ (by simp))).trans ((gRd_n _ _ (hB _ (by simp))).trans ((gRd_n _ _ (hB _ (by simp))).trans ((gRd_n _ _ (hB _ (by simp))).trans (b1)))))) (e_Row_howMany G _ b br 24 bn bd 35 ((gRd_n _ _ (hB _ (by simp))).trans ((gRd_n _ _ (hB _ (by simp))).trans ((gRd_n _ _ (hB _ (by simp))).trans ((gRd_n _ _ (hB _ (by simp))).trans ((gRd_n _ _ (hB _ (by simp))).trans (b1)))))) ((gRd_n _ _ (hB2 _ (by simp))).trans ((gRd_n _ _ (hB2 _ (by simp))).trans ((gRd_n _ _ (hB2 _ (by simp))).trans ((gRd_n _ _ (hB2 _ (by simp))).trans ((gRd_n _ _ (hB2 _ (by simp))).trans (b2)))))) hbn (by decide)) (by decide) rfl rfl (Nat.le_of_ble_eq_true rfl) rfl) rfl ?_
      refine EvF.gop 42 (go_istore_n [(2, .int (nI (cntI bd 35 bn))), (0, .ref x), (1, .ref q)] d_Exp_callMacro_41 rfl (by decide) rfl) rfl ?_
      refine EvF.go (go_pick [1, 2, 0] [(0, .ref x), (1, .ref q), (2, .int (nI (cntI bd 35 bn)))] rfl) ?_
      refine EvF.gop 43 (go_iload_n d_Exp_callMacro_42 rfl 2 rfl) rfl ?_
      by_cases c3 : (nI (cntI bd 35 bn)) ≤ 0
      · have c3x : (cntI bd 35 bn) ≤ 0 := (nI_leI (a := (cntI bd 35 bn)) (b := 0) (by omega) (by decide)).mp c3
        have c3y : ¬ 0 < (cntI bd 35 bn) := by omega
        refine EvF.gop 56 (go_if_le_t 56 d_Exp_callMacro_43 (by decide) (c3)) rfl ?_
        refine EvF.gop 57 (go_aload_n d_Exp_callMacro_56 rfl 1 rfl) rfl ?_
        refine EvF.gop 60 (go_get f_Exp_103 d_Exp_callMacro_57 ((gRd_n _ _ (hQ _ (by simp))).trans ((gRd_n _ _ (hQ _ (by simp))).trans ((gRd_n _ _ (hQ _ (by simp))).trans ((gRd_n _ _ (hQ _ (by simp))).trans ((gRd_n _ _ (hQ _ (by simp))).trans (q1)))))) rfl) rfl ?_
        refine EvF.gop 63 (go_get f_Exp_59 d_Exp_callMacro_60 ((gRd_n _ _ (hB _ (by simp))).trans ((gRd_n _ _ (hB _ (by simp))).trans ((gRd_n _ _ (hB _ (by simp))).trans ((gRd_n _ _ (hB _ (by simp))).trans ((gRd_n _ _ (hB _ (by simp))).trans (b1)))))) rfl) rfl ?_
        refine EvF.gop 64 (go_iload_n d_Exp_callMacro_63 rfl 2 rfl) rfl ?_
        refine EvF.gop 65 (go_aload_n d_Exp_callMacro_64 rfl 0 rfl) rfl ?_
        refine EvF.gop 68 (go_get f_Exp_26 d_Exp_callMacro_65 ((gRd_n _ _ (ndN hN 0 4 rfl rfl (by decide))).trans ((gRd_n _ _ (ndN hN 0 3 rfl rfl (by decide))).trans ((gRd_n _ _ (ndN hN 0 2 rfl rfl (by decide))).trans ((gRd_n _ _ (ndN hN 0 1 rfl rfl (by decide))).trans (gRd_s _ _ _))))) rfl) rfl ?_
        refine EvF.gop 71 (go_get f_Exp_59 d_Exp_callMacro_68 ((gRd_n _ _ (ndN hN 2 4 rfl rfl (by decide))).trans ((gRd_n _ _ (ndN hN 2 3 rfl rfl (by decide))).trans (gRd_s _ _ _))) rfl) rfl ?_
        refine EvF.gop 72 (go_iconst (v := 1) d_Exp_callMacro_71 (by decide)) rfl ?_
        refine EvF.gop 73 (go_isub d_Exp_callMacro_72) rfl ?_
        refine EvF.gop 74 (go_imul d_Exp_callMacro_73) rfl ?_
        refine EvF.gop 75 (go_iadd d_Exp_callMacro_74) rfl ?_
        refine EvF.go (go_v (y := nI (exL bd an bn)) (nI_ex (by have := exL_eq bd an bn; omega))) ?_
        refine EvF.gop 76 (go_istore_n [(3, .int (nI (exL bd an bn))), (0, .ref x), (1, .ref q), (2, .int (nI (cntI bd 35 bn)))] d_Exp_callMacro_75 rfl (by decide) rfl) rfl ?_
        refine EvF.go (go_pick [1, 2, 3, 0] [(0, .ref x), (1, .ref q), (2, .int (nI (cntI bd 35 bn))), (3, .int (nI (exL bd an bn)))] rfl) ?_
        refine EvF.gop 77 (go_iload_n d_Exp_callMacro_76 rfl 3 rfl) rfl ?_
        refine EvF.gop 78 (go_aload_n d_Exp_callMacro_77 rfl 0 rfl) rfl ?_
        refine EvF.gop 81 (go_get f_Exp_60 d_Exp_callMacro_78 ((gRd_n _ _ (ndN hN 0 4 rfl rfl (by decide))).trans ((gRd_n _ _ (ndN hN 0 3 rfl rfl (by decide))).trans ((gRd_n _ _ (ndN hN 0 2 rfl rfl (by decide))).trans ((gRd_n _ _ (ndN hN 0 1 rfl rfl (by decide))).trans (gRd_s _ _ _))))) rfl) rfl ?_
        have hx1 := exL_lt (bd := bd) hbn han
        by_cases c4 : (nI (exL bd an bn)) ≤ (nI f)
        · have c4x : (exL bd an bn) ≤ f := (nI_leI (a := (exL bd an bn)) (b := f) (by omega) (by omega)).mp c4
          have c4y : ¬ f < (exL bd an bn) := by omega
          refine EvF.gop 87 (go_icmp_le_t 87 d_Exp_callMacro_81 (by decide) (c4)) rfl ?_
          refine EvF.gop 88 (go_aload_n d_Exp_callMacro_87 rfl 0 rfl) rfl ?_
          refine EvF.gop 89 (go_dup d_Exp_callMacro_88 rfl) rfl ?_
          refine EvF.gop 92 (go_get f_Exp_60 d_Exp_callMacro_89 ((gRd_n _ _ (ndN hN 0 4 rfl rfl (by decide))).trans ((gRd_n _ _ (ndN hN 0 3 rfl rfl (by decide))).trans ((gRd_n _ _ (ndN hN 0 2 rfl rfl (by decide))).trans ((gRd_n _ _ (ndN hN 0 1 rfl rfl (by decide))).trans (gRd_s _ _ _))))) rfl) rfl ?_
          refine EvF.gop 93 (go_iload_n d_Exp_callMacro_92 rfl 3 rfl) rfl ?_
          refine EvF.gop 94 (go_isub d_Exp_callMacro_93) rfl ?_
          refine EvF.go (go_v (y := nI (f - exL bd an bn)) (pk_sub (by omega))) ?_
          refine EvF.gop 97 (go_put [.ref xm, .ref xl, .int (nI (f - exL bd an bn)), .ref xg, .ref xo, .int (nI o), .int sp, .int (nI (cl + 1))] f_Exp_60 ft_Exp_2 d_Exp_callMacro_94 ((gRd_n _ _ (ndN hN 0 4 rfl rfl (by decide))).trans ((gRd_n _ _ (ndN hN 0 3 rfl rfl (by decide))).trans ((gRd_n _ _ (ndN hN 0 2 rfl rfl (by decide))).trans ((gRd_n _ _ (ndN hN 0 1 rfl rfl (by decide))).trans (gRd_s _ _ _))))) (rfl) (rfl) (Nat.le_of_ble_eq_true rfl) rfl) rfl ?_
          refine EvF.go (go_m (M' := (gWr (gWr (gWr (gWr (gWr M x (.inr (2, [.ref xm, .ref xl, .int (nI (f - exL bd an bn)), .ref xg, .ref xo, .int (nI o), .int sp, .int (nI (cl + 1))]))) xl (aI G 200 l)) xg (.inr (0, [.ref xga, .int (nI an)]))) xga (aI G 200 ar)) xo (aI G 8 os))) ((gWr_cm (gWr (gWr (gWr (gWr M x (.inr (2, [.ref xm, .ref xl, .int (nI f), .ref xg, .ref xo, .int (nI o), .int sp, .int (nI (cl + 1))]))) xl (aI G 200 l)) xg (.inr (0, [.ref xga, .int (nI an)]))) xga (aI G 200 ar)) (aI G 8 os) (.inr (2, [.ref xm, .ref xl, .int (nI (f - exL bd an bn)), .ref xg, .ref xo, .int (nI o), .int sp, .int (nI (cl + 1))])) (Ne.symm (ndN hN 0 4 rfl rfl (by decide)))).trans (congrArg (fun m => gWr m xo (aI G 8 os)) ((gWr_cm (gWr (gWr (gWr M x (.inr (2, [.ref xm, .ref xl, .int (nI f), .ref xg, .ref xo, .int (nI o), .int sp, .int (nI (cl + 1))]))) xl (aI G 200 l)) xg (.inr (0, [.ref xga, .int (nI an)]))) (aI G 200 ar) (.inr (2, [.ref xm, .ref xl, .int (nI (f - exL bd an bn)), .ref xg, .ref xo, .int (nI o), .int sp, .int (nI (cl + 1))])) (Ne.symm (ndN hN 0 3 rfl rfl (by decide)))).trans (congrArg (fun m => gWr m xga (aI G 200 ar)) ((gWr_cm (gWr (gWr M x (.inr (2, [.ref xm, .ref xl, .int (nI f), .ref xg, .ref xo, .int (nI o), .int sp, .int (nI (cl + 1))]))) xl (aI G 200 l)) (.inr (0, [.ref xga, .int (nI an)])) (.inr (2, [.ref xm, .ref xl, .int (nI (f - exL bd an bn)), .ref xg, .ref xo, .int (nI o), .int sp, .int (nI (cl + 1))])) (Ne.symm (ndN hN 0 2 rfl rfl (by decide)))).trans (congrArg (fun m => gWr m xg (.inr (0, [.ref xga, .int (nI an)]))) ((gWr_cm (gWr M x (.inr (2, [.ref xm, .ref xl, .int (nI f), .ref xg, .ref xo, .int (nI o), .int sp, .int (nI (cl + 1))]))) (aI G 200 l) (.inr (2, [.ref xm, .ref xl, .int (nI (f - exL bd an bn)), .ref xg, .ref xo, .int (nI o), .int sp, .int (nI (cl + 1))])) (Ne.symm (ndN hN 0 1 rfl rfl (by decide)))).trans (congrArg (fun m => gWr m xl (aI G 200 l)) (gWr_wr M x (.inr (2, [.ref xm, .ref xl, .int (nI f), .ref xg, .ref xo, .int (nI o), .int sp, .int (nI (cl + 1))])) (.inr (2, [.ref xm, .ref xl, .int (nI (f - exL bd an bn)), .ref xg, .ref xo, .int (nI o), .int sp, .int (nI (cl + 1))])))))))))))) ?_
          refine EvF.gop 98 (go_aload_n d_Exp_callMacro_97 rfl 0 rfl) rfl ?_
          refine EvF.gop 99 (go_aload_n d_Exp_callMacro_98 rfl 1 rfl) rfl ?_
          refine EvF.gop 102 (go_get f_Exp_103 d_Exp_callMacro_99 ((gRd_n _ _ (hQ _ (by simp))).trans ((gRd_n _ _ (hQ _ (by simp))).trans ((gRd_n _ _ (hQ _ (by simp))).trans ((gRd_n _ _ (hQ _ (by simp))).trans ((gRd_n _ _ (hQ _ (by simp))).trans (q1)))))) rfl) rfl ?_
          refine EvF.gop 105 (go_callV [.ref b] [] c0_Exp_putInFront im_Exp_putInFront se_Exp_putInFront lk_Exp_113 d_Exp_callMacro_102 rfl rfl ((gRd_n _ _ (ndN hN 0 4 rfl rfl (by decide))).trans ((gRd_n _ _ (ndN hN 0 3 rfl rfl (by decide))).trans ((gRd_n _ _ (ndN hN 0 2 rfl rfl (by decide))).trans ((gRd_n _ _ (ndN hN 0 1 rfl rfl (by decide))).trans (gRd_s _ _ _))))) (e_Exp_putInFront G M x xm xl xg xga xo (f - exL bd an bn) o (cl + 1) an sp l ar os b br bn bd hN b1 b2 hB hB2 hbn han (by omega)) (by decide) rfl rfl (Nat.le_of_ble_eq_true rfl) rfl) rfl ?_
          refine EvF.gop 106 (go_iconst (v := 0) d_Exp_callMacro_105 (by decide)) rfl ?_
          rw [show (cmF df bd bn f cl l an ar) = (0, f - exL bd an bn, cl + 1, (piF bd an ar (f - exL bd an bn) l bn).2, an, ar) from by unfold cmF; rw [if_neg (by rw [c1x]; decide), if_neg c2x, if_pos (by omega)]; unfold cm2; rw [if_neg (by omega)]]
          exact EvF.ri d_Exp_callMacro_106 rfl rfl (rfl)
        · have c4x : f < (exL bd an bn) := Nat.lt_of_not_le (fun q9 => c4 ((nI_leI (a := (exL bd an bn)) (b := f) (by omega) (by omega)).mpr q9))
          have c4y : ¬ (exL bd an bn) ≤ f := by omega
          refine EvF.gop 84 (go_icmp_le_f 87 d_Exp_callMacro_81 (by decide) (c4)) rfl ?_
          refine EvF.gop 86 (go_bipush (v := (-4)) d_Exp_callMacro_84 (by decide)) rfl ?_
          rw [show (cmF df bd bn f cl l an ar) = (-4, f, cl + 1, l, an, ar) from by unfold cmF; rw [if_neg (by rw [c1x]; decide), if_neg c2x, if_pos (by omega)]; unfold cm2; rw [if_pos (by omega)]]
          exact EvF.ri d_Exp_callMacro_86 rfl rfl (rfl)
      · have c3x : 0 < (cntI bd 35 bn) := Nat.lt_of_not_le (fun q9 => c3 ((nI_leI (a := (cntI bd 35 bn)) (b := 0) (by omega) (by decide)).mpr q9))
        have c3y : ¬ (cntI bd 35 bn) ≤ 0 := by omega
        refine EvF.gop 46 (go_if_le_f 56 d_Exp_callMacro_43 (by decide) (c3)) rfl ?_
        refine EvF.gop 47 (go_aload_n d_Exp_callMacro_46 rfl 0 rfl) rfl ?_
        refine EvF.gop 50 (go_callV [] [.int (bI (taF f l ar).1)] c0_Exp_takeArgument im_Exp_takeArgument se_Exp_takeArgument lk_Exp_110 d_Exp_callMacro_47 rfl rfl ((gRd_n _ _ (ndN hN 0 4 rfl rfl (by decide))).trans ((gRd_n _ _ (ndN hN 0 3 rfl rfl (by decide))).trans ((gRd_n _ _ (ndN hN 0 2 rfl rfl (by decide))).trans ((gRd_n _ _ (ndN hN 0 1 rfl rfl (by decide))).trans (gRd_s _ _ _))))) (e_Exp_takeArgument G M x xm xl xg xga xo f o (cl + 1) an sp l ar os hN hf) (by decide) rfl rfl (Nat.le_of_ble_eq_true rfl) rfl) rfl ?_
        by_cases c5 : (bI (taF f l ar).1) = 0
        · have c5x : (taF f l ar).1 = false := bI_0.mp c5
          refine EvF.gop 53 (go_if_ne_f 56 d_Exp_callMacro_50 (by decide) (c5)) rfl ?_
          refine EvF.gop 55 (go_bipush (v := (-3)) d_Exp_callMacro_53 (by decide)) rfl ?_
          rw [show (cmF df bd bn f cl l an ar) = (-3, (taF f l ar).2.1, cl + 1, l, (taF f l ar).2.2.1, (taF f l ar).2.2.2) from by unfold cmF; rw [if_neg (by rw [c1x]; decide), if_neg c2x, if_neg (by omega), if_neg (fun q9 => by rw [‹(taF f l ar).1 = false›] at q9; cases q9)]]
          exact EvF.ri d_Exp_callMacro_55 rfl rfl (rfl)
        · have c5x : (taF f l ar).1 = true := bI_n0.mp c5
          refine EvF.gop 56 (go_if_ne_t 56 d_Exp_callMacro_50 (by decide) (c5)) rfl ?_
          refine EvF.gop 57 (go_aload_n d_Exp_callMacro_56 rfl 1 rfl) rfl ?_
          refine EvF.gop 60 (go_get f_Exp_103 d_Exp_callMacro_57 ((gRd_n _ _ (hQ _ (by simp))).trans ((gRd_n _ _ (hQ _ (by simp))).trans ((gRd_n _ _ (hQ _ (by simp))).trans ((gRd_n _ _ (hQ _ (by simp))).trans ((gRd_n _ _ (hQ _ (by simp))).trans (q1)))))) rfl) rfl ?_
          refine EvF.gop 63 (go_get f_Exp_59 d_Exp_callMacro_60 ((gRd_n _ _ (hB _ (by simp))).trans ((gRd_n _ _ (hB _ (by simp))).trans ((gRd_n _ _ (hB _ (by simp))).trans ((gRd_n _ _ (hB _ (by simp))).trans ((gRd_n _ _ (hB _ (by simp))).trans (b1)))))) rfl) rfl ?_
          refine EvF.gop 64 (go_iload_n d_Exp_callMacro_63 rfl 2 rfl) rfl ?_
          refine EvF.gop 65 (go_aload_n d_Exp_callMacro_64 rfl 0 rfl) rfl ?_
          refine EvF.gop 68 (go_get f_Exp_26 d_Exp_callMacro_65 ((gRd_n _ _ (ndN hN 0 4 rfl rfl (by decide))).trans ((gRd_n _ _ (ndN hN 0 3 rfl rfl (by decide))).trans ((gRd_n _ _ (ndN hN 0 2 rfl rfl (by decide))).trans ((gRd_n _ _ (ndN hN 0 1 rfl rfl (by decide))).trans (gRd_s _ _ _))))) rfl) rfl ?_
          refine EvF.gop 71 (go_get f_Exp_59 d_Exp_callMacro_68 ((gRd_n _ _ (ndN hN 2 4 rfl rfl (by decide))).trans ((gRd_n _ _ (ndN hN 2 3 rfl rfl (by decide))).trans (gRd_s _ _ _))) rfl) rfl ?_
          refine EvF.gop 72 (go_iconst (v := 1) d_Exp_callMacro_71 (by decide)) rfl ?_
          refine EvF.gop 73 (go_isub d_Exp_callMacro_72) rfl ?_
          refine EvF.gop 74 (go_imul d_Exp_callMacro_73) rfl ?_
          refine EvF.gop 75 (go_iadd d_Exp_callMacro_74) rfl ?_
          refine EvF.go (go_v (y := nI (exL bd ((taF f l ar).2.2.1) bn)) (nI_ex (by have := exL_eq bd ((taF f l ar).2.2.1) bn; omega))) ?_
          refine EvF.gop 76 (go_istore_n [(3, .int (nI (exL bd ((taF f l ar).2.2.1) bn))), (0, .ref x), (1, .ref q), (2, .int (nI (cntI bd 35 bn)))] d_Exp_callMacro_75 rfl (by decide) rfl) rfl ?_
          refine EvF.go (go_pick [1, 2, 3, 0] [(0, .ref x), (1, .ref q), (2, .int (nI (cntI bd 35 bn))), (3, .int (nI (exL bd ((taF f l ar).2.2.1) bn)))] rfl) ?_
          refine EvF.gop 77 (go_iload_n d_Exp_callMacro_76 rfl 3 rfl) rfl ?_
          refine EvF.gop 78 (go_aload_n d_Exp_callMacro_77 rfl 0 rfl) rfl ?_
          refine EvF.gop 81 (go_get f_Exp_60 d_Exp_callMacro_78 ((gRd_n _ _ (ndN hN 0 4 rfl rfl (by decide))).trans ((gRd_n _ _ (ndN hN 0 3 rfl rfl (by decide))).trans ((gRd_n _ _ (ndN hN 0 2 rfl rfl (by decide))).trans ((gRd_n _ _ (ndN hN 0 1 rfl rfl (by decide))).trans (gRd_s _ _ _))))) rfl) rfl ?_
          have hx1 := exL_lt (bd := bd) hbn (taF_le (l := l) (ar := ar) hf).2
          have hx2 := (taF_le (l := l) (ar := ar) hf).1
          by_cases c6 : (nI (exL bd ((taF f l ar).2.2.1) bn)) ≤ (nI ((taF f l ar).2.1))
          · have c6x : (exL bd ((taF f l ar).2.2.1) bn) ≤ ((taF f l ar).2.1) := (nI_leI (a := (exL bd ((taF f l ar).2.2.1) bn)) (b := ((taF f l ar).2.1)) (by omega) (by omega)).mp c6
            have c6y : ¬ ((taF f l ar).2.1) < (exL bd ((taF f l ar).2.2.1) bn) := by omega
            refine EvF.gop 87 (go_icmp_le_t 87 d_Exp_callMacro_81 (by decide) (c6)) rfl ?_
            refine EvF.gop 88 (go_aload_n d_Exp_callMacro_87 rfl 0 rfl) rfl ?_
            refine EvF.gop 89 (go_dup d_Exp_callMacro_88 rfl) rfl ?_
            refine EvF.gop 92 (go_get f_Exp_60 d_Exp_callMacro_89 ((gRd_n _ _ (ndN hN 0 4 rfl rfl (by decide))).trans ((gRd_n _ _ (ndN hN 0 3 rfl rfl (by decide))).trans ((gRd_n _ _ (ndN hN 0 2 rfl rfl (by decide))).trans ((gRd_n _ _ (ndN hN 0 1 rfl rfl (by decide))).trans (gRd_s _ _ _))))) rfl) rfl ?_
            refine EvF.gop 93 (go_iload_n d_Exp_callMacro_92 rfl 3 rfl) rfl ?_
            refine EvF.gop 94 (go_isub d_Exp_callMacro_93) rfl ?_
            refine EvF.go (go_v (y := nI ((taF f l ar).2.1 - exL bd ((taF f l ar).2.2.1) bn)) (pk_sub (by omega))) ?_
            refine EvF.gop 97 (go_put [.ref xm, .ref xl, .int (nI ((taF f l ar).2.1 - exL bd ((taF f l ar).2.2.1) bn)), .ref xg, .ref xo, .int (nI o), .int sp, .int (nI (cl + 1))] f_Exp_60 ft_Exp_2 d_Exp_callMacro_94 ((gRd_n _ _ (ndN hN 0 4 rfl rfl (by decide))).trans ((gRd_n _ _ (ndN hN 0 3 rfl rfl (by decide))).trans ((gRd_n _ _ (ndN hN 0 2 rfl rfl (by decide))).trans ((gRd_n _ _ (ndN hN 0 1 rfl rfl (by decide))).trans (gRd_s _ _ _))))) (rfl) (rfl) (Nat.le_of_ble_eq_true rfl) rfl) rfl ?_
            refine EvF.go (go_m (M' := (gWr (gWr (gWr (gWr (gWr M x (.inr (2, [.ref xm, .ref xl, .int (nI ((taF f l ar).2.1 - exL bd ((taF f l ar).2.2.1) bn)), .ref xg, .ref xo, .int (nI o), .int sp, .int (nI (cl + 1))]))) xl (aI G 200 l)) xg (.inr (0, [.ref xga, .int (nI ((taF f l ar).2.2.1))]))) xga (aI G 200 ((taF f l ar).2.2.2))) xo (aI G 8 os))) ((gWr_cm (gWr (gWr (gWr (gWr M x (.inr (2, [.ref xm, .ref xl, .int (nI ((taF f l ar).2.1)), .ref xg, .ref xo, .int (nI o), .int sp, .int (nI (cl + 1))]))) xl (aI G 200 l)) xg (.inr (0, [.ref xga, .int (nI ((taF f l ar).2.2.1))]))) xga (aI G 200 ((taF f l ar).2.2.2))) (aI G 8 os) (.inr (2, [.ref xm, .ref xl, .int (nI ((taF f l ar).2.1 - exL bd ((taF f l ar).2.2.1) bn)), .ref xg, .ref xo, .int (nI o), .int sp, .int (nI (cl + 1))])) (Ne.symm (ndN hN 0 4 rfl rfl (by decide)))).trans (congrArg (fun m => gWr m xo (aI G 8 os)) ((gWr_cm (gWr (gWr (gWr M x (.inr (2, [.ref xm, .ref xl, .int (nI ((taF f l ar).2.1)), .ref xg, .ref xo, .int (nI o), .int sp, .int (nI (cl + 1))]))) xl (aI G 200 l)) xg (.inr (0, [.ref xga, .int (nI ((taF f l ar).2.2.1))]))) (aI G 200 ((taF f l ar).2.2.2)) (.inr (2, [.ref xm, .ref xl, .int (nI ((taF f l ar).2.1 - exL bd ((taF f l ar).2.2.1) bn)), .ref xg, .ref xo, .int (nI o), .int sp, .int (nI (cl + 1))])) (Ne.symm (ndN hN 0 3 rfl rfl (by decide)))).trans (congrArg (fun m => gWr m xga (aI G 200 ((taF f l ar).2.2.2))) ((gWr_cm (gWr (gWr M x (.inr (2, [.ref xm, .ref xl, .int (nI ((taF f l ar).2.1)), .ref xg, .ref xo, .int (nI o), .int sp, .int (nI (cl + 1))]))) xl (aI G 200 l)) (.inr (0, [.ref xga, .int (nI ((taF f l ar).2.2.1))])) (.inr (2, [.ref xm, .ref xl, .int (nI ((taF f l ar).2.1 - exL bd ((taF f l ar).2.2.1) bn)), .ref xg, .ref xo, .int (nI o), .int sp, .int (nI (cl + 1))])) (Ne.symm (ndN hN 0 2 rfl rfl (by decide)))).trans (congrArg (fun m => gWr m xg (.inr (0, [.ref xga, .int (nI ((taF f l ar).2.2.1))]))) ((gWr_cm (gWr M x (.inr (2, [.ref xm, .ref xl, .int (nI ((taF f l ar).2.1)), .ref xg, .ref xo, .int (nI o), .int sp, .int (nI (cl + 1))]))) (aI G 200 l) (.inr (2, [.ref xm, .ref xl, .int (nI ((taF f l ar).2.1 - exL bd ((taF f l ar).2.2.1) bn)), .ref xg, .ref xo, .int (nI o), .int sp, .int (nI (cl + 1))])) (Ne.symm (ndN hN 0 1 rfl rfl (by decide)))).trans (congrArg (fun m => gWr m xl (aI G 200 l)) (gWr_wr M x (.inr (2, [.ref xm, .ref xl, .int (nI ((taF f l ar).2.1)), .ref xg, .ref xo, .int (nI o), .int sp, .int (nI (cl + 1))])) (.inr (2, [.ref xm, .ref xl, .int (nI ((taF f l ar).2.1 - exL bd ((taF f l ar).2.2.1) bn)), .ref xg, .ref xo, .int (nI o), .int sp, .int (nI (cl + 1))])))))))))))) ?_
            refine EvF.gop 98 (go_aload_n d_Exp_callMacro_97 rfl 0 rfl) rfl ?_
            refine EvF.gop 99 (go_aload_n d_Exp_callMacro_98 rfl 1 rfl) rfl ?_
            refine EvF.gop 102 (go_get f_Exp_103 d_Exp_callMacro_99 ((gRd_n _ _ (hQ _ (by simp))).trans ((gRd_n _ _ (hQ _ (by simp))).trans ((gRd_n _ _ (hQ _ (by simp))).trans ((gRd_n _ _ (hQ _ (by simp))).trans ((gRd_n _ _ (hQ _ (by simp))).trans (q1)))))) rfl) rfl ?_
            refine EvF.gop 105 (go_callV [.ref b] [] c0_Exp_putInFront im_Exp_putInFront se_Exp_putInFront lk_Exp_113 d_Exp_callMacro_102 rfl rfl ((gRd_n _ _ (ndN hN 0 4 rfl rfl (by decide))).trans ((gRd_n _ _ (ndN hN 0 3 rfl rfl (by decide))).trans ((gRd_n _ _ (ndN hN 0 2 rfl rfl (by decide))).trans ((gRd_n _ _ (ndN hN 0 1 rfl rfl (by decide))).trans (gRd_s _ _ _))))) (e_Exp_putInFront G M x xm xl xg xga xo ((taF f l ar).2.1 - exL bd ((taF f l ar).2.2.1) bn) o (cl + 1) (taF f l ar).2.2.1 sp l (taF f l ar).2.2.2 os b br bn bd hN b1 b2 hB hB2 hbn (taF_le hf).2 (by omega)) (by decide) rfl rfl (Nat.le_of_ble_eq_true rfl) rfl) rfl ?_
            refine EvF.gop 106 (go_iconst (v := 0) d_Exp_callMacro_105 (by decide)) rfl ?_
            rw [show (cmF df bd bn f cl l an ar) = (0, (taF f l ar).2.1 - exL bd ((taF f l ar).2.2.1) bn, cl + 1, (piF bd (taF f l ar).2.2.1 (taF f l ar).2.2.2 ((taF f l ar).2.1 - exL bd ((taF f l ar).2.2.1) bn) l bn).2, (taF f l ar).2.2.1, (taF f l ar).2.2.2) from by unfold cmF; rw [if_neg (by rw [c1x]; decide), if_neg c2x, if_neg (by omega), if_pos (by assumption)]; unfold cm2; rw [if_neg (by omega)]]
            exact EvF.ri d_Exp_callMacro_106 rfl rfl (rfl)
          · have c6x : ((taF f l ar).2.1) < (exL bd ((taF f l ar).2.2.1) bn) := Nat.lt_of_not_le (fun q9 => c6 ((nI_leI (a := (exL bd ((taF f l ar).2.2.1) bn)) (b := ((taF f l ar).2.1)) (by omega) (by omega)).mpr q9))
            have c6y : ¬ (exL bd ((taF f l ar).2.2.1) bn) ≤ ((taF f l ar).2.1) := by omega
            refine EvF.gop 84 (go_icmp_le_f 87 d_Exp_callMacro_81 (by decide) (c6)) rfl ?_
            refine EvF.gop 86 (go_bipush (v := (-4)) d_Exp_callMacro_84 (by decide)) rfl ?_
            rw [show (cmF df bd bn f cl l an ar) = (-4, (taF f l ar).2.1, cl + 1, l, (taF f l ar).2.2.1, (taF f l ar).2.2.2) from by unfold cmF; rw [if_neg (by rw [c1x]; decide), if_neg c2x, if_neg (by omega), if_pos (by assumption)]; unfold cm2; rw [if_pos (by omega)]]
            exact EvF.ri d_Exp_callMacro_86 rfl rfl (rfl)
