def okZ (Z : xS) : Prop := Z.1.1 ≤ 200 ∧ Z.1.2.1 ≤ 8 ∧ Z.1.2.2.1 ≤ 40 ∧ Z.1.2.2.2.1 ≤ 200 ∧ Z.1.2.2.2.2 ≤ 120
theorem cm2_ok {bd l ar : Nat → Int32} {bn f cl an : Nat} (h1 : f ≤ 200) (h2 : cl ≤ 40) (h3 : an ≤ 200) : (cm2 bd bn f cl l an ar).2.1 ≤ 200 ∧ (cm2 bd bn f cl l an ar).2.2.1 ≤ 40 ∧ (cm2 bd bn f cl l an ar).2.2.2.2.1 ≤ 200 := by
  unfold cm2
  split
  · exact ⟨h1, h2, h3⟩
  · exact ⟨by show f - _ ≤ 200; omega, h2, h3⟩
theorem cmF_ok {df : Bool} {bd l ar : Nat → Int32} {bn f cl an : Nat} (h1 : f ≤ 200) (h2 : cl ≤ 40) (h3 : an ≤ 200) : (cmF df bd bn f cl l an ar).2.1 ≤ 200 ∧ (cmF df bd bn f cl l an ar).2.2.1 ≤ 40 ∧ (cmF df bd bn f cl l an ar).2.2.2.2.1 ≤ 200 := by
  have ht := taF_le (l := l) (ar := ar) h1
  unfold cmF
  split
  · exact ⟨h1, h2, h3⟩
  · split
    · exact ⟨h1, h2, h3⟩
    · split
      · exact cm2_ok h1 (by omega) h3
      · split
        · exact cm2_ok ht.1 (by omega) ht.2
        · exact ⟨ht.1, by show cl + 1 ≤ 40; omega, ht.2⟩
theorem obF_ok {md : Nat → Bool} {mbd : Nat → Nat → Int32} {mn : Nat → Nat} {c : Int32} {f o cl an tn : Nat} {sp : Int32} {l ar os C S : Nat → Int32} (hf : f ≤ 200) (ho : o ≤ 8) (hcl : cl ≤ 40) (han : an ≤ 200) (htn : tn ≤ 120) : okZ (obF md mbd mn c f o cl an tn sp l ar os C S).2 := by
  unfold obF
  split
  · have h := cmF_ok (df := md (c - 65).toNatClampNeg) (bd := mbd (c - 65).toNatClampNeg) (bn := mn (c - 65).toNatClampNeg) (l := l) (ar := ar) hf hcl han
    exact ⟨h.1, ho, h.2.1, h.2.2, htn⟩
  · split
    · split
      · exact ⟨hf, ho, hcl, han, htn⟩
      · exact ⟨hf, by show o + 1 ≤ 8; omega, hcl, han, htn⟩
    · split
      · split
        · exact ⟨hf, ho, hcl, han, htn⟩
        · exact ⟨hf, by show o - 1 ≤ 8; omega, hcl, han, htn⟩
      · split
        · split
          · exact ⟨hf, ho, hcl, han, htn⟩
          · split
            · exact ⟨by show f + 1 ≤ 200; omega, ho, hcl, han, htn⟩
            · exact ⟨by show f + 1 ≤ 200; omega, ho, hcl, han, htn⟩
        · split
          · split
            · exact ⟨hf, ho, hcl, han, htn⟩
            · exact ⟨hf, ho, hcl, han, by show tn + 1 ≤ 120; omega⟩
          · exact ⟨hf, ho, hcl, han, htn⟩
def obZ (md : Nat → Bool) (mbd : Nat → Nat → Int32) (mn : Nat → Nat) (Z : xS) : Int32 × xS := obF md mbd mn (Z.2.2.1 Z.1.1) (Z.1.1 + 1) Z.1.2.1 Z.1.2.2.1 Z.1.2.2.2.1 Z.1.2.2.2.2 Z.2.1 Z.2.2.1 Z.2.2.2.1 Z.2.2.2.2.1 Z.2.2.2.2.2.1 Z.2.2.2.2.2.2
def xpF (md : Nat → Bool) (mbd : Nat → Nat → Int32) (mn : Nat → Nat) : Nat → xS → Int32 × xS
  | 0, Z => (if Z.1.2.1 ≤ 0 then 0 else -3, Z)
  | r + 1, Z => if Z.1.1 = 200 then (if Z.1.2.1 ≤ 0 then 0 else -3, Z) else if (obZ md mbd mn Z).1 = 0 then xpF md mbd mn r (obZ md mbd mn Z).2 else obZ md mbd mn Z
theorem g_Exp_expand (G : gG) (M : gM) (x xm xl xg xga xo : Nat) (t tc ts : Nat) (mf : Nat → Option Nat) (mq mb mba mn : Nat → Nat) (md : Nat → Bool) (mbd : Nat → Nat → Int32) (b : Nat) (hN8 : va_nd [x, xl, xg, xga, xo, t, tc, ts] = true) (x0 : gRd M xm = some (aQ G 3 4 mf)) (hxm : ∀ y ∈ [x, xl, xg, xga, xo, t, tc, ts], xm ≠ y) (hM : MacsAt G M [x, xl, xg, xga, xo, t, tc, ts] mf mq mb mba mn md mbd) : ∀ (r k : Nat) (Z : xS), k + r = 8060 → okZ Z → EvF G 5 m_Exp_expand (12, [(0, .ref x), (1, .ref b), (2, .ref t), (3, .int (nI k))], [], (gWr (gWr (gWr (gWr (gWr (gWr (gWr (gWr M tc (aI G 120 Z.2.2.2.2.2.1)) ts (aI G 120 Z.2.2.2.2.2.2)) t (.inr (3, [.ref tc, .ref ts, .int (nI Z.1.2.2.2.2)]))) x (.inr (2, [.ref xm, .ref xl, .int (nI Z.1.1), .ref xg, .ref xo, .int (nI Z.1.2.1), .int Z.2.1, .int (nI Z.1.2.2.1)]))) xl (aI G 200 Z.2.2.1)) xg (.inr (0, [.ref xga, .int (nI Z.1.2.2.2.1)]))) xga (aI G 200 Z.2.2.2.1)) xo (aI G 8 Z.2.2.2.2.1))) (some (.int (xpF md mbd mn r Z).1)) (gWr (gWr (gWr (gWr (gWr (gWr (gWr (gWr M tc (aI G 120 ((xpF md mbd mn r Z).2.2.2.2.2.2.1))) ts (aI G 120 ((xpF md mbd mn r Z).2.2.2.2.2.2.2))) t (.inr (3, [.ref tc, .ref ts, .int (nI ((xpF md mbd mn r Z).2.1.2.2.2.2))]))) x (.inr (2, [.ref xm, .ref xl, .int (nI ((xpF md mbd mn r Z).2.1.1)), .ref xg, .ref xo, .int (nI ((xpF md mbd mn r Z).2.1.2.1)), .int ((xpF md mbd mn r Z).2.2.1), .int (nI ((xpF md mbd mn r Z).2.1.2.2.1))]))) xl (aI G 200 ((xpF md mbd mn r Z).2.2.2.1))) xg (.inr (0, [.ref xga, .int (nI ((xpF md mbd mn r Z).2.1.2.2.2.1))]))) xga (aI G 200 ((xpF md mbd mn r Z).2.2.2.2.1))) xo (aI G 8 ((xpF md mbd mn r Z).2.2.2.2.2.1))) := by
  intro r
  induction r with
  | zero =>
    intro k Z hk hz
    have hN5 := hN5_of hN8
    have hzo := hz.2.1
    refine EvF.gop 13 (go_iload_n d_Exp_expand_12 rfl 3 rfl) rfl ?_
    refine EvF.gop 16 (go_sipush (v := nI 8060) d_Exp_expand_13 (rfl)) rfl ?_
    refine EvF.gop 51 (go_icmp_ge_t 51 d_Exp_expand_16 (by decide) (nI_le (by omega) (by omega))) rfl ?_
    refine EvF.gop 52 (go_aload_n d_Exp_expand_51 rfl 0 rfl) rfl ?_
    refine EvF.gop 55 (go_get f_Exp_56 d_Exp_expand_52 ((gRd_n _ _ (ndN hN8 0 4 rfl rfl (by decide))).trans ((gRd_n _ _ (ndN hN8 0 3 rfl rfl (by decide))).trans ((gRd_n _ _ (ndN hN8 0 2 rfl rfl (by decide))).trans ((gRd_n _ _ (ndN hN8 0 1 rfl rfl (by decide))).trans (gRd_s _ _ _))))) rfl) rfl ?_
    by_cases c1 : (nI Z.1.2.1) ≤ 0
    · have c1x : Z.1.2.1 ≤ 0 := (nI_leI (a := Z.1.2.1) (b := 0) (by omega) (by decide)).mp c1
      have c1y : ¬ 0 < Z.1.2.1 := by omega
      refine EvF.gop 63 (go_if_le_t 63 d_Exp_expand_55 (by decide) (c1)) rfl ?_
      refine EvF.gop 64 (go_iconst (v := 0) d_Exp_expand_63 (by decide)) rfl ?_
      exact EvF.ri d_Exp_expand_64 rfl (by rw [xpF]; simp [*]) (rfl)
    · have c1x : 0 < Z.1.2.1 := Nat.lt_of_not_le (fun q9 => c1 ((nI_leI (a := Z.1.2.1) (b := 0) (by omega) (by decide)).mpr q9))
      have c1y : ¬ Z.1.2.1 ≤ 0 := by omega
      refine EvF.gop 58 (go_if_le_f 63 d_Exp_expand_55 (by decide) (c1)) rfl ?_
      refine EvF.gop 60 (go_bipush (v := (-3)) d_Exp_expand_58 (by decide)) rfl ?_
      refine EvF.gop 64 (go_goto 64 d_Exp_expand_60 (by decide)) rfl ?_
      exact EvF.ri d_Exp_expand_64 rfl (by rw [xpF]; simp [*]) (rfl)
  | succ r ih =>
    intro k Z hk hz
    have hN5 := hN5_of hN8
    have hzo := hz.2.1
    refine EvF.gop 13 (go_iload_n d_Exp_expand_12 rfl 3 rfl) rfl ?_
    refine EvF.gop 16 (go_sipush (v := nI 8060) d_Exp_expand_13 (rfl)) rfl ?_
    refine EvF.gop 19 (go_icmp_ge_f 51 d_Exp_expand_16 (by decide) (nI_ge (by omega) (by decide))) rfl ?_
    refine EvF.gop 20 (go_aload_n d_Exp_expand_19 rfl 0 rfl) rfl ?_
    refine EvF.gop 23 (go_callV [] [.int (bI (decide (Z.1.1 = 200)))] c0_Exp_isListEmpty im_Exp_isListEmpty se_Exp_isListEmpty lk_Exp_44 d_Exp_expand_20 rfl rfl ((gRd_n _ _ (ndN hN8 0 4 rfl rfl (by decide))).trans ((gRd_n _ _ (ndN hN8 0 3 rfl rfl (by decide))).trans ((gRd_n _ _ (ndN hN8 0 2 rfl rfl (by decide))).trans ((gRd_n _ _ (ndN hN8 0 1 rfl rfl (by decide))).trans (gRd_s _ _ _))))) (e_Exp_isListEmpty G (gWr (gWr (gWr M tc (aI G 120 Z.2.2.2.2.2.1)) ts (aI G 120 Z.2.2.2.2.2.2)) t (.inr (3, [.ref tc, .ref ts, .int (nI Z.1.2.2.2.2)]))) x xm xl xg xga xo Z.1.1 Z.1.2.1 Z.1.2.2.1 Z.1.2.2.2.1 Z.2.1 Z.2.2.1 Z.2.2.2.1 Z.2.2.2.2.1 hN5 hz.1) (by decide) rfl rfl (Nat.le_of_ble_eq_true rfl) rfl) rfl ?_
    by_cases c1 : (bI (decide (Z.1.1 = 200))) = 0
    · have c1x : (decide (Z.1.1 = 200)) = false := bI_0.mp c1
      refine EvF.gop 26 (go_if_ne_f 51 d_Exp_expand_23 (by decide) (c1)) rfl ?_
      refine EvF.gop 27 (go_aload_n d_Exp_expand_26 rfl 0 rfl) rfl ?_
      refine EvF.gop 28 (go_aload_n d_Exp_expand_27 rfl 0 rfl) rfl ?_
      refine EvF.gop 31 (go_callV [] [.int (Z.2.2.1 Z.1.1), .ref x] c0_Exp_takeOff im_Exp_takeOff se_Exp_takeOff lk_Exp_48 d_Exp_expand_28 rfl rfl ((gRd_n _ _ (ndN hN8 0 4 rfl rfl (by decide))).trans ((gRd_n _ _ (ndN hN8 0 3 rfl rfl (by decide))).trans ((gRd_n _ _ (ndN hN8 0 2 rfl rfl (by decide))).trans ((gRd_n _ _ (ndN hN8 0 1 rfl rfl (by decide))).trans (gRd_s _ _ _))))) (e_Exp_takeOff G (gWr (gWr (gWr M tc (aI G 120 Z.2.2.2.2.2.1)) ts (aI G 120 Z.2.2.2.2.2.2)) t (.inr (3, [.ref tc, .ref ts, .int (nI Z.1.2.2.2.2)]))) x xm xl xg xga xo Z.1.1 Z.1.2.1 Z.1.2.2.1 Z.1.2.2.2.1 Z.2.1 Z.2.2.1 Z.2.2.2.1 Z.2.2.2.2.1 hN5 (by have := of_decide_eq_false c1x; have := hz.1; omega)) (by decide) rfl rfl (Nat.le_of_ble_eq_true rfl) rfl) rfl ?_
      refine EvF.gop 32 (go_aload_n d_Exp_expand_31 rfl 2 rfl) rfl ?_
      refine EvF.gop 35 (go_callV [.int (Z.2.2.1 Z.1.1), .ref t] [.int ((obZ md mbd mn Z).1)] c0_Exp_obey im_Exp_obey se_Exp_obey lk_Exp_52 d_Exp_expand_32 rfl rfl ((gRd_n _ _ (ndN hN8 0 4 rfl rfl (by decide))).trans ((gRd_n _ _ (ndN hN8 0 3 rfl rfl (by decide))).trans ((gRd_n _ _ (ndN hN8 0 2 rfl rfl (by decide))).trans ((gRd_n _ _ (ndN hN8 0 1 rfl rfl (by decide))).trans (gRd_s _ _ _))))) (e_Exp_obey G M x xm xl xg xga xo t tc ts mf mq mb mba mn md mbd (Z.1.1 + 1) Z.1.2.1 Z.1.2.2.1 Z.1.2.2.2.1 Z.1.2.2.2.2 Z.2.1 Z.2.2.1 Z.2.2.2.1 Z.2.2.2.2.1 Z.2.2.2.2.2.1 Z.2.2.2.2.2.2 (Z.2.2.1 Z.1.1) hN8 x0 hxm hM (by have := of_decide_eq_false c1x; have := hz.1; omega) hz.2.1 hz.2.2.1 hz.2.2.2.1 hz.2.2.2.2) (by decide) rfl rfl (Nat.le_of_ble_eq_true rfl) rfl) rfl ?_
      refine EvF.gop 37 (go_istore [(4, .int ((obZ md mbd mn Z).1)), (0, .ref x), (1, .ref b), (2, .ref t), (3, .int (nI k))] d_Exp_expand_35 (by decide) rfl) rfl ?_
      refine EvF.go (go_pick [1, 2, 3, 4, 0] [(0, .ref x), (1, .ref b), (2, .ref t), (3, .int (nI k)), (4, .int ((obZ md mbd mn Z).1))] rfl) ?_
      refine EvF.gop 39 (go_iload d_Exp_expand_37 4 rfl) rfl ?_
      by_cases c2 : ((obZ md mbd mn Z).1) = 0
      · refine EvF.gop 45 (go_if_eq_t 45 d_Exp_expand_39 (by decide) (c2)) rfl ?_
        refine EvF.gop 48 (go_inc1 (n0 := 3) (x := k) [(3, .int (nI (k + 1))), (0, .ref x), (1, .ref b), (2, .ref t), (4, .int ((obZ md mbd mn Z).1))] d_Exp_expand_45 rfl (by decide) rfl) rfl ?_
        refine EvF.go (go_pick [1, 2, 3, 0, 4] [(0, .ref x), (1, .ref b), (2, .ref t), (3, .int (nI (k + 1))), (4, .int ((obZ md mbd mn Z).1))] rfl) ?_
        refine EvF.gop 12 (go_goto 12 d_Exp_expand_48 (by decide)) rfl ?_
        have e200 : ¬ Z.1.1 = 200 := of_decide_eq_false c1x
        rw [show (xpF md mbd mn (r + 1) Z) = (xpF md mbd mn r (obZ md mbd mn Z).2) from by rw [xpF, if_neg e200, if_pos (by assumption)]]
        refine EvF.go (go_pick [0, 1, 2, 3] [(0, .ref x), (1, .ref b), (2, .ref t), (3, .int (nI (k + 1)))] rfl) ?_
        exact ih (k + 1) (obZ md mbd mn Z).2 (by omega) (obF_ok (by have := hz.1; omega) hz.2.1 hz.2.2.1 hz.2.2.2.1 hz.2.2.2.2)
      · refine EvF.gop 42 (go_if_eq_f 45 d_Exp_expand_39 (by decide) (c2)) rfl ?_
        refine EvF.gop 44 (go_iload d_Exp_expand_42 4 rfl) rfl ?_
        have e200 : ¬ Z.1.1 = 200 := of_decide_eq_false c1x
        rw [show (xpF md mbd mn (r + 1) Z) = (obZ md mbd mn Z) from by rw [xpF, if_neg e200, if_neg (by assumption)]]
        exact EvF.ri d_Exp_expand_44 rfl (rfl) (rfl)
    · have c1x : (decide (Z.1.1 = 200)) = true := bI_n0.mp c1
      refine EvF.gop 51 (go_if_ne_t 51 d_Exp_expand_23 (by decide) (c1)) rfl ?_
      refine EvF.gop 52 (go_aload_n d_Exp_expand_51 rfl 0 rfl) rfl ?_
      refine EvF.gop 55 (go_get f_Exp_56 d_Exp_expand_52 ((gRd_n _ _ (ndN hN8 0 4 rfl rfl (by decide))).trans ((gRd_n _ _ (ndN hN8 0 3 rfl rfl (by decide))).trans ((gRd_n _ _ (ndN hN8 0 2 rfl rfl (by decide))).trans ((gRd_n _ _ (ndN hN8 0 1 rfl rfl (by decide))).trans (gRd_s _ _ _))))) rfl) rfl ?_
      by_cases c3 : (nI Z.1.2.1) ≤ 0
      · have c3x : Z.1.2.1 ≤ 0 := (nI_leI (a := Z.1.2.1) (b := 0) (by omega) (by decide)).mp c3
        have c3y : ¬ 0 < Z.1.2.1 := by omega
        refine EvF.gop 63 (go_if_le_t 63 d_Exp_expand_55 (by decide) (c3)) rfl ?_
        refine EvF.gop 64 (go_iconst (v := 0) d_Exp_expand_63 (by decide)) rfl ?_
        have e200 : Z.1.1 = 200 := of_decide_eq_true c1x
        rw [show (xpF md mbd mn (r + 1) Z) = (if Z.1.2.1 ≤ 0 then 0 else -3, Z) from by rw [xpF, if_pos e200]]
        exact EvF.ri d_Exp_expand_64 rfl (by simp [*]) (rfl)
      · have c3x : 0 < Z.1.2.1 := Nat.lt_of_not_le (fun q9 => c3 ((nI_leI (a := Z.1.2.1) (b := 0) (by omega) (by decide)).mpr q9))
        have c3y : ¬ Z.1.2.1 ≤ 0 := by omega
        refine EvF.gop 58 (go_if_le_f 63 d_Exp_expand_55 (by decide) (c3)) rfl ?_
        refine EvF.gop 60 (go_bipush (v := (-3)) d_Exp_expand_58 (by decide)) rfl ?_
        refine EvF.gop 64 (go_goto 64 d_Exp_expand_60 (by decide)) rfl ?_
        have e200 : Z.1.1 = 200 := of_decide_eq_true c1x
        rw [show (xpF md mbd mn (r + 1) Z) = (if Z.1.2.1 ≤ 0 then 0 else -3, Z) from by rw [xpF, if_pos e200]]
        exact EvF.ri d_Exp_expand_64 rfl (by simp [*]) (rfl)
theorem e_Exp_expand (G : gG) (M : gM) (x xm xl xg xga xo : Nat) (t tc ts : Nat) (mf : Nat → Option Nat) (mq mb mba mn : Nat → Nat) (md : Nat → Bool) (mbd : Nat → Nat → Int32) (b : Nat) (f o cl an tn : Nat) (sp : Int32) (l ar os C S : Nat → Int32) (br bn nb : Nat) (g : Nat → Int32) (hN8 : va_nd [x, xl, xg, xga, xo, t, tc, ts] = true) (x0 : gRd M xm = some (aQ G 3 4 mf)) (hxm : ∀ y ∈ [x, xl, xg, xga, xo, t, tc, ts], xm ≠ y) (hM : MacsAt G M [x, xl, xg, xga, xo, t, tc, ts] mf mq mb mba mn md mbd) (b1 : gRd M b = some (.inr (0, [.ref br, .int (nI bn)]))) (b2 : gRd M br = some (aI G nb g)) (hB : ∀ y ∈ [x, xl, xg, xga, xo, t, tc, ts], b ≠ y) (hB2 : ∀ y ∈ [x, xl, xg, xga, xo, t, tc, ts], br ≠ y) (hbn : bn ≤ 60) (hbb : bn ≤ nb) (hnb : nb < 2 ^ 31) (han : an ≤ 200) : Ev G 5 m_Exp_expand [.ref x, .ref b, .ref t] (gWr (gWr (gWr (gWr (gWr (gWr (gWr (gWr M tc (aI G 120 C)) ts (aI G 120 S)) t (.inr (3, [.ref tc, .ref ts, .int (nI tn)]))) x (.inr (2, [.ref xm, .ref xl, .int (nI f), .ref xg, .ref xo, .int (nI o), .int sp, .int (nI cl)]))) xl (aI G 200 l)) xg (.inr (0, [.ref xga, .int (nI an)]))) xga (aI G 200 ar)) xo (aI G 8 os)) (some (.int (xpF md mbd mn 8060 ((200 - bn, 0, 0, an, 0), 4, wrB l (200 - bn) g bn, ar, os, C, S)).1)) (gWr (gWr (gWr (gWr (gWr (gWr (gWr (gWr M tc (aI G 120 ((xpF md mbd mn 8060 ((200 - bn, 0, 0, an, 0), 4, wrB l (200 - bn) g bn, ar, os, C, S)).2.2.2.2.2.2.1))) ts (aI G 120 ((xpF md mbd mn 8060 ((200 - bn, 0, 0, an, 0), 4, wrB l (200 - bn) g bn, ar, os, C, S)).2.2.2.2.2.2.2))) t (.inr (3, [.ref tc, .ref ts, .int (nI ((xpF md mbd mn 8060 ((200 - bn, 0, 0, an, 0), 4, wrB l (200 - bn) g bn, ar, os, C, S)).2.1.2.2.2.2))]))) x (.inr (2, [.ref xm, .ref xl, .int (nI ((xpF md mbd mn 8060 ((200 - bn, 0, 0, an, 0), 4, wrB l (200 - bn) g bn, ar, os, C, S)).2.1.1)), .ref xg, .ref xo, .int (nI ((xpF md mbd mn 8060 ((200 - bn, 0, 0, an, 0), 4, wrB l (200 - bn) g bn, ar, os, C, S)).2.1.2.1)), .int ((xpF md mbd mn 8060 ((200 - bn, 0, 0, an, 0), 4, wrB l (200 - bn) g bn, ar, os, C, S)).2.2.1), .int (nI ((xpF md mbd mn 8060 ((200 - bn, 0, 0, an, 0), 4, wrB l (200 - bn) g bn, ar, os, C, S)).2.1.2.2.1))]))) xl (aI G 200 ((xpF md mbd mn 8060 ((200 - bn, 0, 0, an, 0), 4, wrB l (200 - bn) g bn, ar, os, C, S)).2.2.2.1))) xg (.inr (0, [.ref xga, .int (nI ((xpF md mbd mn 8060 ((200 - bn, 0, 0, an, 0), 4, wrB l (200 - bn) g bn, ar, os, C, S)).2.1.2.2.2.1))]))) xga (aI G 200 ((xpF md mbd mn 8060 ((200 - bn, 0, 0, an, 0), 4, wrB l (200 - bn) g bn, ar, os, C, S)).2.2.2.2.1))) xo (aI G 8 ((xpF md mbd mn 8060 ((200 - bn, 0, 0, an, 0), 4, wrB l (200 - bn) g bn, ar, os, C, S)).2.2.2.2.2.1))) := by
  have hN5 := hN5_of hN8
  refine Ev.of (Nat.le_of_ble_eq_true rfl) ?_
  show EvF G 5 m_Exp_expand (0, [(0, .ref x), (1, .ref b), (2, .ref t)], [], (gWr (gWr (gWr (gWr (gWr (gWr (gWr (gWr M tc (aI G 120 C)) ts (aI G 120 S)) t (.inr (3, [.ref tc, .ref ts, .int (nI tn)]))) x (.inr (2, [.ref xm, .ref xl, .int (nI f), .ref xg, .ref xo, .int (nI o), .int sp, .int (nI cl)]))) xl (aI G 200 l)) xg (.inr (0, [.ref xga, .int (nI an)]))) xga (aI G 200 ar)) xo (aI G 8 os))) _ _
  refine EvF.gop 1 (go_aload_n d_Exp_expand_0 rfl 0 rfl) rfl ?_
  refine EvF.gop 2 (go_aload_n d_Exp_expand_1 rfl 1 rfl) rfl ?_
  refine EvF.gop 5 (go_callV [.ref b] [] c0_Exp_begin im_Exp_begin se_Exp_begin lk_Exp_34 d_Exp_expand_2 rfl rfl ((gRd_n _ _ (ndN hN8 0 4 rfl rfl (by decide))).trans ((gRd_n _ _ (ndN hN8 0 3 rfl rfl (by decide))).trans ((gRd_n _ _ (ndN hN8 0 2 rfl rfl (by decide))).trans ((gRd_n _ _ (ndN hN8 0 1 rfl rfl (by decide))).trans (gRd_s _ _ _))))) (e_Exp_begin G (gWr (gWr (gWr M tc (aI G 120 C)) ts (aI G 120 S)) t (.inr (3, [.ref tc, .ref ts, .int (nI tn)]))) x xm xl xg xga xo f o cl an sp l ar os b br bn nb g hN5 ((gRd_n _ _ (hB _ (by simp))).trans ((gRd_n _ _ (hB _ (by simp))).trans ((gRd_n _ _ (hB _ (by simp))).trans b1))) ((gRd_n _ _ (hB2 _ (by simp))).trans ((gRd_n _ _ (hB2 _ (by simp))).trans ((gRd_n _ _ (hB2 _ (by simp))).trans b2))) (fun y hy => hB y (by revert hy; simp; intro hy; rcases hy with h | h | h | h | h <;> simp [h])) (fun y hy => hB2 y (by revert hy; simp; intro hy; rcases hy with h | h | h | h | h <;> simp [h])) hbn hbb hnb) (by decide) rfl rfl (Nat.le_of_ble_eq_true rfl) rfl) rfl ?_
  refine EvF.gop 6 (go_aload_n d_Exp_expand_5 rfl 2 rfl) rfl ?_
  refine EvF.gop 7 (go_iconst (v := nI 0) d_Exp_expand_6 (rfl)) rfl ?_
  refine EvF.gop 10 (go_put [.ref tc, .ref ts, .int (nI 0)] f_Exp_38 ft_Txt_2 d_Exp_expand_7 ((gRd_n _ _ (Ne.symm (ndN hN8 4 5 rfl rfl (by decide)))).trans ((gRd_n _ _ (Ne.symm (ndN hN8 3 5 rfl rfl (by decide)))).trans ((gRd_n _ _ (Ne.symm (ndN hN8 2 5 rfl rfl (by decide)))).trans ((gRd_n _ _ (Ne.symm (ndN hN8 1 5 rfl rfl (by decide)))).trans ((gRd_n _ _ (Ne.symm (ndN hN8 0 5 rfl rfl (by decide)))).trans (gRd_s _ _ _)))))) (rfl) (rfl) (Nat.le_of_ble_eq_true rfl) rfl) rfl ?_
  refine EvF.go (go_m (M' := (gWr (gWr (gWr (gWr (gWr (gWr (gWr (gWr M tc (aI G 120 C)) ts (aI G 120 S)) t (.inr (3, [.ref tc, .ref ts, .int (nI 0)]))) x (.inr (2, [.ref xm, .ref xl, .int (nI (200 - bn)), .ref xg, .ref xo, .int (nI 0), .int 4, .int (nI 0)]))) xl (aI G 200 (wrB l (200 - bn) g bn))) xg (.inr (0, [.ref xga, .int (nI an)]))) xga (aI G 200 ar)) xo (aI G 8 os))) ((gWr_cm (gWr (gWr (gWr (gWr (gWr (gWr (gWr M tc (aI G 120 C)) ts (aI G 120 S)) t (.inr (3, [.ref tc, .ref ts, .int (nI tn)]))) x (.inr (2, [.ref xm, .ref xl, .int (nI (200 - bn)), .ref xg, .ref xo, .int (nI 0), .int 4, .int (nI 0)]))) xl (aI G 200 (wrB l (200 - bn) g bn))) xg (.inr (0, [.ref xga, .int (nI an)]))) xga (aI G 200 ar)) (aI G 8 os) (.inr (3, [.ref tc, .ref ts, .int (nI 0)])) (ndN hN8 4 5 rfl rfl (by decide))).trans (congrArg (fun m => gWr m xo (aI G 8 os)) ((gWr_cm (gWr (gWr (gWr (gWr (gWr (gWr M tc (aI G 120 C)) ts (aI G 120 S)) t (.inr (3, [.ref tc, .ref ts, .int (nI tn)]))) x (.inr (2, [.ref xm, .ref xl, .int (nI (200 - bn)), .ref xg, .ref xo, .int (nI 0), .int 4, .int (nI 0)]))) xl (aI G 200 (wrB l (200 - bn) g bn))) xg (.inr (0, [.ref xga, .int (nI an)]))) (aI G 200 ar) (.inr (3, [.ref tc, .ref ts, .int (nI 0)])) (ndN hN8 3 5 rfl rfl (by decide))).trans (congrArg (fun m => gWr m xga (aI G 200 ar)) ((gWr_cm (gWr (gWr (gWr (gWr (gWr M tc (aI G 120 C)) ts (aI G 120 S)) t (.inr (3, [.ref tc, .ref ts, .int (nI tn)]))) x (.inr (2, [.ref xm, .ref xl, .int (nI (200 - bn)), .ref xg, .ref xo, .int (nI 0), .int 4, .int (nI 0)]))) xl (aI G 200 (wrB l (200 - bn) g bn))) (.inr (0, [.ref xga, .int (nI an)])) (.inr (3, [.ref tc, .ref ts, .int (nI 0)])) (ndN hN8 2 5 rfl rfl (by decide))).trans (congrArg (fun m => gWr m xg (.inr (0, [.ref xga, .int (nI an)]))) ((gWr_cm (gWr (gWr (gWr (gWr M tc (aI G 120 C)) ts (aI G 120 S)) t (.inr (3, [.ref tc, .ref ts, .int (nI tn)]))) x (.inr (2, [.ref xm, .ref xl, .int (nI (200 - bn)), .ref xg, .ref xo, .int (nI 0), .int 4, .int (nI 0)]))) (aI G 200 (wrB l (200 - bn) g bn)) (.inr (3, [.ref tc, .ref ts, .int (nI 0)])) (ndN hN8 1 5 rfl rfl (by decide))).trans (congrArg (fun m => gWr m xl (aI G 200 (wrB l (200 - bn) g bn))) ((gWr_cm (gWr (gWr (gWr M tc (aI G 120 C)) ts (aI G 120 S)) t (.inr (3, [.ref tc, .ref ts, .int (nI tn)]))) (.inr (2, [.ref xm, .ref xl, .int (nI (200 - bn)), .ref xg, .ref xo, .int (nI 0), .int 4, .int (nI 0)])) (.inr (3, [.ref tc, .ref ts, .int (nI 0)])) (ndN hN8 0 5 rfl rfl (by decide))).trans (congrArg (fun m => gWr m x (.inr (2, [.ref xm, .ref xl, .int (nI (200 - bn)), .ref xg, .ref xo, .int (nI 0), .int 4, .int (nI 0)]))) (gWr_wr (gWr (gWr M tc (aI G 120 C)) ts (aI G 120 S)) t (.inr (3, [.ref tc, .ref ts, .int (nI tn)])) (.inr (3, [.ref tc, .ref ts, .int (nI 0)])))))))))))))) ?_
  refine EvF.gop 11 (go_iconst (v := nI 0) d_Exp_expand_10 (rfl)) rfl ?_
  refine EvF.gop 12 (go_istore_n [(3, .int (nI 0)), (0, .ref x), (1, .ref b), (2, .ref t)] d_Exp_expand_11 rfl (by decide) rfl) rfl ?_
  refine EvF.go (go_pick [1, 2, 3, 0] [(0, .ref x), (1, .ref b), (2, .ref t), (3, .int (nI 0))] rfl) ?_
  exact g_Exp_expand G M x xm xl xg xga xo t tc ts mf mq mb mba mn md mbd b hN8 x0 hxm hM 8060 0 ((200 - bn, 0, 0, an, 0), 4, wrB l (200 - bn) g bn, ar, os, C, S) rfl ⟨by show 200 - bn ≤ 200; omega, by show 0 ≤ 8; omega, by show 0 ≤ 40; omega, han, by show 0 ≤ 120; omega⟩
