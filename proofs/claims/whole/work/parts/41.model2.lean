/-- the inside of a group is taken off as an argument: found?, list length, list, argument length, argument -/
def mgF : Nat → Nat → (Nat → Int32) → Nat → Nat → (Nat → Int32) → Bool × Nat × (Nat → Int32) × Nat × (Nat → Int32)
  | 0, n, l, _, gn, g => (false, n, l, gn, g)
  | r + 1, n, l, d, gn, g =>
    if n = 0 then (false, n, l, gn, g)
    else if 0 ≤ l 0 then
      (if (if l 0 = 123 then d + 1 else if l 0 = 125 then d - 1 else d) = 0 then (true, n - 1, shF l (n - 1), gn, g)
       else mgF r (n - 1) (shF l (n - 1)) (if l 0 = 123 then d + 1 else if l 0 = 125 then d - 1 else d) (gn + 1) (upd g gn (l 0)))
    else (false, n - 1, shF l (n - 1), gn, g)
theorem g_Mod_tg (G : gG) (M : gM) (A : Nat) (a : Nat → Nat) (s : Nat → Int32) (c : Int64) (l0 g0 : Nat → Int32) (hI : InjA A a) (hA : gRd M A = some (.inr (11, oMod a s c))) (m10 : gRd M (a 10) = some (aI G 200 l0)) (m12 : gRd M (a 12) = some (aI G 200 g0)) : ∀ (r k : Nat) (n : Nat) (l : Nat → Int32) (d gn : Nat) (g : Nat → Int32), k + r = 201 → 0 < d → d + r ≤ 300 → gn + n < 200 → EvF G 1 m_Mod_takeArgument (46, [(0, .ref A), (2, .int (nI d)), (3, .int (nI k))], [], (gWr (gWr (gWr M A (.inr (11, oMod a (upd (upd s 14 (nI n)) 15 (nI gn)) c))) (a 10) (aI G 200 l)) (a 12) (aI G 200 g))) (some (.int (bI (mgF r n l d gn g).1))) (gWr (gWr (gWr M A (.inr (11, oMod a (upd (upd s 14 (nI ((mgF r n l d gn g).2.1))) 15 (nI ((mgF r n l d gn g).2.2.2.1))) c))) (a 10) (aI G 200 ((mgF r n l d gn g).2.2.1))) (a 12) (aI G 200 ((mgF r n l d gn g).2.2.2.2))) := by
  intro r
  induction r with
  | zero =>
    intro k n l d gn g hk hd hd2 hgn
    refine EvF.gop 47 (go_iload_n d_Mod_takeArgument_46 rfl 2 rfl) rfl ?_
    refine EvF.gop 50 (go_sipush (v := nI 201) d_Mod_takeArgument_47 (rfl)) rfl ?_
    refine EvF.gop 114 (go_icmp_ge_t 114 d_Mod_takeArgument_50 (by decide) (nI_le (by omega) (by omega))) rfl ?_
    refine EvF.gop 115 (go_iconst (v := 0) d_Mod_takeArgument_114 (by decide)) rfl ?_
    exact EvF.rz d_Mod_takeArgument_115 rfl (by decide) (rfl) (rfl)
  | succ r ih =>
    intro k n l d gn g hk hd hd2 hgn
    refine EvF.gop 47 (go_iload_n d_Mod_takeArgument_46 rfl 2 rfl) rfl ?_
    refine EvF.gop 50 (go_sipush (v := nI 201) d_Mod_takeArgument_47 (rfl)) rfl ?_
    refine EvF.gop 53 (go_icmp_ge_f 114 d_Mod_takeArgument_50 (by decide) (nI_ge (by omega) (by omega))) rfl ?_
    refine EvF.gop 54 (go_aload_n d_Mod_takeArgument_53 rfl 0 rfl) rfl ?_
    by_cases hn0 : n = 0
    · refine EvF.gop 57 (go_callV [] [.int (-1)] c0_Mod_take im_Mod_take se_Mod_take lk_Mod_131 d_Mod_takeArgument_54 rfl rfl ((gRd_n _ _ (hI.2 12)).trans ((gRd_n _ _ (hI.2 10)).trans (gRd_s _ _ _))) (e_Mod_takeE G _ A a (upd (upd s 14 (nI n)) 15 (nI gn)) c l hI ((gRd_n _ _ (hI.2 12)).trans ((gRd_n _ _ (hI.2 10)).trans (gRd_s _ _ _))) ((gRd_n _ _ (hI.n (i := 10) (j := 12) (by decide))).trans (gRd_s _ _ _)) (by show nI n = 0; rw [hn0]; rfl)) (by decide) rfl rfl (Nat.le_of_ble_eq_true rfl) rfl) rfl ?_
      refine EvF.gop 58 (go_istore_n [(1, .int (-1)), (0, .ref A), (2, .int (nI d)), (3, .int (nI k))] d_Mod_takeArgument_57 rfl (by decide) rfl) rfl ?_
      refine EvF.go (go_pick [1, 0, 2, 3] [(0, .ref A), (1, .int (-1)), (2, .int (nI d)), (3, .int (nI k))] rfl) ?_
      refine EvF.gop 59 (go_iload_n d_Mod_takeArgument_58 rfl 1 rfl) rfl ?_
      refine EvF.gop 62 (go_if_ge_f 64 d_Mod_takeArgument_59 (by decide) (by decide)) rfl ?_
      refine EvF.gop 63 (go_iconst (v := 0) d_Mod_takeArgument_62 (by decide)) rfl ?_
      rw [show (mgF (r + 1) n l d gn g) = (false, n, l, gn, g) from by rw [mgF, if_pos hn0]]
      exact EvF.rz d_Mod_takeArgument_63 rfl (by decide) (rfl) (rfl)
    · refine EvF.gop 57 (go_callV [] [.int (l 0)] c0_Mod_take im_Mod_take se_Mod_take lk_Mod_131 d_Mod_takeArgument_54 rfl rfl ((gRd_n _ _ (hI.2 12)).trans ((gRd_n _ _ (hI.2 10)).trans (gRd_s _ _ _))) (e_Mod_take G _ A a (upd (upd s 14 (nI n)) 15 (nI gn)) c l (n - 1) hI ((gRd_n _ _ (hI.2 12)).trans ((gRd_n _ _ (hI.2 10)).trans (gRd_s _ _ _))) ((gRd_n _ _ (hI.n (i := 10) (j := 12) (by decide))).trans (gRd_s _ _ _)) (by show nI n = nI (n - 1 + 1); rw [Nat.sub_add_cancel (by omega)]) (by omega)) (by decide) rfl rfl (Nat.le_of_ble_eq_true rfl) rfl) rfl ?_
      refine EvF.go (go_m (M' := (gWr (gWr (gWr M A (.inr (11, oMod a (upd (upd s 14 (nI (n - 1))) 15 (nI gn)) c))) (a 10) (aI G 200 (shF l (n - 1)))) (a 12) (aI G 200 g))) ((congrArg (fun mZ => gWr mZ (a 10) (aI G 200 (shF l (n - 1)))) ((gWr_cm (gWr (gWr M A (.inr (11, oMod a (upd (upd s 14 (nI n)) 15 (nI gn)) c))) (a 10) (aI G 200 l)) (aI G 200 g) (.inr (11, oMod a (upd (upd s 14 (nI (n - 1))) 15 (nI gn)) c)) (Ne.symm (hI.2 12))).trans (congrArg (fun mZ => gWr mZ (a 12) (aI G 200 g)) ((gWr_cm (gWr M A (.inr (11, oMod a (upd (upd s 14 (nI n)) 15 (nI gn)) c))) (aI G 200 l) (.inr (11, oMod a (upd (upd s 14 (nI (n - 1))) 15 (nI gn)) c)) (Ne.symm (hI.2 10))).trans (congrArg (fun mZ => gWr mZ (a 10) (aI G 200 l)) (gWr_wr M A (.inr (11, oMod a (upd (upd s 14 (nI n)) 15 (nI gn)) c)) (.inr (11, oMod a (upd (upd s 14 (nI (n - 1))) 15 (nI gn)) c)))))))).trans ((gWr_cm (gWr (gWr M A (.inr (11, oMod a (upd (upd s 14 (nI (n - 1))) 15 (nI gn)) c))) (a 10) (aI G 200 l)) (aI G 200 g) (aI G 200 (shF l (n - 1))) (hI.n (i := 12) (j := 10) (by decide))).trans (congrArg (fun mZ => gWr mZ (a 12) (aI G 200 g)) (gWr_wr (gWr M A (.inr (11, oMod a (upd (upd s 14 (nI (n - 1))) 15 (nI gn)) c))) (a 10) (aI G 200 l) (aI G 200 (shF l (n - 1)))))))) ?_
      refine EvF.gop 58 (go_istore_n [(1, .int (l 0)), (0, .ref A), (2, .int (nI d)), (3, .int (nI k))] d_Mod_takeArgument_57 rfl (by decide) rfl) rfl ?_
      refine EvF.go (go_pick [1, 0, 2, 3] [(0, .ref A), (1, .int (l 0)), (2, .int (nI d)), (3, .int (nI k))] rfl) ?_
      refine EvF.gop 59 (go_iload_n d_Mod_takeArgument_58 rfl 1 rfl) rfl ?_
      by_cases c11 : 0 ≤ (l 0)
      · have c11x : ¬ (l 0) < 0 := Int32.not_lt.mpr c11
        refine EvF.gop 64 (go_if_ge_t 64 d_Mod_takeArgument_59 (by decide) (c11)) rfl ?_
        refine EvF.gop 65 (go_iload_n d_Mod_takeArgument_64 rfl 1 rfl) rfl ?_
        refine EvF.gop 67 (go_bipush (v := 123) d_Mod_takeArgument_65 (by decide)) rfl ?_
        by_cases c12 : (l 0) = 123
        · refine EvF.gop 70 (go_icmp_ne_f 73 d_Mod_takeArgument_67 (by decide) (c12)) rfl ?_
          refine EvF.gop 73 (go_inc1 (n0 := 2) (x := d) [(2, .int (nI (d + 1))), (0, .ref A), (1, .int (l 0)), (3, .int (nI k))] d_Mod_takeArgument_70 rfl (by decide) rfl) rfl ?_
          refine EvF.go (go_pick [1, 2, 0, 3] [(0, .ref A), (1, .int (l 0)), (2, .int (nI (d + 1))), (3, .int (nI k))] rfl) ?_
          refine EvF.gop 74 (go_iload_n d_Mod_takeArgument_73 rfl 1 rfl) rfl ?_
          refine EvF.gop 76 (go_bipush (v := 125) d_Mod_takeArgument_74 (by decide)) rfl ?_
          refine EvF.gop 82 (go_icmp_ne_t 82 d_Mod_takeArgument_76 (by decide) (fun q => absurd ((‹l 0 = 123› : l 0 = 123).symm.trans q) (by decide))) rfl ?_
          refine EvF.gop 83 (go_iload_n d_Mod_takeArgument_82 rfl 2 rfl) rfl ?_
          by_cases c13 : (nI (d + 1)) = 0
          · have c13x : (d + 1) = 0 := (nI_eq (a := (d + 1)) (b := 0) (by omega) (by decide)).mp c13
            refine EvF.gop 86 (go_if_ne_f 88 d_Mod_takeArgument_83 (by decide) (c13)) rfl ?_
            refine EvF.gop 87 (go_iconst (v := 1) d_Mod_takeArgument_86 (by decide)) rfl ?_
            have e1 : (if l 0 = 123 then d + 1 else if l 0 = 125 then d - 1 else d) = (d + 1) := by simp [*]
            rw [show (mgF (r + 1) n l d gn g) = (true, n - 1, shF l (n - 1), gn, g) from by rw [mgF, if_neg hn0, if_pos (by assumption), e1, if_pos (by omega)]]
            exact EvF.rz d_Mod_takeArgument_87 rfl (by decide) (rfl) (rfl)
          · have c13x : ¬ (d + 1) = 0 := fun q9 => c13 ((nI_eq (a := (d + 1)) (b := 0) (by omega) (by decide)).mpr q9)
            refine EvF.gop 88 (go_if_ne_t 88 d_Mod_takeArgument_83 (by decide) (c13)) rfl ?_
            refine EvF.gop 89 (go_aload_n d_Mod_takeArgument_88 rfl 0 rfl) rfl ?_
            refine EvF.gop 92 (go_get f_Mod_40 d_Mod_takeArgument_89 ((gRd_n _ _ (hI.2 12)).trans ((gRd_n _ _ (hI.2 10)).trans (gRd_s _ _ _))) rfl) rfl ?_
            refine EvF.gop 93 (go_aload_n d_Mod_takeArgument_92 rfl 0 rfl) rfl ?_
            refine EvF.gop 96 (go_get f_Mod_128 d_Mod_takeArgument_93 ((gRd_n _ _ (hI.2 12)).trans ((gRd_n _ _ (hI.2 10)).trans (gRd_s _ _ _))) rfl) rfl ?_
            refine EvF.gop 97 (go_iload_n d_Mod_takeArgument_96 rfl 1 rfl) rfl ?_
            refine EvF.gop 98 (go_iast (j := gn) d_Mod_takeArgument_97 (gRd_s _ _ _) (rfl) (by omega) (by omega)) rfl ?_
            refine EvF.go (go_m (M' := (gWr (gWr (gWr M A (.inr (11, oMod a (upd (upd s 14 (nI (n - 1))) 15 (nI gn)) c))) (a 10) (aI G 200 (shF l (n - 1)))) (a 12) (aI G 200 (upd g gn (l 0))))) (gWr_wr (gWr (gWr M A (.inr (11, oMod a (upd (upd s 14 (nI (n - 1))) 15 (nI gn)) c))) (a 10) (aI G 200 (shF l (n - 1)))) (a 12) (aI G 200 g) (aI G 200 (upd g gn (l 0))))) ?_
            refine EvF.gop 99 (go_aload_n d_Mod_takeArgument_98 rfl 0 rfl) rfl ?_
            refine EvF.gop 100 (go_dup d_Mod_takeArgument_99 rfl) rfl ?_
            refine EvF.gop 103 (go_get f_Mod_128 d_Mod_takeArgument_100 ((gRd_n _ _ (hI.2 12)).trans ((gRd_n _ _ (hI.2 10)).trans (gRd_s _ _ _))) rfl) rfl ?_
            refine EvF.gop 104 (go_iconst (v := 1) d_Mod_takeArgument_103 (by decide)) rfl ?_
            refine EvF.gop 105 (go_iadd d_Mod_takeArgument_104) rfl ?_
            refine EvF.go (go_v (y := nI (gn + 1)) (nI_1 gn)) ?_
            refine EvF.gop 108 (go_put (oMod a (upd (upd s 14 (nI (n - 1))) 15 (nI (gn + 1))) c) f_Mod_128 ft_Mod_15 d_Mod_takeArgument_105 ((gRd_n _ _ (hI.2 12)).trans ((gRd_n _ _ (hI.2 10)).trans (gRd_s _ _ _))) rfl rfl (Nat.le_of_ble_eq_true rfl) rfl) rfl ?_
            refine EvF.go (go_m (M' := (gWr (gWr (gWr M A (.inr (11, oMod a (upd (upd s 14 (nI (n - 1))) 15 (nI (gn + 1))) c))) (a 10) (aI G 200 (shF l (n - 1)))) (a 12) (aI G 200 (upd g gn (l 0))))) ((gWr_cm (gWr (gWr M A (.inr (11, oMod a (upd (upd s 14 (nI (n - 1))) 15 (nI gn)) c))) (a 10) (aI G 200 (shF l (n - 1)))) (aI G 200 (upd g gn (l 0))) (.inr (11, oMod a (upd (upd s 14 (nI (n - 1))) 15 (nI (gn + 1))) c)) (Ne.symm (hI.2 12))).trans (congrArg (fun mZ => gWr mZ (a 12) (aI G 200 (upd g gn (l 0)))) ((gWr_cm (gWr M A (.inr (11, oMod a (upd (upd s 14 (nI (n - 1))) 15 (nI gn)) c))) (aI G 200 (shF l (n - 1))) (.inr (11, oMod a (upd (upd s 14 (nI (n - 1))) 15 (nI (gn + 1))) c)) (Ne.symm (hI.2 10))).trans (congrArg (fun mZ => gWr mZ (a 10) (aI G 200 (shF l (n - 1)))) (gWr_wr M A (.inr (11, oMod a (upd (upd s 14 (nI (n - 1))) 15 (nI gn)) c)) (.inr (11, oMod a (upd (upd s 14 (nI (n - 1))) 15 (nI (gn + 1))) c)))))))) ?_
            refine EvF.gop 111 (go_inc1 (n0 := 3) (x := k) [(3, .int (nI (k + 1))), (0, .ref A), (1, .int (l 0)), (2, .int (nI (d + 1)))] d_Mod_takeArgument_108 rfl (by decide) rfl) rfl ?_
            refine EvF.go (go_pick [1, 2, 3, 0] [(0, .ref A), (1, .int (l 0)), (2, .int (nI (d + 1))), (3, .int (nI (k + 1)))] rfl) ?_
            refine EvF.gop 46 (go_goto 46 d_Mod_takeArgument_111 (by decide)) rfl ?_
            have e1 : (if l 0 = 123 then d + 1 else if l 0 = 125 then d - 1 else d) = (d + 1) := by simp [*]
            rw [show (mgF (r + 1) n l d gn g) = (mgF r (n - 1) (shF l (n - 1)) (d + 1) (gn + 1) (upd g gn (l 0))) from by rw [mgF, if_neg hn0, if_pos (by assumption), e1, if_neg (by omega)]]
            refine EvF.go (go_pick [0, 2, 3] [(0, .ref A), (2, .int (nI (d + 1))), (3, .int (nI (k + 1)))] rfl) ?_
            exact ih (k + 1) _ _ _ _ _ (by omega) (by omega) (by omega) (by omega)
        · refine EvF.gop 73 (go_icmp_ne_t 73 d_Mod_takeArgument_67 (by decide) (c12)) rfl ?_
          refine EvF.gop 74 (go_iload_n d_Mod_takeArgument_73 rfl 1 rfl) rfl ?_
          refine EvF.gop 76 (go_bipush (v := 125) d_Mod_takeArgument_74 (by decide)) rfl ?_
          by_cases c14 : (l 0) = 125
          · refine EvF.gop 79 (go_icmp_ne_f 82 d_Mod_takeArgument_76 (by decide) (c14)) rfl ?_
            refine EvF.gop 82 (go_iinc (n0 := 2) (v := nI (d - 1)) [(2, .int (nI (d - 1))), (0, .ref A), (1, .int (l 0)), (3, .int (nI k))] d_Mod_takeArgument_79 rfl (by rw [ofIntm1, ← Int32.sub_eq_add_neg]; exact pk_sub (b := 1) (by omega)) (by decide) rfl) rfl ?_
            refine EvF.go (go_pick [1, 2, 0, 3] [(0, .ref A), (1, .int (l 0)), (2, .int (nI (d - 1))), (3, .int (nI k))] rfl) ?_
            refine EvF.gop 83 (go_iload_n d_Mod_takeArgument_82 rfl 2 rfl) rfl ?_
            by_cases c15 : (nI (d - 1)) = 0
            · have c15x : (d - 1) = 0 := (nI_eq (a := (d - 1)) (b := 0) (by omega) (by decide)).mp c15
              refine EvF.gop 86 (go_if_ne_f 88 d_Mod_takeArgument_83 (by decide) (c15)) rfl ?_
              refine EvF.gop 87 (go_iconst (v := 1) d_Mod_takeArgument_86 (by decide)) rfl ?_
              have e1 : (if l 0 = 123 then d + 1 else if l 0 = 125 then d - 1 else d) = (d - 1) := by simp [*]
              rw [show (mgF (r + 1) n l d gn g) = (true, n - 1, shF l (n - 1), gn, g) from by rw [mgF, if_neg hn0, if_pos (by assumption), e1, if_pos (by omega)]]
              exact EvF.rz d_Mod_takeArgument_87 rfl (by decide) (rfl) (rfl)
            · have c15x : ¬ (d - 1) = 0 := fun q9 => c15 ((nI_eq (a := (d - 1)) (b := 0) (by omega) (by decide)).mpr q9)
              refine EvF.gop 88 (go_if_ne_t 88 d_Mod_takeArgument_83 (by decide) (c15)) rfl ?_
              refine EvF.gop 89 (go_aload_n d_Mod_takeArgument_88 rfl 0 rfl) rfl ?_
              refine EvF.gop 92 (go_get f_Mod_40 d_Mod_takeArgument_89 ((gRd_n _ _ (hI.2 12)).trans ((gRd_n _ _ (hI.2 10)).trans (gRd_s _ _ _))) rfl) rfl ?_
              refine EvF.gop 93 (go_aload_n d_Mod_takeArgument_92 rfl 0 rfl) rfl ?_
              refine EvF.gop 96 (go_get f_Mod_128 d_Mod_takeArgument_93 ((gRd_n _ _ (hI.2 12)).trans ((gRd_n _ _ (hI.2 10)).trans (gRd_s _ _ _))) rfl) rfl ?_
              refine EvF.gop 97 (go_iload_n d_Mod_takeArgument_96 rfl 1 rfl) rfl ?_
              refine EvF.gop 98 (go_iast (j := gn) d_Mod_takeArgument_97 (gRd_s _ _ _) (rfl) (by omega) (by omega)) rfl ?_
              refine EvF.go (go_m (M' := (gWr (gWr (gWr M A (.inr (11, oMod a (upd (upd s 14 (nI (n - 1))) 15 (nI gn)) c))) (a 10) (aI G 200 (shF l (n - 1)))) (a 12) (aI G 200 (upd g gn (l 0))))) (gWr_wr (gWr (gWr M A (.inr (11, oMod a (upd (upd s 14 (nI (n - 1))) 15 (nI gn)) c))) (a 10) (aI G 200 (shF l (n - 1)))) (a 12) (aI G 200 g) (aI G 200 (upd g gn (l 0))))) ?_
              refine EvF.gop 99 (go_aload_n d_Mod_takeArgument_98 rfl 0 rfl) rfl ?_
              refine EvF.gop 100 (go_dup d_Mod_takeArgument_99 rfl) rfl ?_
              refine EvF.gop 103 (go_get f_Mod_128 d_Mod_takeArgument_100 ((gRd_n _ _ (hI.2 12)).trans ((gRd_n _ _ (hI.2 10)).trans (gRd_s _ _ _))) rfl) rfl ?_
              refine EvF.gop 104 (go_iconst (v := 1) d_Mod_takeArgument_103 (by decide)) rfl ?_
              refine EvF.gop 105 (go_iadd d_Mod_takeArgument_104) rfl ?_
              refine EvF.go (go_v (y := nI (gn + 1)) (nI_1 gn)) ?_
              refine EvF.gop 108 (go_put (oMod a (upd (upd s 14 (nI (n - 1))) 15 (nI (gn + 1))) c) f_Mod_128 ft_Mod_15 d_Mod_takeArgument_105 ((gRd_n _ _ (hI.2 12)).trans ((gRd_n _ _ (hI.2 10)).trans (gRd_s _ _ _))) rfl rfl (Nat.le_of_ble_eq_true rfl) rfl) rfl ?_
              refine EvF.go (go_m (M' := (gWr (gWr (gWr M A (.inr (11, oMod a (upd (upd s 14 (nI (n - 1))) 15 (nI (gn + 1))) c))) (a 10) (aI G 200 (shF l (n - 1)))) (a 12) (aI G 200 (upd g gn (l 0))))) ((gWr_cm (gWr (gWr M A (.inr (11, oMod a (upd (upd s 14 (nI (n - 1))) 15 (nI gn)) c))) (a 10) (aI G 200 (shF l (n - 1)))) (aI G 200 (upd g gn (l 0))) (.inr (11, oMod a (upd (upd s 14 (nI (n - 1))) 15 (nI (gn + 1))) c)) (Ne.symm (hI.2 12))).trans (congrArg (fun mZ => gWr mZ (a 12) (aI G 200 (upd g gn (l 0)))) ((gWr_cm (gWr M A (.inr (11, oMod a (upd (upd s 14 (nI (n - 1))) 15 (nI gn)) c))) (aI G 200 (shF l (n - 1))) (.inr (11, oMod a (upd (upd s 14 (nI (n - 1))) 15 (nI (gn + 1))) c)) (Ne.symm (hI.2 10))).trans (congrArg (fun mZ => gWr mZ (a 10) (aI G 200 (shF l (n - 1)))) (gWr_wr M A (.inr (11, oMod a (upd (upd s 14 (nI (n - 1))) 15 (nI gn)) c)) (.inr (11, oMod a (upd (upd s 14 (nI (n - 1))) 15 (nI (gn + 1))) c)))))))) ?_
              refine EvF.gop 111 (go_inc1 (n0 := 3) (x := k) [(3, .int (nI (k + 1))), (0, .ref A), (1, .int (l 0)), (2, .int (nI (d - 1)))] d_Mod_takeArgument_108 rfl (by decide) rfl) rfl ?_
              refine EvF.go (go_pick [1, 2, 3, 0] [(0, .ref A), (1, .int (l 0)), (2, .int (nI (d - 1))), (3, .int (nI (k + 1)))] rfl) ?_
              refine EvF.gop 46 (go_goto 46 d_Mod_takeArgument_111 (by decide)) rfl ?_
              have e1 : (if l 0 = 123 then d + 1 else if l 0 = 125 then d - 1 else d) = (d - 1) := by simp [*]
              rw [show (mgF (r + 1) n l d gn g) = (mgF r (n - 1) (shF l (n - 1)) (d - 1) (gn + 1) (upd g gn (l 0))) from by rw [mgF, if_neg hn0, if_pos (by assumption), e1, if_neg (by omega)]]
              refine EvF.go (go_pick [0, 2, 3] [(0, .ref A), (2, .int (nI (d - 1))), (3, .int (nI (k + 1)))] rfl) ?_
              exact ih (k + 1) _ _ _ _ _ (by omega) (by omega) (by omega) (by omega)
          · refine EvF.gop 82 (go_icmp_ne_t 82 d_Mod_takeArgument_76 (by decide) (c14)) rfl ?_
            refine EvF.gop 83 (go_iload_n d_Mod_takeArgument_82 rfl 2 rfl) rfl ?_
            by_cases c16 : (nI d) = 0
            · have c16x : d = 0 := (nI_eq (a := d) (b := 0) (by omega) (by decide)).mp c16
              refine EvF.gop 86 (go_if_ne_f 88 d_Mod_takeArgument_83 (by decide) (c16)) rfl ?_
              refine EvF.gop 87 (go_iconst (v := 1) d_Mod_takeArgument_86 (by decide)) rfl ?_
              have e1 : (if l 0 = 123 then d + 1 else if l 0 = 125 then d - 1 else d) = d := by simp [*]
              rw [show (mgF (r + 1) n l d gn g) = (true, n - 1, shF l (n - 1), gn, g) from by rw [mgF, if_neg hn0, if_pos (by assumption), e1, if_pos (by omega)]]
              exact EvF.rz d_Mod_takeArgument_87 rfl (by decide) (rfl) (rfl)
            · have c16x : ¬ d = 0 := fun q9 => c16 ((nI_eq (a := d) (b := 0) (by omega) (by decide)).mpr q9)
              refine EvF.gop 88 (go_if_ne_t 88 d_Mod_takeArgument_83 (by decide) (c16)) rfl ?_
              refine EvF.gop 89 (go_aload_n d_Mod_takeArgument_88 rfl 0 rfl) rfl ?_
              refine EvF.gop 92 (go_get f_Mod_40 d_Mod_takeArgument_89 ((gRd_n _ _ (hI.2 12)).trans ((gRd_n _ _ (hI.2 10)).trans (gRd_s _ _ _))) rfl) rfl ?_
              refine EvF.gop 93 (go_aload_n d_Mod_takeArgument_92 rfl 0 rfl) rfl ?_
              refine EvF.gop 96 (go_get f_Mod_128 d_Mod_takeArgument_93 ((gRd_n _ _ (hI.2 12)).trans ((gRd_n _ _ (hI.2 10)).trans (gRd_s _ _ _))) rfl) rfl ?_
              refine EvF.gop 97 (go_iload_n d_Mod_takeArgument_96 rfl 1 rfl) rfl ?_
              refine EvF.gop 98 (go_iast (j := gn) d_Mod_takeArgument_97 (gRd_s _ _ _) (rfl) (by omega) (by omega)) rfl ?_
              refine EvF.go (go_m (M' := (gWr (gWr (gWr M A (.inr (11, oMod a (upd (upd s 14 (nI (n - 1))) 15 (nI gn)) c))) (a 10) (aI G 200 (shF l (n - 1)))) (a 12) (aI G 200 (upd g gn (l 0))))) (gWr_wr (gWr (gWr M A (.inr (11, oMod a (upd (upd s 14 (nI (n - 1))) 15 (nI gn)) c))) (a 10) (aI G 200 (shF l (n - 1)))) (a 12) (aI G 200 g) (aI G 200 (upd g gn (l 0))))) ?_
              refine EvF.gop 99 (go_aload_n d_Mod_takeArgument_98 rfl 0 rfl) rfl ?_
              refine EvF.gop 100 (go_dup d_Mod_takeArgument_99 rfl) rfl ?_
              refine EvF.gop 103 (go_get f_Mod_128 d_Mod_takeArgument_100 ((gRd_n _ _ (hI.2 12)).trans ((gRd_n _ _ (hI.2 10)).trans (gRd_s _ _ _))) rfl) rfl ?_
              refine EvF.gop 104 (go_iconst (v := 1) d_Mod_takeArgument_103 (by decide)) rfl ?_
              refine EvF.gop 105 (go_iadd d_Mod_takeArgument_104) rfl ?_
              refine EvF.go (go_v (y := nI (gn + 1)) (nI_1 gn)) ?_
              refine EvF.gop 108 (go_put (oMod a (upd (upd s 14 (nI (n - 1))) 15 (nI (gn + 1))) c) f_Mod_128 ft_Mod_15 d_Mod_takeArgument_105 ((gRd_n _ _ (hI.2 12)).trans ((gRd_n _ _ (hI.2 10)).trans (gRd_s _ _ _))) rfl rfl (Nat.le_of_ble_eq_true rfl) rfl) rfl ?_
              refine EvF.go (go_m (M' := (gWr (gWr (gWr M A (.inr (11, oMod a (upd (upd s 14 (nI (n - 1))) 15 (nI (gn + 1))) c))) (a 10) (aI G 200 (shF l (n - 1)))) (a 12) (aI G 200 (upd g gn (l 0))))) ((gWr_cm (gWr (gWr M A (.inr (11, oMod a (upd (upd s 14 (nI (n - 1))) 15 (nI gn)) c))) (a 10) (aI G 200 (shF l (n - 1)))) (aI G 200 (upd g gn (l 0))) (.inr (11, oMod a (upd (upd s 14 (nI (n - 1))) 15 (nI (gn + 1))) c)) (Ne.symm (hI.2 12))).trans (congrArg (fun mZ => gWr mZ (a 12) (aI G 200 (upd g gn (l 0)))) ((gWr_cm (gWr M A (.inr (11, oMod a (upd (upd s 14 (nI (n - 1))) 15 (nI gn)) c))) (aI G 200 (shF l (n - 1))) (.inr (11, oMod a (upd (upd s 14 (nI (n - 1))) 15 (nI (gn + 1))) c)) (Ne.symm (hI.2 10))).trans (congrArg (fun mZ => gWr mZ (a 10) (aI G 200 (shF l (n - 1)))) (gWr_wr M A (.inr (11, oMod a (upd (upd s 14 (nI (n - 1))) 15 (nI gn)) c)) (.inr (11, oMod a (upd (upd s 14 (nI (n - 1))) 15 (nI (gn + 1))) c)))))))) ?_
              refine EvF.gop 111 (go_inc1 (n0 := 3) (x := k) [(3, .int (nI (k + 1))), (0, .ref A), (1, .int (l 0)), (2, .int (nI d))] d_Mod_takeArgument_108 rfl (by decide) rfl) rfl ?_
              refine EvF.go (go_pick [1, 2, 3, 0] [(0, .ref A), (1, .int (l 0)), (2, .int (nI d)), (3, .int (nI (k + 1)))] rfl) ?_
              refine EvF.gop 46 (go_goto 46 d_Mod_takeArgument_111 (by decide)) rfl ?_
              have e1 : (if l 0 = 123 then d + 1 else if l 0 = 125 then d - 1 else d) = d := by simp [*]
              rw [show (mgF (r + 1) n l d gn g) = (mgF r (n - 1) (shF l (n - 1)) d (gn + 1) (upd g gn (l 0))) from by rw [mgF, if_neg hn0, if_pos (by assumption), e1, if_neg (by omega)]]
              refine EvF.go (go_pick [0, 2, 3] [(0, .ref A), (2, .int (nI d)), (3, .int (nI (k + 1)))] rfl) ?_
              exact ih (k + 1) _ _ _ _ _ (by omega) (by omega) (by omega) (by omega)
      · have c11x : (l 0) < 0 := Int32.not_le.mp c11
        refine EvF.gop 62 (go_if_ge_f 64 d_Mod_takeArgument_59 (by decide) (c11)) rfl ?_
        refine EvF.gop 63 (go_iconst (v := 0) d_Mod_takeArgument_62 (by decide)) rfl ?_
        rw [show (mgF (r + 1) n l d gn g) = (false, n - 1, shF l (n - 1), gn, g) from by rw [mgF, if_neg hn0, if_neg (by assumption)]]
        exact EvF.rz d_Mod_takeArgument_63 rfl (by decide) (rfl) (rfl)
def maF (n : Nat) (l g : Nat → Int32) : Bool × Nat × (Nat → Int32) × Nat × (Nat → Int32) :=
  if n = 0 then (false, n, l, 0, g) else if l 0 < 0 then (false, n - 1, shF l (n - 1), 0, g) else if l 0 = 125 then (false, n - 1, shF l (n - 1), 0, g)
  else if l 0 = 123 then mgF 201 (n - 1) (shF l (n - 1)) 1 0 g else (true, n - 1, shF l (n - 1), 1, upd g 0 (l 0))
theorem e_Mod_takeArgument (G : gG) (M : gM) (A : Nat) (a : Nat → Nat) (s : Nat → Int32) (c : Int64) (l g : Nat → Int32) (n : Nat) (hI : InjA A a) (hA : gRd M A = some (.inr (11, oMod a s c))) (m10 : gRd M (a 10) = some (aI G 200 l)) (m12 : gRd M (a 12) = some (aI G 200 g)) (hs : s 14 = nI n) (hn : n ≤ 200) : Ev G 1 m_Mod_takeArgument [.ref A] M (some (.int (bI (maF n l g).1))) (gWr (gWr (gWr M A (.inr (11, oMod a (upd (upd s 14 (nI ((maF n l g).2.1))) 15 (nI ((maF n l g).2.2.2.1))) c))) (a 10) (aI G 200 ((maF n l g).2.2.1))) (a 12) (aI G 200 ((maF n l g).2.2.2.2))) := by
  refine Ev.of (Nat.le_of_ble_eq_true rfl) ?_
  show EvF G 1 m_Mod_takeArgument (0, [(0, .ref A)], [], M) _ _
  refine EvF.gop 1 (go_aload_n d_Mod_takeArgument_0 rfl 0 rfl) rfl ?_
  refine EvF.gop 2 (go_iconst (v := nI 0) d_Mod_takeArgument_1 (rfl)) rfl ?_
  refine EvF.gop 5 (go_put (oMod a (upd s 15 (nI 0)) c) f_Mod_128 ft_Mod_15 d_Mod_takeArgument_2 (hA) rfl rfl (Nat.le_of_ble_eq_true rfl) rfl) rfl ?_
  refine EvF.go (go_m (M' := gWr M A (.inr (11, oMod a (upd (upd s 14 (nI n)) 15 (nI 0)) c))) (by rw [show oMod a (upd s 15 (nI 0)) c = oMod a (upd (upd s 14 (nI n)) 15 (nI 0)) c from by show _ = _; simp only [oMod, upd]; rw [hs]; rfl])) ?_
  refine EvF.gop 6 (go_aload_n d_Mod_takeArgument_5 rfl 0 rfl) rfl ?_
  by_cases hn0 : n = 0
  · refine EvF.gop 9 (go_callV [] [.int (-1)] c0_Mod_take im_Mod_take se_Mod_take lk_Mod_131 d_Mod_takeArgument_6 rfl rfl (gRd_s _ _ _) (e_Mod_takeE G _ A a (upd (upd s 14 (nI n)) 15 (nI 0)) c l hI (gRd_s _ _ _) ((gRd_n _ _ (Ne.symm (hI.2 10))).trans (m10)) (by show nI n = 0; rw [hn0]; rfl)) (by decide) rfl rfl (Nat.le_of_ble_eq_true rfl) rfl) rfl ?_
    refine EvF.gop 10 (go_istore_n [(1, .int (-1)), (0, .ref A)] d_Mod_takeArgument_9 rfl (by decide) rfl) rfl ?_
    refine EvF.go (go_pick [1, 0] [(0, .ref A), (1, .int (-1))] rfl) ?_
    refine EvF.gop 11 (go_iload_n d_Mod_takeArgument_10 rfl 1 rfl) rfl ?_
    refine EvF.gop 20 (go_if_lt_t 20 d_Mod_takeArgument_11 (by decide) (by decide)) rfl ?_
    refine EvF.gop 21 (go_iconst (v := 0) d_Mod_takeArgument_20 (by decide)) rfl ?_
    rw [show (maF n l g) = (false, n, l, 0, g) from by unfold maF; rw [if_pos hn0]]
    refine EvF.go (go_m (M' := (gWr (gWr M A (.inr (11, oMod a (upd (upd s 14 (nI n)) 15 (nI 0)) c))) (a 10) (aI G 200 l))) (gWr_id ((gRd_n _ _ (Ne.symm (hI.2 10))).trans (m10))).symm) ?_
    refine EvF.go (go_m (M' := (gWr (gWr (gWr M A (.inr (11, oMod a (upd (upd s 14 (nI n)) 15 (nI 0)) c))) (a 10) (aI G 200 l)) (a 12) (aI G 200 g))) (gWr_id ((gRd_n _ _ (hI.n (i := 12) (j := 10) (by decide))).trans ((gRd_n _ _ (Ne.symm (hI.2 12))).trans (m12)))).symm) ?_
    exact EvF.rz d_Mod_takeArgument_21 rfl (by decide) (rfl) (rfl)
  · refine EvF.gop 9 (go_callV [] [.int (l 0)] c0_Mod_take im_Mod_take se_Mod_take lk_Mod_131 d_Mod_takeArgument_6 rfl rfl (gRd_s _ _ _) (e_Mod_take G _ A a (upd (upd s 14 (nI n)) 15 (nI 0)) c l (n - 1) hI (gRd_s _ _ _) ((gRd_n _ _ (Ne.symm (hI.2 10))).trans (m10)) (by show nI n = nI (n - 1 + 1); rw [Nat.sub_add_cancel (by omega)]) (by omega)) (by decide) rfl rfl (Nat.le_of_ble_eq_true rfl) rfl) rfl ?_
    refine EvF.go (go_m (M' := (gWr (gWr M A (.inr (11, oMod a (upd (upd s 14 (nI (n - 1))) 15 (nI 0)) c))) (a 10) (aI G 200 (shF l (n - 1))))) (congrArg (fun mZ => gWr mZ (a 10) (aI G 200 (shF l (n - 1)))) (gWr_wr M A (.inr (11, oMod a (upd (upd s 14 (nI n)) 15 (nI 0)) c)) (.inr (11, oMod a (upd (upd s 14 (nI (n - 1))) 15 (nI 0)) c))))) ?_
    refine EvF.gop 10 (go_istore_n [(1, .int (l 0)), (0, .ref A)] d_Mod_takeArgument_9 rfl (by decide) rfl) rfl ?_
    refine EvF.go (go_pick [1, 0] [(0, .ref A), (1, .int (l 0))] rfl) ?_
    refine EvF.gop 11 (go_iload_n d_Mod_takeArgument_10 rfl 1 rfl) rfl ?_
    by_cases c21 : (l 0) < 0
    · have c21x : ¬ 0 ≤ (l 0) := Int32.not_le.mpr c21
      refine EvF.gop 20 (go_if_lt_t 20 d_Mod_takeArgument_11 (by decide) (c21)) rfl ?_
      refine EvF.gop 21 (go_iconst (v := 0) d_Mod_takeArgument_20 (by decide)) rfl ?_
      rw [show (maF n l g) = (false, n - 1, shF l (n - 1), 0, g) from by unfold maF; rw [if_neg hn0]; first | rw [if_pos (by assumption)] | rw [if_neg (by assumption), if_pos (by assumption)]]
      refine EvF.go (go_m (M' := (gWr (gWr (gWr M A (.inr (11, oMod a (upd (upd s 14 (nI (n - 1))) 15 (nI 0)) c))) (a 10) (aI G 200 (shF l (n - 1)))) (a 12) (aI G 200 g))) (gWr_id ((gRd_n _ _ (hI.n (i := 12) (j := 10) (by decide))).trans ((gRd_n _ _ (Ne.symm (hI.2 12))).trans (m12)))).symm) ?_
      exact EvF.rz d_Mod_takeArgument_21 rfl (by decide) (rfl) (rfl)
    · have c21x : 0 ≤ (l 0) := Int32.not_lt.mp c21
      refine EvF.gop 14 (go_if_lt_f 20 d_Mod_takeArgument_11 (by decide) (c21)) rfl ?_
      refine EvF.gop 15 (go_iload_n d_Mod_takeArgument_14 rfl 1 rfl) rfl ?_
      refine EvF.gop 17 (go_bipush (v := 125) d_Mod_takeArgument_15 (by decide)) rfl ?_
      by_cases c22 : (l 0) = 125
      · refine EvF.gop 20 (go_icmp_ne_f 22 d_Mod_takeArgument_17 (by decide) (c22)) rfl ?_
        refine EvF.gop 21 (go_iconst (v := 0) d_Mod_takeArgument_20 (by decide)) rfl ?_
        rw [show (maF n l g) = (false, n - 1, shF l (n - 1), 0, g) from by unfold maF; rw [if_neg hn0]; first | rw [if_pos (by assumption)] | rw [if_neg (by assumption), if_pos (by assumption)]]
        refine EvF.go (go_m (M' := (gWr (gWr (gWr M A (.inr (11, oMod a (upd (upd s 14 (nI (n - 1))) 15 (nI 0)) c))) (a 10) (aI G 200 (shF l (n - 1)))) (a 12) (aI G 200 g))) (gWr_id ((gRd_n _ _ (hI.n (i := 12) (j := 10) (by decide))).trans ((gRd_n _ _ (Ne.symm (hI.2 12))).trans (m12)))).symm) ?_
        exact EvF.rz d_Mod_takeArgument_21 rfl (by decide) (rfl) (rfl)
      · refine EvF.gop 22 (go_icmp_ne_t 22 d_Mod_takeArgument_17 (by decide) (c22)) rfl ?_
        refine EvF.gop 23 (go_iload_n d_Mod_takeArgument_22 rfl 1 rfl) rfl ?_
        refine EvF.gop 25 (go_bipush (v := 123) d_Mod_takeArgument_23 (by decide)) rfl ?_
        by_cases c23 : (l 0) = 123
        · refine EvF.gop 42 (go_icmp_eq_t 42 d_Mod_takeArgument_25 (by decide) (c23)) rfl ?_
          refine EvF.gop 43 (go_iconst (v := nI 1) d_Mod_takeArgument_42 (rfl)) rfl ?_
          refine EvF.gop 44 (go_istore_n [(2, .int (nI 1)), (0, .ref A), (1, .int (l 0))] d_Mod_takeArgument_43 rfl (by decide) rfl) rfl ?_
          refine EvF.go (go_pick [1, 2, 0] [(0, .ref A), (1, .int (l 0)), (2, .int (nI 1))] rfl) ?_
          refine EvF.gop 45 (go_iconst (v := nI 0) d_Mod_takeArgument_44 (rfl)) rfl ?_
          refine EvF.gop 46 (go_istore_n [(3, .int (nI 0)), (0, .ref A), (1, .int (l 0)), (2, .int (nI 1))] d_Mod_takeArgument_45 rfl (by decide) rfl) rfl ?_
          refine EvF.go (go_pick [1, 2, 3, 0] [(0, .ref A), (1, .int (l 0)), (2, .int (nI 1)), (3, .int (nI 0))] rfl) ?_
          refine EvF.go (go_m (M' := (gWr (gWr (gWr M A (.inr (11, oMod a (upd (upd s 14 (nI (n - 1))) 15 (nI 0)) c))) (a 10) (aI G 200 (shF l (n - 1)))) (a 12) (aI G 200 g))) (gWr_id ((gRd_n _ _ (hI.n (i := 12) (j := 10) (by decide))).trans ((gRd_n _ _ (Ne.symm (hI.2 12))).trans (m12)))).symm) ?_
          rw [show (maF n l g) = mgF 201 (n - 1) (shF l (n - 1)) 1 0 g from by unfold maF; rw [if_neg hn0, if_neg (by assumption), if_neg (by assumption), if_pos (by assumption)]]
          refine EvF.go (go_pick [0, 2, 3] [(0, .ref A), (2, .int (nI 1)), (3, .int (nI 0))] rfl) ?_
          exact g_Mod_tg G M A a s c l g hI hA m10 m12 201 0 (n - 1) (shF l (n - 1)) 1 0 g rfl (by decide) (by decide) (by omega)
        · refine EvF.gop 28 (go_icmp_eq_f 42 d_Mod_takeArgument_25 (by decide) (c23)) rfl ?_
          refine EvF.gop 29 (go_aload_n d_Mod_takeArgument_28 rfl 0 rfl) rfl ?_
          refine EvF.gop 32 (go_get f_Mod_40 d_Mod_takeArgument_29 ((gRd_n _ _ (hI.2 10)).trans (gRd_s _ _ _)) rfl) rfl ?_
          refine EvF.gop 33 (go_iconst (v := 0) d_Mod_takeArgument_32 (by decide)) rfl ?_
          refine EvF.gop 34 (go_iload_n d_Mod_takeArgument_33 rfl 1 rfl) rfl ?_
          refine EvF.gop 35 (go_iast (j := 0) d_Mod_takeArgument_34 ((gRd_n _ _ (hI.n (i := 12) (j := 10) (by decide))).trans ((gRd_n _ _ (Ne.symm (hI.2 12))).trans (m12))) (rfl) (by decide) (by decide)) rfl ?_
          refine EvF.gop 36 (go_aload_n d_Mod_takeArgument_35 rfl 0 rfl) rfl ?_
          refine EvF.gop 37 (go_iconst (v := nI 1) d_Mod_takeArgument_36 (rfl)) rfl ?_
          refine EvF.gop 40 (go_put (oMod a (upd (upd s 14 (nI (n - 1))) 15 (nI 1)) c) f_Mod_128 ft_Mod_15 d_Mod_takeArgument_37 ((gRd_n _ _ (hI.2 12)).trans ((gRd_n _ _ (hI.2 10)).trans (gRd_s _ _ _))) rfl rfl (Nat.le_of_ble_eq_true rfl) rfl) rfl ?_
          refine EvF.go (go_m (M' := (gWr (gWr (gWr M A (.inr (11, oMod a (upd (upd s 14 (nI (n - 1))) 15 (nI 1)) c))) (a 10) (aI G 200 (shF l (n - 1)))) (a 12) (aI G 200 (upd g 0 (l 0))))) ((gWr_cm (gWr (gWr M A (.inr (11, oMod a (upd (upd s 14 (nI (n - 1))) 15 (nI 0)) c))) (a 10) (aI G 200 (shF l (n - 1)))) (aI G 200 (upd g 0 (l 0))) (.inr (11, oMod a (upd (upd s 14 (nI (n - 1))) 15 (nI 1)) c)) (Ne.symm (hI.2 12))).trans (congrArg (fun mZ => gWr mZ (a 12) (aI G 200 (upd g 0 (l 0)))) ((gWr_cm (gWr M A (.inr (11, oMod a (upd (upd s 14 (nI (n - 1))) 15 (nI 0)) c))) (aI G 200 (shF l (n - 1))) (.inr (11, oMod a (upd (upd s 14 (nI (n - 1))) 15 (nI 1)) c)) (Ne.symm (hI.2 10))).trans (congrArg (fun mZ => gWr mZ (a 10) (aI G 200 (shF l (n - 1)))) (gWr_wr M A (.inr (11, oMod a (upd (upd s 14 (nI (n - 1))) 15 (nI 0)) c)) (.inr (11, oMod a (upd (upd s 14 (nI (n - 1))) 15 (nI 1)) c)))))))) ?_
          refine EvF.gop 41 (go_iconst (v := 1) d_Mod_takeArgument_40 (by decide)) rfl ?_
          rw [show (maF n l g) = (true, n - 1, shF l (n - 1), 1, upd g 0 (l 0)) from by unfold maF; rw [if_neg hn0, if_neg (by assumption), if_neg (by assumption), if_neg (by assumption)]]
          exact EvF.rz d_Mod_takeArgument_41 rfl (by decide) (rfl) (rfl)
