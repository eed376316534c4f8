def tdA (c s : Nat → Int32) (n : Nat) : Nat × (Nat → Int32) × (Nat → Int32) := dGo gBb c s n
def tdB (c s : Nat → Int32) (n : Nat) : Nat × (Nat → Int32) × (Nat → Int32) := dGo (gBf (tdA c s n).1) (tdA c s n).2.1 (tdA c s n).2.2 (tdA c s n).1
def tdC (c s : Nat → Int32) (n : Nat) : Nat × (Nat → Int32) × (Nat → Int32) := dGo gBr (tdB c s n).2.1 (tdB c s n).2.2 (tdB c s n).1
def tdN (c s : Nat → Int32) (n : Nat) : Nat := if (tdC c s n).1 ≤ 0 then (tdC c s n).1 else if (tdC c s n).2.1 ((tdC c s n).1 - 1) = 124 then (tdC c s n).1 - 1 else (tdC c s n).1
theorem tdA_le (c s : Nat → Int32) (n : Nat) : (tdA c s n).1 ≤ n := dGo_le _ _ _ _
theorem tdB_le (c s : Nat → Int32) (n : Nat) : (tdB c s n).1 ≤ n := Nat.le_trans (dGo_le _ _ _ _) (tdA_le c s n)
theorem tdC_le (c s : Nat → Int32) (n : Nat) : (tdC c s n).1 ≤ n := Nat.le_trans (dGo_le _ _ _ _) (tdB_le c s n)
theorem tdN_le (c s : Nat → Int32) (n : Nat) : tdN c s n ≤ n := by
  have := tdC_le c s n
  unfold tdN
  split
  · omega
  · split <;> omega
theorem e_Txt_tidy (G : gG) (M : gM) (t tc ts n : Nat) (c s : Nat → Int32) (h1 : gRd M t = some (.inr (3, [.ref tc, .ref ts, .int (nI n)]))) (h2 : gRd M tc = some (aI G 120 c)) (h3 : gRd M ts = some (aI G 120 s)) (hcs : tc ≠ ts) (hn : n ≤ 120) : Ev G 3 m_Txt_tidy [.ref t] M none (gWr (gWr (gWr M tc (aI G 120 ((tdC c s n).2.1))) ts (aI G 120 ((tdC c s n).2.2))) t (.inr (3, [.ref tc, .ref ts, .int (nI ((tdN c s n)))]))) := by
  have ha := tdA_le c s n
  have hb := tdB_le c s n
  have hc := tdC_le c s n
  refine Ev.of (Nat.le_of_ble_eq_true rfl) ?_
  show EvF G 3 m_Txt_tidy (0, [(0, .ref t)], [], M) _ _
  refine EvF.gop 1 (go_aload_n d_Txt_tidy_0 rfl 0 rfl) rfl ?_
  refine EvF.gop 4 (go_callV [] [] c0_Txt_dropBlanksBehind im_Txt_dropBlanksBehind se_Txt_dropBlanksBehind lk_Txt_26 d_Txt_tidy_1 rfl rfl (h1) (e_Txt_dropBlanksBehind G M t tc ts n c s h1 h2 h3 hcs hn) (by decide) rfl rfl (Nat.le_of_ble_eq_true rfl) rfl) rfl ?_
  refine EvF.gop 5 (go_aload_n d_Txt_tidy_4 rfl 0 rfl) rfl ?_
  refine EvF.gop 8 (go_callV [] [] c0_Txt_dropBlanksBefore im_Txt_dropBlanksBefore se_Txt_dropBlanksBefore lk_Txt_29 d_Txt_tidy_5 rfl rfl (gRd_s _ _ _) (e_Txt_dropBlanksBefore G _ t tc ts (tdA c s n).1 (tdA c s n).2.1 (tdA c s n).2.2 (gRd_s _ _ _) ((gRd_n _ _ (Ne.symm (gNe h1 h2))).trans ((gRd_n _ _ hcs).trans (gRd_s _ _ _))) ((gRd_n _ _ (Ne.symm (gNe h1 h3))).trans (gRd_s _ _ _)) hcs (by omega)) (by decide) rfl rfl (Nat.le_of_ble_eq_true rfl) rfl) rfl ?_
  refine EvF.go (go_m (M' := (gWr (gWr (gWr M tc (aI G 120 ((tdB c s n).2.1))) ts (aI G 120 ((tdB c s n).2.2))) t (.inr (3, [.ref tc, .ref ts, .int (nI ((tdB c s n).1))])))) ((congrArg (fun m => gWr m t (.inr (3, [.ref tc, .ref ts, .int (nI ((tdB c s n).1))]))) ((congrArg (fun m => gWr m ts (aI G 120 ((tdB c s n).2.2))) ((gWr_cm (gWr (gWr M tc (aI G 120 ((tdA c s n).2.1))) ts (aI G 120 ((tdA c s n).2.2))) (.inr (3, [.ref tc, .ref ts, .int (nI ((tdA c s n).1))])) (aI G 120 ((tdB c s n).2.1)) (gNe h1 h2)).trans (congrArg (fun m => gWr m t (.inr (3, [.ref tc, .ref ts, .int (nI ((tdA c s n).1))]))) ((gWr_cm (gWr M tc (aI G 120 ((tdA c s n).2.1))) (aI G 120 ((tdA c s n).2.2)) (aI G 120 ((tdB c s n).2.1)) (Ne.symm hcs)).trans (congrArg (fun m => gWr m ts (aI G 120 ((tdA c s n).2.2))) (gWr_wr M tc (aI G 120 ((tdA c s n).2.1)) (aI G 120 ((tdB c s n).2.1)))))))).trans ((gWr_cm (gWr (gWr M tc (aI G 120 ((tdB c s n).2.1))) ts (aI G 120 ((tdA c s n).2.2))) (.inr (3, [.ref tc, .ref ts, .int (nI ((tdA c s n).1))])) (aI G 120 ((tdB c s n).2.2)) (gNe h1 h3)).trans (congrArg (fun m => gWr m t (.inr (3, [.ref tc, .ref ts, .int (nI ((tdA c s n).1))]))) (gWr_wr (gWr M tc (aI G 120 ((tdB c s n).2.1))) ts (aI G 120 ((tdA c s n).2.2)) (aI G 120 ((tdB c s n).2.2))))))).trans (gWr_wr (gWr (gWr M tc (aI G 120 ((tdB c s n).2.1))) ts (aI G 120 ((tdB c s n).2.2))) t (.inr (3, [.ref tc, .ref ts, .int (nI ((tdA c s n).1))])) (.inr (3, [.ref tc, .ref ts, .int (nI ((tdB c s n).1))]))))) ?_
  refine EvF.gop 9 (go_aload_n d_Txt_tidy_8 rfl 0 rfl) rfl ?_
  refine EvF.gop 12 (go_callV [] [] c0_Txt_dropBarsBehind im_Txt_dropBarsBehind se_Txt_dropBarsBehind lk_Txt_32 d_Txt_tidy_9 rfl rfl (gRd_s _ _ _) (e_Txt_dropBarsBehind G _ t tc ts (tdB c s n).1 (tdB c s n).2.1 (tdB c s n).2.2 (gRd_s _ _ _) ((gRd_n _ _ (Ne.symm (gNe h1 h2))).trans ((gRd_n _ _ hcs).trans (gRd_s _ _ _))) ((gRd_n _ _ (Ne.symm (gNe h1 h3))).trans (gRd_s _ _ _)) hcs (by omega)) (by decide) rfl rfl (Nat.le_of_ble_eq_true rfl) rfl) rfl ?_
  refine EvF.go (go_m (M' := (gWr (gWr (gWr M tc (aI G 120 ((tdC c s n).2.1))) ts (aI G 120 ((tdC c s n).2.2))) t (.inr (3, [.ref tc, .ref ts, .int (nI ((tdC c s n).1))])))) ((congrArg (fun m => gWr m t (.inr (3, [.ref tc, .ref ts, .int (nI ((tdC c s n).1))]))) ((congrArg (fun m => gWr m ts (aI G 120 ((tdC c s n).2.2))) ((gWr_cm (gWr (gWr M tc (aI G 120 ((tdB c s n).2.1))) ts (aI G 120 ((tdB c s n).2.2))) (.inr (3, [.ref tc, .ref ts, .int (nI ((tdB c s n).1))])) (aI G 120 ((tdC c s n).2.1)) (gNe h1 h2)).trans (congrArg (fun m => gWr m t (.inr (3, [.ref tc, .ref ts, .int (nI ((tdB c s n).1))]))) ((gWr_cm (gWr M tc (aI G 120 ((tdB c s n).2.1))) (aI G 120 ((tdB c s n).2.2)) (aI G 120 ((tdC c s n).2.1)) (Ne.symm hcs)).trans (congrArg (fun m => gWr m ts (aI G 120 ((tdB c s n).2.2))) (gWr_wr M tc (aI G 120 ((tdB c s n).2.1)) (aI G 120 ((tdC c s n).2.1)))))))).trans ((gWr_cm (gWr (gWr M tc (aI G 120 ((tdC c s n).2.1))) ts (aI G 120 ((tdB c s n).2.2))) (.inr (3, [.ref tc, .ref ts, .int (nI ((tdB c s n).1))])) (aI G 120 ((tdC c s n).2.2)) (gNe h1 h3)).trans (congrArg (fun m => gWr m t (.inr (3, [.ref tc, .ref ts, .int (nI ((tdB c s n).1))]))) (gWr_wr (gWr M tc (aI G 120 ((tdC c s n).2.1))) ts (aI G 120 ((tdB c s n).2.2)) (aI G 120 ((tdC c s n).2.2))))))).trans (gWr_wr (gWr (gWr M tc (aI G 120 ((tdC c s n).2.1))) ts (aI G 120 ((tdC c s n).2.2))) t (.inr (3, [.ref tc, .ref ts, .int (nI ((tdB c s n).1))])) (.inr (3, [.ref tc, .ref ts, .int (nI ((tdC c s n).1))]))))) ?_
  refine EvF.gop 13 (go_aload_n d_Txt_tidy_12 rfl 0 rfl) rfl ?_
  refine EvF.gop 16 (go_get f_Txt_18 d_Txt_tidy_13 (gRd_s _ _ _) rfl) rfl ?_
  by_cases c1 : (nI ((tdC c s n).1)) ≤ 0
  · have c1x : ((tdC c s n).1) ≤ 0 := (nI_leI (a := ((tdC c s n).1)) (b := 0) (by omega) (by decide)).mp c1
    have c1y : ¬ 0 < ((tdC c s n).1) := by omega
    refine EvF.gop 45 (go_if_le_t 45 d_Txt_tidy_16 (by decide) (c1)) rfl ?_
    rw [show tdN c s n = ((tdC c s n).1) from by unfold tdN; first | rw [if_pos (by omega)] | rw [if_neg (by omega), if_pos (by assumption)] | rw [if_neg (by omega), if_neg (by assumption)]]
    exact EvF.rv d_Txt_tidy_45 rfl (rfl)
  · have c1x : 0 < ((tdC c s n).1) := Nat.lt_of_not_le (fun q9 => c1 ((nI_leI (a := ((tdC c s n).1)) (b := 0) (by omega) (by decide)).mpr q9))
    have c1y : ¬ ((tdC c s n).1) ≤ 0 := by omega
    refine EvF.gop 19 (go_if_le_f 45 d_Txt_tidy_16 (by decide) (c1)) rfl ?_
    refine EvF.gop 20 (go_aload_n d_Txt_tidy_19 rfl 0 rfl) rfl ?_
    refine EvF.gop 23 (go_get f_Txt_9 d_Txt_tidy_20 (gRd_s _ _ _) rfl) rfl ?_
    refine EvF.gop 24 (go_aload_n d_Txt_tidy_23 rfl 0 rfl) rfl ?_
    refine EvF.gop 27 (go_get f_Txt_18 d_Txt_tidy_24 (gRd_s _ _ _) rfl) rfl ?_
    refine EvF.gop 28 (go_iconst (v := 1) d_Txt_tidy_27 (by decide)) rfl ?_
    refine EvF.gop 29 (go_isub d_Txt_tidy_28) rfl ?_
    refine EvF.go (go_v (y := nI ((tdC c s n).1 - 1)) (pk_sub (b := 1) (by omega))) ?_
    refine EvF.gop 30 (go_iald (j := ((tdC c s n).1 - 1)) d_Txt_tidy_29 ((gRd_n _ _ (Ne.symm (gNe h1 h2))).trans ((gRd_n _ _ hcs).trans (gRd_s _ _ _))) (rfl) (by omega) (by omega)) rfl ?_
    refine EvF.gop 32 (go_bipush (v := 124) d_Txt_tidy_30 (by decide)) rfl ?_
    by_cases c2 : (((tdC c s n).2.1) ((tdC c s n).1 - 1)) = 124
    · refine EvF.gop 35 (go_icmp_ne_f 45 d_Txt_tidy_32 (by decide) (c2)) rfl ?_
      refine EvF.gop 36 (go_aload_n d_Txt_tidy_35 rfl 0 rfl) rfl ?_
      refine EvF.gop 37 (go_dup d_Txt_tidy_36 rfl) rfl ?_
      refine EvF.gop 40 (go_get f_Txt_18 d_Txt_tidy_37 (gRd_s _ _ _) rfl) rfl ?_
      refine EvF.gop 41 (go_iconst (v := 1) d_Txt_tidy_40 (by decide)) rfl ?_
      refine EvF.gop 42 (go_isub d_Txt_tidy_41) rfl ?_
      refine EvF.go (go_v (y := nI ((tdC c s n).1 - 1)) (pk_sub (b := 1) (by omega))) ?_
      refine EvF.gop 45 (go_put [.ref tc, .ref ts, .int (nI ((tdC c s n).1 - 1))] f_Txt_18 ft_Txt_2 d_Txt_tidy_42 (gRd_s _ _ _) (rfl) (rfl) (Nat.le_of_ble_eq_true rfl) rfl) rfl ?_
      refine EvF.go (go_m (M' := (gWr (gWr (gWr M tc (aI G 120 ((tdC c s n).2.1))) ts (aI G 120 ((tdC c s n).2.2))) t (.inr (3, [.ref tc, .ref ts, .int (nI ((tdC c s n).1 - 1))])))) (gWr_wr (gWr (gWr M tc (aI G 120 ((tdC c s n).2.1))) ts (aI G 120 ((tdC c s n).2.2))) t (.inr (3, [.ref tc, .ref ts, .int (nI ((tdC c s n).1))])) (.inr (3, [.ref tc, .ref ts, .int (nI ((tdC c s n).1 - 1))])))) ?_
      rw [show tdN c s n = ((tdC c s n).1 - 1) from by unfold tdN; first | rw [if_pos (by omega)] | rw [if_neg (by omega), if_pos (by assumption)] | rw [if_neg (by omega), if_neg (by assumption)]]
      exact EvF.rv d_Txt_tidy_45 rfl (rfl)
    · refine EvF.gop 45 (go_icmp_ne_t 45 d_Txt_tidy_32 (by decide) (c2)) rfl ?_
      rw [show tdN c s n = ((tdC c s n).1) from by unfold tdN; first | rw [if_pos (by omega)] | rw [if_neg (by omega), if_pos (by assumption)] | rw [if_neg (by omega), if_neg (by assumption)]]
      exact EvF.rv d_Txt_tidy_45 rfl (rfl)
theorem nd8_of {l : List Nat} {a b : Nat} (h : va_nd (l ++ [a, b]) = true) : va_nd l = true := by
  induction l with
  | nil => rfl
  | cons x l ih =>
    rw [List.cons_append] at h
    simp only [va_nd, Bool.and_eq_true, decide_eq_true_eq] at h ⊢
    exact ⟨fun q => h.1 (List.mem_append_left _ q), ih h.2⟩
theorem g_Stg_measure (G : gG) (M : gM) (sm sw ss sh sl sd t tc ts tn w0 : Nat) (W ST SH L DD c s wo : Nat → Int32) (q pr v0 b en : Nat) (dw cl ln : Int32) (tt : Int64) (PP vv : Nat → Int32) (h1 : gRd M sm = some (.inr (7, [.ref sw, .ref ss, .ref sh, .ref sl, .ref sd]))) (h2 : gRd M sw = some (aI G 121 W)) (h3 : gRd M ss = some (aI G 121 ST)) (h4 : gRd M sh = some (aI G 121 SH)) (h5 : gRd M sl = some (aI G 121 L)) (h6 : gRd M sd = some (aI G 121 DD)) (t1 : gRd M t = some (.inr (3, [.ref tc, .ref ts, .int (nI tn)]))) (t2 : gRd M tc = some (aI G 120 c)) (t3 : gRd M ts = some (aI G 120 s)) (w1 : gRd M w0 = some (aI G 27 wo)) (htn : tn ≤ 120) (hN : va_nd [sw, ss, sh, sl, sd, tc, ts, w0, pr, v0] = true) (q1 : gRd M q = some (.inr (8, [.ref t, .ref b, .ref sm, .ref pr, .int dw, .int cl, .ref en, .int ln, .long tt]))) (q2 : gRd M pr = some (aI G 5 PP)) (q3 : gRd M v0 = some (aI G 5 vv)) : ∀ r k : Nat, k + r = 5 → Go G m_Stg_measure 3 (25, [(0, .ref q), (1, .ref w0), (2, .ref v0), (3, .int (nI k))], [], (gWr (gWr (gWr (gWr (gWr (gWr (gWr M sw (aI G 121 (smI (wdI wo c s) W tn))) ss (aI G 121 (smI (stI s) ST tn))) sh (aI G 121 (smI (shI s) SH tn))) sl (aI G 121 (smI (leI c) L tn))) sd (aI G 121 (smI (daI c) DD tn))) q (.inr (8, [.ref t, .ref b, .ref sm, .ref pr, .int (wo 26), .int cl, .ref en, .int ln, .long tt]))) pr (aI G 5 (cpI vv k PP)))) (49, [(0, .ref q), (1, .ref w0), (2, .ref v0), (3, .int (nI 5))], [], (gWr (gWr (gWr (gWr (gWr (gWr (gWr M sw (aI G 121 (smI (wdI wo c s) W tn))) ss (aI G 121 (smI (stI s) ST tn))) sh (aI G 121 (smI (shI s) SH tn))) sl (aI G 121 (smI (leI c) L tn))) sd (aI G 121 (smI (daI c) DD tn))) q (.inr (8, [.ref t, .ref b, .ref sm, .ref pr, .int (wo 26), .int cl, .ref en, .int ln, .long tt]))) pr (aI G 5 (cpI vv 5 PP)))) := by
  intro r
  induction r with
  | zero =>
    intro k hk
    rw [show k = 5 from by omega]
    refine Go.trp 26 (go_iload_n d_Stg_measure_25 rfl 3 rfl) rfl ?_
    refine Go.trp 27 (go_aload_n d_Stg_measure_26 rfl 0 rfl) rfl ?_
    refine Go.trp 30 (go_get f_Stg_36 d_Stg_measure_27 ((gRd_n _ _ (gNe q1 q2)).trans (gRd_s _ _ _)) rfl) rfl ?_
    refine Go.trp 31 (go_alenI d_Stg_measure_30 (gRd_s _ _ _)) rfl ?_
    refine Go.trp 49 (go_icmp_ge_t 49 d_Stg_measure_31 (by decide) (nI_le (by decide) (by decide))) rfl ?_
    exact Go.rf
  | succ r ih =>
    intro k hk
    refine Go.trp 26 (go_iload_n d_Stg_measure_25 rfl 3 rfl) rfl ?_
    refine Go.trp 27 (go_aload_n d_Stg_measure_26 rfl 0 rfl) rfl ?_
    refine Go.trp 30 (go_get f_Stg_36 d_Stg_measure_27 ((gRd_n _ _ (gNe q1 q2)).trans (gRd_s _ _ _)) rfl) rfl ?_
    refine Go.trp 31 (go_alenI d_Stg_measure_30 (gRd_s _ _ _)) rfl ?_
    refine Go.trp 34 (go_icmp_ge_f 49 d_Stg_measure_31 (by decide) (nI_ge (by omega) (by decide))) rfl ?_
    refine Go.trp 35 (go_aload_n d_Stg_measure_34 rfl 0 rfl) rfl ?_
    refine Go.trp 38 (go_get f_Stg_36 d_Stg_measure_35 ((gRd_n _ _ (gNe q1 q2)).trans (gRd_s _ _ _)) rfl) rfl ?_
    refine Go.trp 39 (go_iload_n d_Stg_measure_38 rfl 3 rfl) rfl ?_
    refine Go.trp 40 (go_aload_n d_Stg_measure_39 rfl 2 rfl) rfl ?_
    refine Go.trp 41 (go_iload_n d_Stg_measure_40 rfl 3 rfl) rfl ?_
    refine Go.trp 42 (go_iald (j := k) d_Stg_measure_41 ((gRd_n _ _ (Ne.symm (ndN hN 8 9 rfl rfl (by decide)))).trans ((gRd_n _ _ (Ne.symm (gNe q1 q3))).trans ((gRd_n _ _ (Ne.symm (ndN hN 4 9 rfl rfl (by decide)))).trans ((gRd_n _ _ (Ne.symm (ndN hN 3 9 rfl rfl (by decide)))).trans ((gRd_n _ _ (Ne.symm (ndN hN 2 9 rfl rfl (by decide)))).trans ((gRd_n _ _ (Ne.symm (ndN hN 1 9 rfl rfl (by decide)))).trans ((gRd_n _ _ (Ne.symm (ndN hN 0 9 rfl rfl (by decide)))).trans (q3)))))))) (rfl) (by omega) (by omega)) rfl ?_
    refine Go.trp 43 (go_iast (j := k) d_Stg_measure_42 (gRd_s _ _ _) (rfl) (by omega) (by omega)) rfl ?_
    refine (go_m (M' := (gWr (gWr (gWr (gWr (gWr (gWr (gWr M sw (aI G 121 (smI (wdI wo c s) W tn))) ss (aI G 121 (smI (stI s) ST tn))) sh (aI G 121 (smI (shI s) SH tn))) sl (aI G 121 (smI (leI c) L tn))) sd (aI G 121 (smI (daI c) DD tn))) q (.inr (8, [.ref t, .ref b, .ref sm, .ref pr, .int (wo 26), .int cl, .ref en, .int ln, .long tt]))) pr (aI G 5 (upd (cpI vv k PP) k (vv k))))) (gWr_wr (gWr (gWr (gWr (gWr (gWr (gWr M sw (aI G 121 (smI (wdI wo c s) W tn))) ss (aI G 121 (smI (stI s) ST tn))) sh (aI G 121 (smI (shI s) SH tn))) sl (aI G 121 (smI (leI c) L tn))) sd (aI G 121 (smI (daI c) DD tn))) q (.inr (8, [.ref t, .ref b, .ref sm, .ref pr, .int (wo 26), .int cl, .ref en, .int ln, .long tt]))) pr (aI G 5 (cpI vv k PP)) (aI G 5 (upd (cpI vv k PP) k (vv k))))).tr ?_
    refine Go.trp 46 (go_inc1 (n0 := 3) (x := k) [(3, .int (nI (k + 1))), (0, .ref q), (1, .ref w0), (2, .ref v0)] d_Stg_measure_43 rfl (by decide) rfl) rfl ?_
    refine (go_pick [1, 2, 3, 0] [(0, .ref q), (1, .ref w0), (2, .ref v0), (3, .int (nI (k + 1)))] rfl).tr ?_
    refine Go.trp 25 (go_goto 25 d_Stg_measure_46 (by decide)) rfl ?_
    rw [cpI_s]
    exact ih (k + 1) (by omega)
theorem e_Stg_measure (G : gG) (M : gM) (sm sw ss sh sl sd t tc ts tn w0 : Nat) (W ST SH L DD c s wo : Nat → Int32) (q pr v0 b en : Nat) (dw cl ln : Int32) (tt : Int64) (PP vv : Nat → Int32) (h1 : gRd M sm = some (.inr (7, [.ref sw, .ref ss, .ref sh, .ref sl, .ref sd]))) (h2 : gRd M sw = some (aI G 121 W)) (h3 : gRd M ss = some (aI G 121 ST)) (h4 : gRd M sh = some (aI G 121 SH)) (h5 : gRd M sl = some (aI G 121 L)) (h6 : gRd M sd = some (aI G 121 DD)) (t1 : gRd M t = some (.inr (3, [.ref tc, .ref ts, .int (nI tn)]))) (t2 : gRd M tc = some (aI G 120 c)) (t3 : gRd M ts = some (aI G 120 s)) (w1 : gRd M w0 = some (aI G 27 wo)) (htn : tn ≤ 120) (hN : va_nd [sw, ss, sh, sl, sd, tc, ts, w0, pr, v0] = true) (q1 : gRd M q = some (.inr (8, [.ref t, .ref b, .ref sm, .ref pr, .int dw, .int cl, .ref en, .int ln, .long tt]))) (q2 : gRd M pr = some (aI G 5 PP)) (q3 : gRd M v0 = some (aI G 5 vv)) : Ev G 3 m_Stg_measure [.ref q, .ref w0, .ref v0] M none (gWr (gWr (gWr (gWr (gWr (gWr (gWr M sw (aI G 121 (smI (wdI wo c s) W tn))) ss (aI G 121 (smI (stI s) ST tn))) sh (aI G 121 (smI (shI s) SH tn))) sl (aI G 121 (smI (leI c) L tn))) sd (aI G 121 (smI (daI c) DD tn))) q (.inr (8, [.ref t, .ref b, .ref sm, .ref pr, .int (wo 26), .int cl, .ref en, .int ln, .long tt]))) pr (aI G 5 (cpI vv 5 PP))) := by
  refine Ev.of (Nat.le_of_ble_eq_true rfl) ?_
  show EvF G 3 m_Stg_measure (0, [(0, .ref q), (1, .ref w0), (2, .ref v0)], [], M) _ _
  refine EvF.gop 1 (go_aload_n d_Stg_measure_0 rfl 0 rfl) rfl ?_
  refine EvF.gop 4 (go_get f_Stg_28 d_Stg_measure_1 (q1) rfl) rfl ?_
  refine EvF.gop 5 (go_aload_n d_Stg_measure_4 rfl 0 rfl) rfl ?_
  refine EvF.gop 8 (go_get f_Stg_12 d_Stg_measure_5 (q1) rfl) rfl ?_
  refine EvF.gop 9 (go_aload_n d_Stg_measure_8 rfl 1 rfl) rfl ?_
  refine EvF.gop 12 (go_callV [.ref t, .ref w0] [] c0_Sum_addUp im_Sum_addUp se_Sum_addUp lk_Stg_56 d_Stg_measure_9 rfl rfl (h1) (e_Sum_addUp G M sm sw ss sh sl sd t tc ts tn w0 W ST SH L DD c s wo h1 h2 h3 h4 h5 h6 t1 t2 t3 w1 htn (nd8_of (l := [sw, ss, sh, sl, sd, tc, ts, w0]) hN)) (by decide) rfl rfl (Nat.le_of_ble_eq_true rfl) rfl) rfl ?_
  refine EvF.gop 13 (go_aload_n d_Stg_measure_12 rfl 0 rfl) rfl ?_
  refine EvF.gop 14 (go_aload_n d_Stg_measure_13 rfl 1 rfl) rfl ?_
  refine EvF.gop 16 (go_bipush (v := 45) d_Stg_measure_14 (by decide)) rfl ?_
  refine EvF.gop 19 (go_callS [.int 45] [.int (wIx 45), .ref w0, .ref q] c0_PS_widthIndex sm_PS_widthIndex lk_Stg_60 d_Stg_measure_16 (e_PS_widthIndex G _ 45) (by decide) rfl rfl (Nat.le_of_ble_eq_true rfl) rfl) rfl ?_
  refine EvF.gop 20 (go_iald (j := 26) d_Stg_measure_19 ((gRd_n _ _ (Ne.symm (ndN hN 4 7 rfl rfl (by decide)))).trans ((gRd_n _ _ (Ne.symm (ndN hN 3 7 rfl rfl (by decide)))).trans ((gRd_n _ _ (Ne.symm (ndN hN 2 7 rfl rfl (by decide)))).trans ((gRd_n _ _ (Ne.symm (ndN hN 1 7 rfl rfl (by decide)))).trans ((gRd_n _ _ (Ne.symm (ndN hN 0 7 rfl rfl (by decide)))).trans (w1)))))) (by decide) (by decide) (by decide)) rfl ?_
  refine EvF.gop 23 (go_put [.ref t, .ref b, .ref sm, .ref pr, .int (wo 26), .int cl, .ref en, .int ln, .long tt] f_Stg_39 ft_Stg_4 d_Stg_measure_20 ((gRd_n _ _ (gNe q1 h6)).trans ((gRd_n _ _ (gNe q1 h5)).trans ((gRd_n _ _ (gNe q1 h4)).trans ((gRd_n _ _ (gNe q1 h3)).trans ((gRd_n _ _ (gNe q1 h2)).trans (q1)))))) (rfl) (rfl) (Nat.le_of_ble_eq_true rfl) rfl) rfl ?_
  refine EvF.gop 24 (go_iconst (v := nI 0) d_Stg_measure_23 (rfl)) rfl ?_
  refine EvF.gop 25 (go_istore_n [(3, .int (nI 0)), (0, .ref q), (1, .ref w0), (2, .ref v0)] d_Stg_measure_24 rfl (by decide) rfl) rfl ?_
  refine EvF.go (go_pick [1, 2, 3, 0] [(0, .ref q), (1, .ref w0), (2, .ref v0), (3, .int (nI 0))] rfl) ?_
  refine EvF.go (go_m (M' := (gWr (gWr (gWr (gWr (gWr (gWr (gWr M sw (aI G 121 (smI (wdI wo c s) W tn))) ss (aI G 121 (smI (stI s) ST tn))) sh (aI G 121 (smI (shI s) SH tn))) sl (aI G 121 (smI (leI c) L tn))) sd (aI G 121 (smI (daI c) DD tn))) q (.inr (8, [.ref t, .ref b, .ref sm, .ref pr, .int (wo 26), .int cl, .ref en, .int ln, .long tt]))) pr (aI G 5 PP))) (gWr_id ((gRd_n _ _ (Ne.symm (gNe q1 q2))).trans ((gRd_n _ _ (Ne.symm (ndN hN 4 8 rfl rfl (by decide)))).trans ((gRd_n _ _ (Ne.symm (ndN hN 3 8 rfl rfl (by decide)))).trans ((gRd_n _ _ (Ne.symm (ndN hN 2 8 rfl rfl (by decide)))).trans ((gRd_n _ _ (Ne.symm (ndN hN 1 8 rfl rfl (by decide)))).trans ((gRd_n _ _ (Ne.symm (ndN hN 0 8 rfl rfl (by decide)))).trans (q2)))))))).symm) ?_
  refine EvF.go (go_m (M' := (gWr (gWr (gWr (gWr (gWr (gWr (gWr M sw (aI G 121 (smI (wdI wo c s) W tn))) ss (aI G 121 (smI (stI s) ST tn))) sh (aI G 121 (smI (shI s) SH tn))) sl (aI G 121 (smI (leI c) L tn))) sd (aI G 121 (smI (daI c) DD tn))) q (.inr (8, [.ref t, .ref b, .ref sm, .ref pr, .int (wo 26), .int cl, .ref en, .int ln, .long tt]))) pr (aI G 5 (cpI vv 0 PP)))) (by rw [cpI_0])) ?_
  refine EvF.go (g_Stg_measure G M sm sw ss sh sl sd t tc ts tn w0 W ST SH L DD c s wo q pr v0 b en dw cl ln tt PP vv h1 h2 h3 h4 h5 h6 t1 t2 t3 w1 htn hN q1 q2 q3 5 0 rfl) ?_
  exact EvF.rv d_Stg_measure_49 rfl rfl
theorem e_Hyp_learnT (G : gG) (M : gM) (h hp hl m p ps pl b br nb bn : Nat) (x : Int32) (pf : Nat → Option Nat) (sg0 lv0 g : Nat → Int32) (y1 : gRd M h = some (.inr (5, [.ref hp, .int (nI m), .ref hl]))) (y2 : gRd M hp = some (aQ G 4 20 pf)) (hm : m < 20) (hpf : pf m = some p) (h1 : gRd M p = some (.inr (4, [.ref ps, .ref pl, .int x]))) (h2 : gRd M ps = some (aI G 5 sg0)) (h3 : gRd M pl = some (aI G 6 lv0)) (h4 : gRd M b = some (.inr (0, [.ref br, .int (nI bn)]))) (h5 : gRd M br = some (aI G nb g)) (hne : ps ≠ pl) (hbs : br ≠ ps) (hbl : br ≠ pl) (hmb : bn ≤ nb) (hnb : nb < 2 ^ 31) (hr : (rdF g bn 0 0 sg0 (upd lv0 0 0) false).1 = true) : Ev G 3 m_Hyp_learn [.ref h, .ref b] M (some (.int 1)) (gWr (gWr (gWr (gWr M p (.inr (4, [.ref ps, .ref pl, .int (nI (rdF g bn 0 0 sg0 (upd lv0 0 0) false).2.1)]))) pl (aI G 6 ((rdF g bn 0 0 sg0 (upd lv0 0 0) false).2.2.2))) ps (aI G 5 ((rdF g bn 0 0 sg0 (upd lv0 0 0) false).2.2.1))) h (.inr (5, [.ref hp, .int (nI (m + 1)), .ref hl]))) := by
  refine Ev.of (Nat.le_of_ble_eq_true rfl) ?_
  show EvF G 3 m_Hyp_learn (0, [(0, .ref h), (1, .ref b)], [], M) _ _
  refine EvF.gop 1 (go_aload_n d_Hyp_learn_0 rfl 0 rfl) rfl ?_
  refine EvF.gop 4 (go_callV [] [.int (bI (decide (m = 20)))] c0_Hyp_isFull im_Hyp_isFull se_Hyp_isFull lk_Hyp_26 d_Hyp_learn_1 rfl rfl (y1) (e_Hyp_isFull G M h hp hl m y1 (by omega)) (by decide) rfl rfl (Nat.le_of_ble_eq_true rfl) rfl) rfl ?_
  refine EvF.gop 7 (go_if_ne_f 23 d_Hyp_learn_4 (by decide) (bI_f (decide_eq_false (by omega)))) rfl ?_
  refine EvF.gop 8 (go_aload_n d_Hyp_learn_7 rfl 0 rfl) rfl ?_
  refine EvF.gop 11 (go_get f_Hyp_11 d_Hyp_learn_8 (y1) rfl) rfl ?_
  refine EvF.gop 12 (go_aload_n d_Hyp_learn_11 rfl 0 rfl) rfl ?_
  refine EvF.gop 15 (go_get f_Hyp_17 d_Hyp_learn_12 (y1) rfl) rfl ?_
  refine EvF.gop 16 (go_aald (j := m) (C := "ParagraphSetter$Pattern") rfl d_Hyp_learn_15 (y2) (rfl) (hm) (by decide)) rfl ?_
  refine EvF.go (go_rf (y := p) (hpf)) ?_
  refine EvF.gop 17 (go_aload_n d_Hyp_learn_16 rfl 1 rfl) rfl ?_
  refine EvF.gop 20 (go_callV [.ref b] [.int (bI (rdF g bn 0 0 sg0 (upd lv0 0 0) false).1)] c0_Pat_read im_Pat_read se_Pat_read lk_Hyp_30 d_Hyp_learn_17 rfl rfl (h1) (e_Pat_read G M p ps pl b br nb bn x sg0 lv0 g h1 h2 h3 h4 h5 hne hbs hbl hmb hnb) (by decide) rfl rfl (Nat.le_of_ble_eq_true rfl) rfl) rfl ?_
  refine EvF.gop 25 (go_if_ne_t 25 d_Hyp_learn_20 (by decide) (bI_n0.mpr hr)) rfl ?_
  refine EvF.gop 26 (go_aload_n d_Hyp_learn_25 rfl 0 rfl) rfl ?_
  refine EvF.gop 27 (go_dup d_Hyp_learn_26 rfl) rfl ?_
  refine EvF.gop 30 (go_get f_Hyp_17 d_Hyp_learn_27 ((gRd_n _ _ (gNe y1 h2)).trans ((gRd_n _ _ (gNe y1 h3)).trans ((gRd_n _ _ (gNeK y1 h1 (by decide))).trans (y1)))) rfl) rfl ?_
  refine EvF.gop 31 (go_iconst (v := 1) d_Hyp_learn_30 (by decide)) rfl ?_
  refine EvF.gop 32 (go_iadd d_Hyp_learn_31) rfl ?_
  refine EvF.go (go_v (y := nI (m + 1)) (nI_1 m)) ?_
  refine EvF.gop 35 (go_put [.ref hp, .int (nI (m + 1)), .ref hl] f_Hyp_17 ft_Hyp_1 d_Hyp_learn_32 ((gRd_n _ _ (gNe y1 h2)).trans ((gRd_n _ _ (gNe y1 h3)).trans ((gRd_n _ _ (gNeK y1 h1 (by decide))).trans (y1)))) (rfl) (rfl) (Nat.le_of_ble_eq_true rfl) rfl) rfl ?_
  refine EvF.gop 36 (go_iconst (v := 1) d_Hyp_learn_35 (by decide)) rfl ?_
  exact EvF.rz d_Hyp_learn_36 rfl (by decide) (rfl) (rfl)
theorem e_Hyp_learnF (G : gG) (M : gM) (h hp hl m p ps pl b br nb bn : Nat) (x : Int32) (pf : Nat → Option Nat) (sg0 lv0 g : Nat → Int32) (y1 : gRd M h = some (.inr (5, [.ref hp, .int (nI m), .ref hl]))) (y2 : gRd M hp = some (aQ G 4 20 pf)) (hm : m < 20) (hpf : pf m = some p) (h1 : gRd M p = some (.inr (4, [.ref ps, .ref pl, .int x]))) (h2 : gRd M ps = some (aI G 5 sg0)) (h3 : gRd M pl = some (aI G 6 lv0)) (h4 : gRd M b = some (.inr (0, [.ref br, .int (nI bn)]))) (h5 : gRd M br = some (aI G nb g)) (hne : ps ≠ pl) (hbs : br ≠ ps) (hbl : br ≠ pl) (hmb : bn ≤ nb) (hnb : nb < 2 ^ 31) (hr : (rdF g bn 0 0 sg0 (upd lv0 0 0) false).1 = false) : Ev G 3 m_Hyp_learn [.ref h, .ref b] M (some (.int 0)) (gWr (gWr (gWr M p (.inr (4, [.ref ps, .ref pl, .int (nI (rdF g bn 0 0 sg0 (upd lv0 0 0) false).2.1)]))) pl (aI G 6 ((rdF g bn 0 0 sg0 (upd lv0 0 0) false).2.2.2))) ps (aI G 5 ((rdF g bn 0 0 sg0 (upd lv0 0 0) false).2.2.1))) := by
  refine Ev.of (Nat.le_of_ble_eq_true rfl) ?_
  show EvF G 3 m_Hyp_learn (0, [(0, .ref h), (1, .ref b)], [], M) _ _
  refine EvF.gop 1 (go_aload_n d_Hyp_learn_0 rfl 0 rfl) rfl ?_
  refine EvF.gop 4 (go_callV [] [.int (bI (decide (m = 20)))] c0_Hyp_isFull im_Hyp_isFull se_Hyp_isFull lk_Hyp_26 d_Hyp_learn_1 rfl rfl (y1) (e_Hyp_isFull G M h hp hl m y1 (by omega)) (by decide) rfl rfl (Nat.le_of_ble_eq_true rfl) rfl) rfl ?_
  refine EvF.gop 7 (go_if_ne_f 23 d_Hyp_learn_4 (by decide) (bI_f (decide_eq_false (by omega)))) rfl ?_
  refine EvF.gop 8 (go_aload_n d_Hyp_learn_7 rfl 0 rfl) rfl ?_
  refine EvF.gop 11 (go_get f_Hyp_11 d_Hyp_learn_8 (y1) rfl) rfl ?_
  refine EvF.gop 12 (go_aload_n d_Hyp_learn_11 rfl 0 rfl) rfl ?_
  refine EvF.gop 15 (go_get f_Hyp_17 d_Hyp_learn_12 (y1) rfl) rfl ?_
  refine EvF.gop 16 (go_aald (j := m) (C := "ParagraphSetter$Pattern") rfl d_Hyp_learn_15 (y2) (rfl) (hm) (by decide)) rfl ?_
  refine EvF.go (go_rf (y := p) (hpf)) ?_
  refine EvF.gop 17 (go_aload_n d_Hyp_learn_16 rfl 1 rfl) rfl ?_
  refine EvF.gop 20 (go_callV [.ref b] [.int (bI (rdF g bn 0 0 sg0 (upd lv0 0 0) false).1)] c0_Pat_read im_Pat_read se_Pat_read lk_Hyp_30 d_Hyp_learn_17 rfl rfl (h1) (e_Pat_read G M p ps pl b br nb bn x sg0 lv0 g h1 h2 h3 h4 h5 hne hbs hbl hmb hnb) (by decide) rfl rfl (Nat.le_of_ble_eq_true rfl) rfl) rfl ?_
  refine EvF.gop 23 (go_if_ne_f 25 d_Hyp_learn_20 (by decide) (bI_f hr)) rfl ?_
  refine EvF.gop 24 (go_iconst (v := 0) d_Hyp_learn_23 (by decide)) rfl ?_
  exact EvF.rz d_Hyp_learn_24 rfl (by decide) (rfl) (rfl)
