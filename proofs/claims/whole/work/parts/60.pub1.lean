theorem le4_of_lt5 {x : Int32} (h : x < nI 5) : x ≤ 4 := by
  have h1 := Int32.lt_iff_toInt_lt.mp h
  rw [show (nI 5).toInt = 5 from by decide] at h1
  rw [Int32.le_iff_toInt_le, show (4 : Int32).toInt = 4 from by decide]
  omega
theorem le3_of_lt4 {x : Int32} (h : x < 4) : x ≤ 3 := by
  have h1 := Int32.lt_iff_toInt_lt.mp h
  rw [show (4 : Int32).toInt = 4 from by decide] at h1
  rw [Int32.le_iff_toInt_le, show (3 : Int32).toInt = 3 from by decide]
  omega
theorem e_PS_typeR (G : gG) (M : gM) (p lb db : Nat) (x : Int32) (h0 : gRd M p = some (.inr (10, [.ref (p + 1), .ref (p + 3), .ref (p + 4), .ref (p + 5), .ref (p + 23), .ref (p + 86), .ref lb, .ref db]))) (hx : cLin x = false) : Ev G 4 m_PS_type [.ref p, .int x] M (some (.int (-1))) M := by
  refine Ev.of (Nat.le_of_ble_eq_true rfl) ?_
  show EvF G 4 m_PS_type (0, [(0, .ref p), (1, .int x)], [], M) _ _
  refine EvF.gop 1 (go_iload_n d_PS_type_0 rfl 1 rfl) rfl ?_
  refine EvF.gop 4 (go_callS [.int x] [.int (bI (cLin x))] c0_PS_isOfLine sm_PS_isOfLine lk_PS_59 d_PS_type_1 (e_PS_isOfLine G M x) (by decide) rfl rfl (Nat.le_of_ble_eq_true rfl) rfl) rfl ?_
  refine EvF.gop 7 (go_if_ne_f 9 d_PS_type_4 (by decide) (by rw [hx]; rfl)) rfl ?_
  refine EvF.gop 8 (go_iconst (v := (-1)) d_PS_type_7 (by decide)) rfl ?_
  exact EvF.ri d_PS_type_8 rfl (rfl) (rfl)
theorem e_PS_typeF (G : gG) (M : gM) (p lb db : Nat) (ln : Nat → Int32) (n : Nat) (x : Int32) (h0 : gRd M p = some (.inr (10, [.ref (p + 1), .ref (p + 3), .ref (p + 4), .ref (p + 5), .ref (p + 23), .ref (p + 86), .ref lb, .ref db]))) (h1 : gRd M (p + 1) = some (.inr (0, [.ref (p + 2), .int (nI n)]))) (h2 : gRd M (p + 2) = some (aI G 60 ln)) (hx : cLin x = true) (hn6 : n = 60) (hn : n ≤ 60) : Ev G 4 m_PS_type [.ref p, .int x] M (some (.int (-2))) M := by
  refine Ev.of (Nat.le_of_ble_eq_true rfl) ?_
  show EvF G 4 m_PS_type (0, [(0, .ref p), (1, .int x)], [], M) _ _
  refine EvF.gop 1 (go_iload_n d_PS_type_0 rfl 1 rfl) rfl ?_
  refine EvF.gop 4 (go_callS [.int x] [.int (bI (cLin x))] c0_PS_isOfLine sm_PS_isOfLine lk_PS_59 d_PS_type_1 (e_PS_isOfLine G M x) (by decide) rfl rfl (Nat.le_of_ble_eq_true rfl) rfl) rfl ?_
  refine EvF.gop 9 (go_if_ne_t 9 d_PS_type_4 (by decide) (by rw [hx]; decide)) rfl ?_
  refine EvF.gop 10 (go_aload_n d_PS_type_9 rfl 0 rfl) rfl ?_
  refine EvF.gop 13 (go_get f_PS_14 d_PS_type_10 (h0) rfl) rfl ?_
  refine EvF.gop 16 (go_callV [] [.int (bI (decide (n = 60)))] c0_Row_isFull im_Row_isFull se_Row_isFull lk_PS_63 d_PS_type_13 rfl rfl (h1) (e_Row_isFull G M (p + 1) (p + 2) 60 n ln h1 h2 hn (by decide)) (by decide) rfl rfl (Nat.le_of_ble_eq_true rfl) rfl) rfl ?_
  refine EvF.gop 19 (go_if_eq_f 22 d_PS_type_16 (by decide) (by rw [hn6]; decide)) rfl ?_
  refine EvF.gop 21 (go_bipush (v := (-2)) d_PS_type_19 (by decide)) rfl ?_
  exact EvF.ri d_PS_type_21 rfl (rfl) (rfl)
theorem e_PS_type (G : gG) (M : gM) (p lb db : Nat) (ln : Nat → Int32) (n : Nat) (x : Int32) (h0 : gRd M p = some (.inr (10, [.ref (p + 1), .ref (p + 3), .ref (p + 4), .ref (p + 5), .ref (p + 23), .ref (p + 86), .ref lb, .ref db]))) (h1 : gRd M (p + 1) = some (.inr (0, [.ref (p + 2), .int (nI n)]))) (h2 : gRd M (p + 2) = some (aI G 60 ln)) (hx : cLin x = true) (hn6 : n < 60) : Ev G 4 m_PS_type [.ref p, .int x] M (some (.int (nI (n + 1)))) (gWr (gWr M (p + 2) (aI G 60 (upd ln n x))) (p + 1) (.inr (0, [.ref (p + 2), .int (nI (n + 1))]))) := by
  have hn : n ≤ 60 := by omega
  refine Ev.of (Nat.le_of_ble_eq_true rfl) ?_
  show EvF G 4 m_PS_type (0, [(0, .ref p), (1, .int x)], [], M) _ _
  refine EvF.gop 1 (go_iload_n d_PS_type_0 rfl 1 rfl) rfl ?_
  refine EvF.gop 4 (go_callS [.int x] [.int (bI (cLin x))] c0_PS_isOfLine sm_PS_isOfLine lk_PS_59 d_PS_type_1 (e_PS_isOfLine G M x) (by decide) rfl rfl (Nat.le_of_ble_eq_true rfl) rfl) rfl ?_
  refine EvF.gop 9 (go_if_ne_t 9 d_PS_type_4 (by decide) (by rw [hx]; decide)) rfl ?_
  refine EvF.gop 10 (go_aload_n d_PS_type_9 rfl 0 rfl) rfl ?_
  refine EvF.gop 13 (go_get f_PS_14 d_PS_type_10 (h0) rfl) rfl ?_
  refine EvF.gop 16 (go_callV [] [.int (bI (decide (n = 60)))] c0_Row_isFull im_Row_isFull se_Row_isFull lk_PS_63 d_PS_type_13 rfl rfl (h1) (e_Row_isFull G M (p + 1) (p + 2) 60 n ln h1 h2 hn (by decide)) (by decide) rfl rfl (Nat.le_of_ble_eq_true rfl) rfl) rfl ?_
  refine EvF.gop 22 (go_if_eq_t 22 d_PS_type_16 (by decide) (by rw [show decide (n = 60) = false from decide_eq_false (by omega)]; rfl)) rfl ?_
  refine EvF.gop 23 (go_aload_n d_PS_type_22 rfl 0 rfl) rfl ?_
  refine EvF.gop 26 (go_get f_PS_14 d_PS_type_23 (h0) rfl) rfl ?_
  refine EvF.gop 27 (go_iload_n d_PS_type_26 rfl 1 rfl) rfl ?_
  refine EvF.gop 30 (go_callV [.int x] [] c0_Row_add im_Row_add se_Row_add lk_PS_67 d_PS_type_27 rfl rfl (h1) (e_Row_add G M (p + 1) (p + 2) 60 n ln x h1 h2 hn6 (by decide)) (by decide) rfl rfl (Nat.le_of_ble_eq_true rfl) rfl) rfl ?_
  refine EvF.gop 31 (go_aload_n d_PS_type_30 rfl 0 rfl) rfl ?_
  refine EvF.gop 34 (go_get f_PS_14 d_PS_type_31 ((gRd_n _ _ (by omega)).trans ((gRd_n _ _ (by omega)).trans (h0))) rfl) rfl ?_
  refine EvF.gop 37 (go_get f_PS_70 d_PS_type_34 (gRd_s _ _ _) rfl) rfl ?_
  exact EvF.ri d_PS_type_37 rfl (rfl) (rfl)
theorem e_PS_wipe (G : gG) (M : gM) (p lb db : Nat) (ln : Nat → Int32) (n : Nat) (h0 : gRd M p = some (.inr (10, [.ref (p + 1), .ref (p + 3), .ref (p + 4), .ref (p + 5), .ref (p + 23), .ref (p + 86), .ref lb, .ref db]))) (h1 : gRd M (p + 1) = some (.inr (0, [.ref (p + 2), .int (nI n)]))) (h2 : gRd M (p + 2) = some (aI G 60 ln)) : Ev G 1 m_PS_wipe [.ref p] M (some (.int 0)) (gWr M (p + 1) (.inr (0, [.ref (p + 2), .int (nI 0)]))) := by
  refine Ev.of (Nat.le_of_ble_eq_true rfl) ?_
  show EvF G 1 m_PS_wipe (0, [(0, .ref p)], [], M) _ _
  refine EvF.gop 1 (go_aload_n d_PS_wipe_0 rfl 0 rfl) rfl ?_
  refine EvF.gop 4 (go_get f_PS_14 d_PS_wipe_1 (h0) rfl) rfl ?_
  refine EvF.gop 7 (go_callV [] [] c0_Row_clear im_Row_clear se_Row_clear lk_PS_74 d_PS_wipe_4 rfl rfl (h1) (e_Row_clear G _ (p + 1) (p + 2) _ (h1)) (by decide) rfl rfl (Nat.le_of_ble_eq_true rfl) rfl) rfl ?_
  refine EvF.gop 8 (go_iconst (v := 0) d_PS_wipe_7 (by decide)) rfl ?_
  exact EvF.ri d_PS_wipe_8 rfl (rfl) (rfl)
theorem e_PS_widthR (G : gG) (M : gM) (p lb db : Nat) (x y : Int32) (h0 : gRd M p = some (.inr (10, [.ref (p + 1), .ref (p + 3), .ref (p + 4), .ref (p + 5), .ref (p + 23), .ref (p + 86), .ref lb, .ref db]))) (hx : (cWid x && (decide (1 ≤ y) && decide (y ≤ 20))) = false) : Ev G 2 m_PS_width [.ref p, .int x, .int y] M (some (.int (-1))) M := by
  refine Ev.of (Nat.le_of_ble_eq_true rfl) ?_
  show EvF G 2 m_PS_width (0, [(0, .ref p), (1, .int x), (2, .int y)], [], M) _ _
  refine EvF.gop 1 (go_iload_n d_PS_width_0 rfl 1 rfl) rfl ?_
  refine EvF.gop 4 (go_callS [.int x] [.int (bI (cWid x))] c0_PS_hasWidth sm_PS_hasWidth lk_PS_77 d_PS_width_1 (e_PS_hasWidth G M x) (by decide) rfl rfl (Nat.le_of_ble_eq_true rfl) rfl) rfl ?_
  by_cases c1 : (bI (cWid x)) = 0
  · have c1x : (cWid x) = false := bI_0.mp c1
    refine EvF.gop 18 (go_if_eq_t 18 d_PS_width_4 (by decide) (c1)) rfl ?_
    refine EvF.gop 19 (go_iconst (v := (-1)) d_PS_width_18 (by decide)) rfl ?_
    exact EvF.ri d_PS_width_19 rfl (rfl) (rfl)
  · have c1x : (cWid x) = true := bI_n0.mp c1
    refine EvF.gop 7 (go_if_eq_f 18 d_PS_width_4 (by decide) (c1)) rfl ?_
    refine EvF.gop 8 (go_iload_n d_PS_width_7 rfl 2 rfl) rfl ?_
    refine EvF.gop 9 (go_iconst (v := 1) d_PS_width_8 (by decide)) rfl ?_
    by_cases c2 : y < 1
    · have c2x : ¬ 1 ≤ y := Int32.not_le.mpr c2
      refine EvF.gop 18 (go_icmp_lt_t 18 d_PS_width_9 (by decide) (c2)) rfl ?_
      refine EvF.gop 19 (go_iconst (v := (-1)) d_PS_width_18 (by decide)) rfl ?_
      exact EvF.ri d_PS_width_19 rfl (rfl) (rfl)
    · have c2x : 1 ≤ y := Int32.not_lt.mp c2
      refine EvF.gop 12 (go_icmp_lt_f 18 d_PS_width_9 (by decide) (c2)) rfl ?_
      refine EvF.gop 13 (go_iload_n d_PS_width_12 rfl 2 rfl) rfl ?_
      refine EvF.gop 15 (go_bipush (v := 20) d_PS_width_13 (by decide)) rfl ?_
      by_cases c3 : y ≤ 20
      · have c3x : ¬ 20 < y := Int32.not_lt.mpr c3
        refine EvF.gop 20 (go_icmp_le_t 20 d_PS_width_15 (by decide) (c3)) rfl ?_
        exfalso
        revert hx; simp [*]
      · have c3x : 20 < y := Int32.not_le.mp c3
        refine EvF.gop 18 (go_icmp_le_f 20 d_PS_width_15 (by decide) (c3)) rfl ?_
        refine EvF.gop 19 (go_iconst (v := (-1)) d_PS_width_18 (by decide)) rfl ?_
        exact EvF.ri d_PS_width_19 rfl (rfl) (rfl)
theorem e_PS_width (G : gG) (M : gM) (p lb db : Nat) (wo : Nat → Int32) (x y : Int32) (h0 : gRd M p = some (.inr (10, [.ref (p + 1), .ref (p + 3), .ref (p + 4), .ref (p + 5), .ref (p + 23), .ref (p + 86), .ref lb, .ref db]))) (h3 : gRd M (p + 3) = some (aI G 27 wo)) (hx : cWid x = true) (hy1 : 1 ≤ y) (hy2 : y ≤ 20) : Ev G 2 m_PS_width [.ref p, .int x, .int y] M (some (.int 0)) (gWr M (p + 3) (aI G 27 (upd wo (wIx x).toNatClampNeg y))) := by
  obtain ⟨j9, hj9b, hj9⟩ := wIx_lt x hx
  refine Ev.of (Nat.le_of_ble_eq_true rfl) ?_
  show EvF G 2 m_PS_width (0, [(0, .ref p), (1, .int x), (2, .int y)], [], M) _ _
  refine EvF.gop 1 (go_iload_n d_PS_width_0 rfl 1 rfl) rfl ?_
  refine EvF.gop 4 (go_callS [.int x] [.int (bI (cWid x))] c0_PS_hasWidth sm_PS_hasWidth lk_PS_77 d_PS_width_1 (e_PS_hasWidth G M x) (by decide) rfl rfl (Nat.le_of_ble_eq_true rfl) rfl) rfl ?_
  refine EvF.gop 7 (go_if_eq_f 18 d_PS_width_4 (by decide) (by rw [hx]; decide)) rfl ?_
  refine EvF.gop 8 (go_iload_n d_PS_width_7 rfl 2 rfl) rfl ?_
  refine EvF.gop 9 (go_iconst (v := 1) d_PS_width_8 (by decide)) rfl ?_
  refine EvF.gop 12 (go_icmp_lt_f 18 d_PS_width_9 (by decide) (Int32.not_lt.mpr hy1)) rfl ?_
  refine EvF.gop 13 (go_iload_n d_PS_width_12 rfl 2 rfl) rfl ?_
  refine EvF.gop 15 (go_bipush (v := 20) d_PS_width_13 (by decide)) rfl ?_
  refine EvF.gop 20 (go_icmp_le_t 20 d_PS_width_15 (by decide) (hy2)) rfl ?_
  refine EvF.gop 21 (go_aload_n d_PS_width_20 rfl 0 rfl) rfl ?_
  refine EvF.gop 24 (go_get f_PS_18 d_PS_width_21 (h0) rfl) rfl ?_
  refine EvF.gop 25 (go_iload_n d_PS_width_24 rfl 1 rfl) rfl ?_
  refine EvF.gop 28 (go_callS [.int x] [.int (wIx x), .ref (p + 3)] c0_PS_widthIndex sm_PS_widthIndex lk_PS_80 d_PS_width_25 (e_PS_widthIndex G M x) (by decide) rfl rfl (Nat.le_of_ble_eq_true rfl) rfl) rfl ?_
  refine EvF.gop 29 (go_iload_n d_PS_width_28 rfl 2 rfl) rfl ?_
  refine EvF.gop 30 (go_iast (j := j9) d_PS_width_29 (h3) (hj9) (by omega) (by omega)) rfl ?_
  refine EvF.gop 31 (go_iconst (v := 0) d_PS_width_30 (by decide)) rfl ?_
  exact EvF.ri d_PS_width_31 rfl (rfl) (by rw [hj9, nI_clamp (by omega)])
theorem e_PS_par0 (G : gG) (M : gM) (p lb db : Nat) (pp : Nat → Int32) (y : Int32) (h0 : gRd M p = some (.inr (10, [.ref (p + 1), .ref (p + 3), .ref (p + 4), .ref (p + 5), .ref (p + 23), .ref (p + 86), .ref lb, .ref db]))) (h4 : gRd M (p + 4) = some (aI G 5 pp)) (k1 : 10 ≤ y) (k2 : y ≤ 400) : Ev G 0 m_PS_parameter [.ref p, .int 0, .int y] M (some (.int 0)) (gWr M (p + 4) (aI G 5 (upd pp 0 y))) := by
  refine Ev.of (Nat.le_of_ble_eq_true rfl) ?_
  show EvF G 0 m_PS_parameter (0, [(0, .ref p), (1, .int 0), (2, .int y)], [], M) _ _
  refine EvF.gop 1 (go_iload_n d_PS_parameter_0 rfl 1 rfl) rfl ?_
  refine EvF.gop 4 (go_if_lt_f 31 d_PS_parameter_1 (by decide) (by decide)) rfl ?_
  refine EvF.gop 5 (go_iload_n d_PS_parameter_4 rfl 1 rfl) rfl ?_
  refine EvF.gop 6 (go_aload_n d_PS_parameter_5 rfl 0 rfl) rfl ?_
  refine EvF.gop 9 (go_get f_PS_25 d_PS_parameter_6 (h0) rfl) rfl ?_
  refine EvF.gop 10 (go_alenI d_PS_parameter_9 (h4)) rfl ?_
  refine EvF.gop 13 (go_icmp_ge_f 31 d_PS_parameter_10 (by decide) (by decide)) rfl ?_
  refine EvF.gop 14 (go_iload_n d_PS_parameter_13 rfl 2 rfl) rfl ?_
  refine EvF.gop 17 (go_gets 1 (by decide) gs_PS_84 d_PS_parameter_14) rfl ?_
  refine EvF.gop 18 (go_iload_n d_PS_parameter_17 rfl 1 rfl) rfl ?_
  refine EvF.gop 19 (go_tld 1 0 (by decide) (by decide) rfl d_PS_parameter_18) rfl ?_
  refine EvF.go (go_v (y := 10) rfl) ?_
  refine EvF.gop 22 (go_icmp_lt_f 31 d_PS_parameter_19 (by decide) (Int32.not_lt.mpr k1)) rfl ?_
  refine EvF.gop 23 (go_iload_n d_PS_parameter_22 rfl 2 rfl) rfl ?_
  refine EvF.gop 26 (go_gets 2 (by decide) gs_PS_87 d_PS_parameter_23) rfl ?_
  refine EvF.gop 27 (go_iload_n d_PS_parameter_26 rfl 1 rfl) rfl ?_
  refine EvF.gop 28 (go_tld 2 0 (by decide) (by decide) rfl d_PS_parameter_27) rfl ?_
  refine EvF.go (go_v (y := 400) rfl) ?_
  refine EvF.gop 33 (go_icmp_le_t 33 d_PS_parameter_28 (by decide) (k2)) rfl ?_
  refine EvF.gop 34 (go_aload_n d_PS_parameter_33 rfl 0 rfl) rfl ?_
  refine EvF.gop 37 (go_get f_PS_25 d_PS_parameter_34 (h0) rfl) rfl ?_
  refine EvF.gop 38 (go_iload_n d_PS_parameter_37 rfl 1 rfl) rfl ?_
  refine EvF.gop 39 (go_iload_n d_PS_parameter_38 rfl 2 rfl) rfl ?_
  refine EvF.gop 40 (go_iast (j := 0) d_PS_parameter_39 (h4) (rfl) (by decide) (by decide)) rfl ?_
  refine EvF.gop 41 (go_iconst (v := 0) d_PS_parameter_40 (by decide)) rfl ?_
  exact EvF.ri d_PS_parameter_41 rfl (rfl) (rfl)
theorem e_PS_par0R (G : gG) (M : gM) (p lb db : Nat) (pp : Nat → Int32) (y : Int32) (h0 : gRd M p = some (.inr (10, [.ref (p + 1), .ref (p + 3), .ref (p + 4), .ref (p + 5), .ref (p + 23), .ref (p + 86), .ref lb, .ref db]))) (h4 : gRd M (p + 4) = some (aI G 5 pp)) (k1 : ¬ (10 ≤ y ∧ y ≤ 400)) : Ev G 0 m_PS_parameter [.ref p, .int 0, .int y] M (some (.int (-1))) M := by
  refine Ev.of (Nat.le_of_ble_eq_true rfl) ?_
  show EvF G 0 m_PS_parameter (0, [(0, .ref p), (1, .int 0), (2, .int y)], [], M) _ _
  refine EvF.gop 1 (go_iload_n d_PS_parameter_0 rfl 1 rfl) rfl ?_
  refine EvF.gop 4 (go_if_lt_f 31 d_PS_parameter_1 (by decide) (by decide)) rfl ?_
  refine EvF.gop 5 (go_iload_n d_PS_parameter_4 rfl 1 rfl) rfl ?_
  refine EvF.gop 6 (go_aload_n d_PS_parameter_5 rfl 0 rfl) rfl ?_
  refine EvF.gop 9 (go_get f_PS_25 d_PS_parameter_6 (h0) rfl) rfl ?_
  refine EvF.gop 10 (go_alenI d_PS_parameter_9 (h4)) rfl ?_
  refine EvF.gop 13 (go_icmp_ge_f 31 d_PS_parameter_10 (by decide) (by decide)) rfl ?_
  refine EvF.gop 14 (go_iload_n d_PS_parameter_13 rfl 2 rfl) rfl ?_
  refine EvF.gop 17 (go_gets 1 (by decide) gs_PS_84 d_PS_parameter_14) rfl ?_
  refine EvF.gop 18 (go_iload_n d_PS_parameter_17 rfl 1 rfl) rfl ?_
  refine EvF.gop 19 (go_tld 1 0 (by decide) (by decide) rfl d_PS_parameter_18) rfl ?_
  refine EvF.go (go_v (y := 10) rfl) ?_
  by_cases c1 : y < 10
  · have c1x : ¬ 10 ≤ y := Int32.not_le.mpr c1
    refine EvF.gop 31 (go_icmp_lt_t 31 d_PS_parameter_19 (by decide) (c1)) rfl ?_
    refine EvF.gop 32 (go_iconst (v := (-1)) d_PS_parameter_31 (by decide)) rfl ?_
    exact EvF.ri d_PS_parameter_32 rfl (rfl) (rfl)
  · have c1x : 10 ≤ y := Int32.not_lt.mp c1
    refine EvF.gop 22 (go_icmp_lt_f 31 d_PS_parameter_19 (by decide) (c1)) rfl ?_
    refine EvF.gop 23 (go_iload_n d_PS_parameter_22 rfl 2 rfl) rfl ?_
    refine EvF.gop 26 (go_gets 2 (by decide) gs_PS_87 d_PS_parameter_23) rfl ?_
    refine EvF.gop 27 (go_iload_n d_PS_parameter_26 rfl 1 rfl) rfl ?_
    refine EvF.gop 28 (go_tld 2 0 (by decide) (by decide) rfl d_PS_parameter_27) rfl ?_
    refine EvF.go (go_v (y := 400) rfl) ?_
    by_cases c2 : y ≤ 400
    · have c2x : ¬ 400 < y := Int32.not_lt.mpr c2
      refine EvF.gop 33 (go_icmp_le_t 33 d_PS_parameter_28 (by decide) (c2)) rfl ?_
      exact absurd ⟨by assumption, by assumption⟩ k1
    · have c2x : 400 < y := Int32.not_le.mp c2
      refine EvF.gop 31 (go_icmp_le_f 33 d_PS_parameter_28 (by decide) (c2)) rfl ?_
      refine EvF.gop 32 (go_iconst (v := (-1)) d_PS_parameter_31 (by decide)) rfl ?_
      exact EvF.ri d_PS_parameter_32 rfl (rfl) (rfl)
theorem e_PS_par1 (G : gG) (M : gM) (p lb db : Nat) (pp : Nat → Int32) (y : Int32) (h0 : gRd M p = some (.inr (10, [.ref (p + 1), .ref (p + 3), .ref (p + 4), .ref (p + 5), .ref (p + 23), .ref (p + 86), .ref lb, .ref db]))) (h4 : gRd M (p + 4) = some (aI G 5 pp)) (k1 : 0 ≤ y) (k2 : y ≤ 10000) : Ev G 0 m_PS_parameter [.ref p, .int 1, .int y] M (some (.int 0)) (gWr M (p + 4) (aI G 5 (upd pp 1 y))) := by
  refine Ev.of (Nat.le_of_ble_eq_true rfl) ?_
  show EvF G 0 m_PS_parameter (0, [(0, .ref p), (1, .int 1), (2, .int y)], [], M) _ _
  refine EvF.gop 1 (go_iload_n d_PS_parameter_0 rfl 1 rfl) rfl ?_
  refine EvF.gop 4 (go_if_lt_f 31 d_PS_parameter_1 (by decide) (by decide)) rfl ?_
  refine EvF.gop 5 (go_iload_n d_PS_parameter_4 rfl 1 rfl) rfl ?_
  refine EvF.gop 6 (go_aload_n d_PS_parameter_5 rfl 0 rfl) rfl ?_
  refine EvF.gop 9 (go_get f_PS_25 d_PS_parameter_6 (h0) rfl) rfl ?_
  refine EvF.gop 10 (go_alenI d_PS_parameter_9 (h4)) rfl ?_
  refine EvF.gop 13 (go_icmp_ge_f 31 d_PS_parameter_10 (by decide) (by decide)) rfl ?_
  refine EvF.gop 14 (go_iload_n d_PS_parameter_13 rfl 2 rfl) rfl ?_
  refine EvF.gop 17 (go_gets 1 (by decide) gs_PS_84 d_PS_parameter_14) rfl ?_
  refine EvF.gop 18 (go_iload_n d_PS_parameter_17 rfl 1 rfl) rfl ?_
  refine EvF.gop 19 (go_tld 1 1 (by decide) (by decide) rfl d_PS_parameter_18) rfl ?_
  refine EvF.go (go_v (y := 0) rfl) ?_
  refine EvF.gop 22 (go_icmp_lt_f 31 d_PS_parameter_19 (by decide) (Int32.not_lt.mpr k1)) rfl ?_
  refine EvF.gop 23 (go_iload_n d_PS_parameter_22 rfl 2 rfl) rfl ?_
  refine EvF.gop 26 (go_gets 2 (by decide) gs_PS_87 d_PS_parameter_23) rfl ?_
  refine EvF.gop 27 (go_iload_n d_PS_parameter_26 rfl 1 rfl) rfl ?_
  refine EvF.gop 28 (go_tld 2 1 (by decide) (by decide) rfl d_PS_parameter_27) rfl ?_
  refine EvF.go (go_v (y := 10000) rfl) ?_
  refine EvF.gop 33 (go_icmp_le_t 33 d_PS_parameter_28 (by decide) (k2)) rfl ?_
  refine EvF.gop 34 (go_aload_n d_PS_parameter_33 rfl 0 rfl) rfl ?_
  refine EvF.gop 37 (go_get f_PS_25 d_PS_parameter_34 (h0) rfl) rfl ?_
  refine EvF.gop 38 (go_iload_n d_PS_parameter_37 rfl 1 rfl) rfl ?_
  refine EvF.gop 39 (go_iload_n d_PS_parameter_38 rfl 2 rfl) rfl ?_
  refine EvF.gop 40 (go_iast (j := 1) d_PS_parameter_39 (h4) (rfl) (by decide) (by decide)) rfl ?_
  refine EvF.gop 41 (go_iconst (v := 0) d_PS_parameter_40 (by decide)) rfl ?_
  exact EvF.ri d_PS_parameter_41 rfl (rfl) (rfl)
theorem e_PS_par1R (G : gG) (M : gM) (p lb db : Nat) (pp : Nat → Int32) (y : Int32) (h0 : gRd M p = some (.inr (10, [.ref (p + 1), .ref (p + 3), .ref (p + 4), .ref (p + 5), .ref (p + 23), .ref (p + 86), .ref lb, .ref db]))) (h4 : gRd M (p + 4) = some (aI G 5 pp)) (k1 : ¬ (0 ≤ y ∧ y ≤ 10000)) : Ev G 0 m_PS_parameter [.ref p, .int 1, .int y] M (some (.int (-1))) M := by
  refine Ev.of (Nat.le_of_ble_eq_true rfl) ?_
  show EvF G 0 m_PS_parameter (0, [(0, .ref p), (1, .int 1), (2, .int y)], [], M) _ _
  refine EvF.gop 1 (go_iload_n d_PS_parameter_0 rfl 1 rfl) rfl ?_
  refine EvF.gop 4 (go_if_lt_f 31 d_PS_parameter_1 (by decide) (by decide)) rfl ?_
  refine EvF.gop 5 (go_iload_n d_PS_parameter_4 rfl 1 rfl) rfl ?_
  refine EvF.gop 6 (go_aload_n d_PS_parameter_5 rfl 0 rfl) rfl ?_
  refine EvF.gop 9 (go_get f_PS_25 d_PS_parameter_6 (h0) rfl) rfl ?_
  refine EvF.gop 10 (go_alenI d_PS_parameter_9 (h4)) rfl ?_
  refine EvF.gop 13 (go_icmp_ge_f 31 d_PS_parameter_10 (by decide) (by decide)) rfl ?_
  refine EvF.gop 14 (go_iload_n d_PS_parameter_13 rfl 2 rfl) rfl ?_
  refine EvF.gop 17 (go_gets 1 (by decide) gs_PS_84 d_PS_parameter_14) rfl ?_
  refine EvF.gop 18 (go_iload_n d_PS_parameter_17 rfl 1 rfl) rfl ?_
  refine EvF.gop 19 (go_tld 1 1 (by decide) (by decide) rfl d_PS_parameter_18) rfl ?_
  refine EvF.go (go_v (y := 0) rfl) ?_
  by_cases c1 : y < 0
  · have c1x : ¬ 0 ≤ y := Int32.not_le.mpr c1
    refine EvF.gop 31 (go_icmp_lt_t 31 d_PS_parameter_19 (by decide) (c1)) rfl ?_
    refine EvF.gop 32 (go_iconst (v := (-1)) d_PS_parameter_31 (by decide)) rfl ?_
    exact EvF.ri d_PS_parameter_32 rfl (rfl) (rfl)
  · have c1x : 0 ≤ y := Int32.not_lt.mp c1
    refine EvF.gop 22 (go_icmp_lt_f 31 d_PS_parameter_19 (by decide) (c1)) rfl ?_
    refine EvF.gop 23 (go_iload_n d_PS_parameter_22 rfl 2 rfl) rfl ?_
    refine EvF.gop 26 (go_gets 2 (by decide) gs_PS_87 d_PS_parameter_23) rfl ?_
    refine EvF.gop 27 (go_iload_n d_PS_parameter_26 rfl 1 rfl) rfl ?_
    refine EvF.gop 28 (go_tld 2 1 (by decide) (by decide) rfl d_PS_parameter_27) rfl ?_
    refine EvF.go (go_v (y := 10000) rfl) ?_
    by_cases c2 : y ≤ 10000
    · have c2x : ¬ 10000 < y := Int32.not_lt.mpr c2
      refine EvF.gop 33 (go_icmp_le_t 33 d_PS_parameter_28 (by decide) (c2)) rfl ?_
      exact absurd ⟨by assumption, by assumption⟩ k1
    · have c2x : 10000 < y := Int32.not_le.mp c2
      refine EvF.gop 31 (go_icmp_le_f 33 d_PS_parameter_28 (by decide) (c2)) rfl ?_
      refine EvF.gop 32 (go_iconst (v := (-1)) d_PS_parameter_31 (by decide)) rfl ?_
      exact EvF.ri d_PS_parameter_32 rfl (rfl) (rfl)
theorem e_PS_par2 (G : gG) (M : gM) (p lb db : Nat) (pp : Nat → Int32) (y : Int32) (h0 : gRd M p = some (.inr (10, [.ref (p + 1), .ref (p + 3), .ref (p + 4), .ref (p + 5), .ref (p + 23), .ref (p + 86), .ref lb, .ref db]))) (h4 : gRd M (p + 4) = some (aI G 5 pp)) (k1 : 0 ≤ y) (k2 : y ≤ 100) : Ev G 0 m_PS_parameter [.ref p, .int 2, .int y] M (some (.int 0)) (gWr M (p + 4) (aI G 5 (upd pp 2 y))) := by
  refine Ev.of (Nat.le_of_ble_eq_true rfl) ?_
  show EvF G 0 m_PS_parameter (0, [(0, .ref p), (1, .int 2), (2, .int y)], [], M) _ _
  refine EvF.gop 1 (go_iload_n d_PS_parameter_0 rfl 1 rfl) rfl ?_
  refine EvF.gop 4 (go_if_lt_f 31 d_PS_parameter_1 (by decide) (by decide)) rfl ?_
  refine EvF.gop 5 (go_iload_n d_PS_parameter_4 rfl 1 rfl) rfl ?_
  refine EvF.gop 6 (go_aload_n d_PS_parameter_5 rfl 0 rfl) rfl ?_
  refine EvF.gop 9 (go_get f_PS_25 d_PS_parameter_6 (h0) rfl) rfl ?_
  refine EvF.gop 10 (go_alenI d_PS_parameter_9 (h4)) rfl ?_
  refine EvF.gop 13 (go_icmp_ge_f 31 d_PS_parameter_10 (by decide) (by decide)) rfl ?_
  refine EvF.gop 14 (go_iload_n d_PS_parameter_13 rfl 2 rfl) rfl ?_
  refine EvF.gop 17 (go_gets 1 (by decide) gs_PS_84 d_PS_parameter_14) rfl ?_
  refine EvF.gop 18 (go_iload_n d_PS_parameter_17 rfl 1 rfl) rfl ?_
  refine EvF.gop 19 (go_tld 1 2 (by decide) (by decide) rfl d_PS_parameter_18) rfl ?_
  refine EvF.go (go_v (y := 0) rfl) ?_
  refine EvF.gop 22 (go_icmp_lt_f 31 d_PS_parameter_19 (by decide) (Int32.not_lt.mpr k1)) rfl ?_
  refine EvF.gop 23 (go_iload_n d_PS_parameter_22 rfl 2 rfl) rfl ?_
  refine EvF.gop 26 (go_gets 2 (by decide) gs_PS_87 d_PS_parameter_23) rfl ?_
  refine EvF.gop 27 (go_iload_n d_PS_parameter_26 rfl 1 rfl) rfl ?_
  refine EvF.gop 28 (go_tld 2 2 (by decide) (by decide) rfl d_PS_parameter_27) rfl ?_
  refine EvF.go (go_v (y := 100) rfl) ?_
  refine EvF.gop 33 (go_icmp_le_t 33 d_PS_parameter_28 (by decide) (k2)) rfl ?_
  refine EvF.gop 34 (go_aload_n d_PS_parameter_33 rfl 0 rfl) rfl ?_
  refine EvF.gop 37 (go_get f_PS_25 d_PS_parameter_34 (h0) rfl) rfl ?_
  refine EvF.gop 38 (go_iload_n d_PS_parameter_37 rfl 1 rfl) rfl ?_
  refine EvF.gop 39 (go_iload_n d_PS_parameter_38 rfl 2 rfl) rfl ?_
  refine EvF.gop 40 (go_iast (j := 2) d_PS_parameter_39 (h4) (rfl) (by decide) (by decide)) rfl ?_
  refine EvF.gop 41 (go_iconst (v := 0) d_PS_parameter_40 (by decide)) rfl ?_
  exact EvF.ri d_PS_parameter_41 rfl (rfl) (rfl)
theorem e_PS_par2R (G : gG) (M : gM) (p lb db : Nat) (pp : Nat → Int32) (y : Int32) (h0 : gRd M p = some (.inr (10, [.ref (p + 1), .ref (p + 3), .ref (p + 4), .ref (p + 5), .ref (p + 23), .ref (p + 86), .ref lb, .ref db]))) (h4 : gRd M (p + 4) = some (aI G 5 pp)) (k1 : ¬ (0 ≤ y ∧ y ≤ 100)) : Ev G 0 m_PS_parameter [.ref p, .int 2, .int y] M (some (.int (-1))) M := by
  refine Ev.of (Nat.le_of_ble_eq_true rfl) ?_
  show EvF G 0 m_PS_parameter (0, [(0, .ref p), (1, .int 2), (2, .int y)], [], M) _ _
  refine EvF.gop 1 (go_iload_n d_PS_parameter_0 rfl 1 rfl) rfl ?_
  refine EvF.gop 4 (go_if_lt_f 31 d_PS_parameter_1 (by decide) (by decide)) rfl ?_
  refine EvF.gop 5 (go_iload_n d_PS_parameter_4 rfl 1 rfl) rfl ?_
  refine EvF.gop 6 (go_aload_n d_PS_parameter_5 rfl 0 rfl) rfl ?_
  refine EvF.gop 9 (go_get f_PS_25 d_PS_parameter_6 (h0) rfl) rfl ?_
  refine EvF.gop 10 (go_alenI d_PS_parameter_9 (h4)) rfl ?_
  refine EvF.gop 13 (go_icmp_ge_f 31 d_PS_parameter_10 (by decide) (by decide)) rfl ?_
  refine EvF.gop 14 (go_iload_n d_PS_parameter_13 rfl 2 rfl) rfl ?_
  refine EvF.gop 17 (go_gets 1 (by decide) gs_PS_84 d_PS_parameter_14) rfl ?_
  refine EvF.gop 18 (go_iload_n d_PS_parameter_17 rfl 1 rfl) rfl ?_
  refine EvF.gop 19 (go_tld 1 2 (by decide) (by decide) rfl d_PS_parameter_18) rfl ?_
  refine EvF.go (go_v (y := 0) rfl) ?_
  by_cases c1 : y < 0
  · have c1x : ¬ 0 ≤ y := Int32.not_le.mpr c1
    refine EvF.gop 31 (go_icmp_lt_t 31 d_PS_parameter_19 (by decide) (c1)) rfl ?_
    refine EvF.gop 32 (go_iconst (v := (-1)) d_PS_parameter_31 (by decide)) rfl ?_
    exact EvF.ri d_PS_parameter_32 rfl (rfl) (rfl)
  · have c1x : 0 ≤ y := Int32.not_lt.mp c1
    refine EvF.gop 22 (go_icmp_lt_f 31 d_PS_parameter_19 (by decide) (c1)) rfl ?_
    refine EvF.gop 23 (go_iload_n d_PS_parameter_22 rfl 2 rfl) rfl ?_
    refine EvF.gop 26 (go_gets 2 (by decide) gs_PS_87 d_PS_parameter_23) rfl ?_
    refine EvF.gop 27 (go_iload_n d_PS_parameter_26 rfl 1 rfl) rfl ?_
    refine EvF.gop 28 (go_tld 2 2 (by decide) (by decide) rfl d_PS_parameter_27) rfl ?_
    refine EvF.go (go_v (y := 100) rfl) ?_
    by_cases c2 : y ≤ 100
    · have c2x : ¬ 100 < y := Int32.not_lt.mpr c2
      refine EvF.gop 33 (go_icmp_le_t 33 d_PS_parameter_28 (by decide) (c2)) rfl ?_
      exact absurd ⟨by assumption, by assumption⟩ k1
    · have c2x : 100 < y := Int32.not_le.mp c2
      refine EvF.gop 31 (go_icmp_le_f 33 d_PS_parameter_28 (by decide) (c2)) rfl ?_
      refine EvF.gop 32 (go_iconst (v := (-1)) d_PS_parameter_31 (by decide)) rfl ?_
      exact EvF.ri d_PS_parameter_32 rfl (rfl) (rfl)
theorem e_PS_par3 (G : gG) (M : gM) (p lb db : Nat) (pp : Nat → Int32) (y : Int32) (h0 : gRd M p = some (.inr (10, [.ref (p + 1), .ref (p + 3), .ref (p + 4), .ref (p + 5), .ref (p + 23), .ref (p + 86), .ref lb, .ref db]))) (h4 : gRd M (p + 4) = some (aI G 5 pp)) (k1 : 0 ≤ y) (k2 : y ≤ 200) : Ev G 0 m_PS_parameter [.ref p, .int 3, .int y] M (some (.int 0)) (gWr M (p + 4) (aI G 5 (upd pp 3 y))) := by
  refine Ev.of (Nat.le_of_ble_eq_true rfl) ?_
  show EvF G 0 m_PS_parameter (0, [(0, .ref p), (1, .int 3), (2, .int y)], [], M) _ _
  refine EvF.gop 1 (go_iload_n d_PS_parameter_0 rfl 1 rfl) rfl ?_
  refine EvF.gop 4 (go_if_lt_f 31 d_PS_parameter_1 (by decide) (by decide)) rfl ?_
  refine EvF.gop 5 (go_iload_n d_PS_parameter_4 rfl 1 rfl) rfl ?_
  refine EvF.gop 6 (go_aload_n d_PS_parameter_5 rfl 0 rfl) rfl ?_
  refine EvF.gop 9 (go_get f_PS_25 d_PS_parameter_6 (h0) rfl) rfl ?_
  refine EvF.gop 10 (go_alenI d_PS_parameter_9 (h4)) rfl ?_
  refine EvF.gop 13 (go_icmp_ge_f 31 d_PS_parameter_10 (by decide) (by decide)) rfl ?_
  refine EvF.gop 14 (go_iload_n d_PS_parameter_13 rfl 2 rfl) rfl ?_
  refine EvF.gop 17 (go_gets 1 (by decide) gs_PS_84 d_PS_parameter_14) rfl ?_
  refine EvF.gop 18 (go_iload_n d_PS_parameter_17 rfl 1 rfl) rfl ?_
  refine EvF.gop 19 (go_tld 1 3 (by decide) (by decide) rfl d_PS_parameter_18) rfl ?_
  refine EvF.go (go_v (y := 0) rfl) ?_
  refine EvF.gop 22 (go_icmp_lt_f 31 d_PS_parameter_19 (by decide) (Int32.not_lt.mpr k1)) rfl ?_
  refine EvF.gop 23 (go_iload_n d_PS_parameter_22 rfl 2 rfl) rfl ?_
  refine EvF.gop 26 (go_gets 2 (by decide) gs_PS_87 d_PS_parameter_23) rfl ?_
  refine EvF.gop 27 (go_iload_n d_PS_parameter_26 rfl 1 rfl) rfl ?_
  refine EvF.gop 28 (go_tld 2 3 (by decide) (by decide) rfl d_PS_parameter_27) rfl ?_
  refine EvF.go (go_v (y := 200) rfl) ?_
  refine EvF.gop 33 (go_icmp_le_t 33 d_PS_parameter_28 (by decide) (k2)) rfl ?_
  refine EvF.gop 34 (go_aload_n d_PS_parameter_33 rfl 0 rfl) rfl ?_
  refine EvF.gop 37 (go_get f_PS_25 d_PS_parameter_34 (h0) rfl) rfl ?_
  refine EvF.gop 38 (go_iload_n d_PS_parameter_37 rfl 1 rfl) rfl ?_
  refine EvF.gop 39 (go_iload_n d_PS_parameter_38 rfl 2 rfl) rfl ?_
  refine EvF.gop 40 (go_iast (j := 3) d_PS_parameter_39 (h4) (rfl) (by decide) (by decide)) rfl ?_
  refine EvF.gop 41 (go_iconst (v := 0) d_PS_parameter_40 (by decide)) rfl ?_
  exact EvF.ri d_PS_parameter_41 rfl (rfl) (rfl)
theorem e_PS_par3R (G : gG) (M : gM) (p lb db : Nat) (pp : Nat → Int32) (y : Int32) (h0 : gRd M p = some (.inr (10, [.ref (p + 1), .ref (p + 3), .ref (p + 4), .ref (p + 5), .ref (p + 23), .ref (p + 86), .ref lb, .ref db]))) (h4 : gRd M (p + 4) = some (aI G 5 pp)) (k1 : ¬ (0 ≤ y ∧ y ≤ 200)) : Ev G 0 m_PS_parameter [.ref p, .int 3, .int y] M (some (.int (-1))) M := by
  refine Ev.of (Nat.le_of_ble_eq_true rfl) ?_
  show EvF G 0 m_PS_parameter (0, [(0, .ref p), (1, .int 3), (2, .int y)], [], M) _ _
  refine EvF.gop 1 (go_iload_n d_PS_parameter_0 rfl 1 rfl) rfl ?_
  refine EvF.gop 4 (go_if_lt_f 31 d_PS_parameter_1 (by decide) (by decide)) rfl ?_
  refine EvF.gop 5 (go_iload_n d_PS_parameter_4 rfl 1 rfl) rfl ?_
  refine EvF.gop 6 (go_aload_n d_PS_parameter_5 rfl 0 rfl) rfl ?_
  refine EvF.gop 9 (go_get f_PS_25 d_PS_parameter_6 (h0) rfl) rfl ?_
  refine EvF.gop 10 (go_alenI d_PS_parameter_9 (h4)) rfl ?_
  refine EvF.gop 13 (go_icmp_ge_f 31 d_PS_parameter_10 (by decide) (by decide)) rfl ?_
  refine EvF.gop 14 (go_iload_n d_PS_parameter_13 rfl 2 rfl) rfl ?_
  refine EvF.gop 17 (go_gets 1 (by decide) gs_PS_84 d_PS_parameter_14) rfl ?_
  refine EvF.gop 18 (go_iload_n d_PS_parameter_17 rfl 1 rfl) rfl ?_
  refine EvF.gop 19 (go_tld 1 3 (by decide) (by decide) rfl d_PS_parameter_18) rfl ?_
  refine EvF.go (go_v (y := 0) rfl) ?_
  by_cases c1 : y < 0
  · have c1x : ¬ 0 ≤ y := Int32.not_le.mpr c1
    refine EvF.gop 31 (go_icmp_lt_t 31 d_PS_parameter_19 (by decide) (c1)) rfl ?_
    refine EvF.gop 32 (go_iconst (v := (-1)) d_PS_parameter_31 (by decide)) rfl ?_
    exact EvF.ri d_PS_parameter_32 rfl (rfl) (rfl)
  · have c1x : 0 ≤ y := Int32.not_lt.mp c1
    refine EvF.gop 22 (go_icmp_lt_f 31 d_PS_parameter_19 (by decide) (c1)) rfl ?_
    refine EvF.gop 23 (go_iload_n d_PS_parameter_22 rfl 2 rfl) rfl ?_
    refine EvF.gop 26 (go_gets 2 (by decide) gs_PS_87 d_PS_parameter_23) rfl ?_
    refine EvF.gop 27 (go_iload_n d_PS_parameter_26 rfl 1 rfl) rfl ?_
    refine EvF.gop 28 (go_tld 2 3 (by decide) (by decide) rfl d_PS_parameter_27) rfl ?_
    refine EvF.go (go_v (y := 200) rfl) ?_
    by_cases c2 : y ≤ 200
    · have c2x : ¬ 200 < y := Int32.not_lt.mpr c2
      refine EvF.gop 33 (go_icmp_le_t 33 d_PS_parameter_28 (by decide) (c2)) rfl ?_
      exact absurd ⟨by assumption, by assumption⟩ k1
    · have c2x : 200 < y := Int32.not_le.mp c2
      refine EvF.gop 31 (go_icmp_le_f 33 d_PS_parameter_28 (by decide) (c2)) rfl ?_
      refine EvF.gop 32 (go_iconst (v := (-1)) d_PS_parameter_31 (by decide)) rfl ?_
      exact EvF.ri d_PS_parameter_32 rfl (rfl) (rfl)
theorem e_PS_par4 (G : gG) (M : gM) (p lb db : Nat) (pp : Nat → Int32) (y : Int32) (h0 : gRd M p = some (.inr (10, [.ref (p + 1), .ref (p + 3), .ref (p + 4), .ref (p + 5), .ref (p + 23), .ref (p + 86), .ref lb, .ref db]))) (h4 : gRd M (p + 4) = some (aI G 5 pp)) (k1 : 0 ≤ y) (k2 : y ≤ 10000) : Ev G 0 m_PS_parameter [.ref p, .int 4, .int y] M (some (.int 0)) (gWr M (p + 4) (aI G 5 (upd pp 4 y))) := by
  refine Ev.of (Nat.le_of_ble_eq_true rfl) ?_
  show EvF G 0 m_PS_parameter (0, [(0, .ref p), (1, .int 4), (2, .int y)], [], M) _ _
  refine EvF.gop 1 (go_iload_n d_PS_parameter_0 rfl 1 rfl) rfl ?_
  refine EvF.gop 4 (go_if_lt_f 31 d_PS_parameter_1 (by decide) (by decide)) rfl ?_
  refine EvF.gop 5 (go_iload_n d_PS_parameter_4 rfl 1 rfl) rfl ?_
  refine EvF.gop 6 (go_aload_n d_PS_parameter_5 rfl 0 rfl) rfl ?_
  refine EvF.gop 9 (go_get f_PS_25 d_PS_parameter_6 (h0) rfl) rfl ?_
  refine EvF.gop 10 (go_alenI d_PS_parameter_9 (h4)) rfl ?_
  refine EvF.gop 13 (go_icmp_ge_f 31 d_PS_parameter_10 (by decide) (by decide)) rfl ?_
  refine EvF.gop 14 (go_iload_n d_PS_parameter_13 rfl 2 rfl) rfl ?_
  refine EvF.gop 17 (go_gets 1 (by decide) gs_PS_84 d_PS_parameter_14) rfl ?_
  refine EvF.gop 18 (go_iload_n d_PS_parameter_17 rfl 1 rfl) rfl ?_
  refine EvF.gop 19 (go_tld 1 4 (by decide) (by decide) rfl d_PS_parameter_18) rfl ?_
  refine EvF.go (go_v (y := 0) rfl) ?_
  refine EvF.gop 22 (go_icmp_lt_f 31 d_PS_parameter_19 (by decide) (Int32.not_lt.mpr k1)) rfl ?_
  refine EvF.gop 23 (go_iload_n d_PS_parameter_22 rfl 2 rfl) rfl ?_
  refine EvF.gop 26 (go_gets 2 (by decide) gs_PS_87 d_PS_parameter_23) rfl ?_
  refine EvF.gop 27 (go_iload_n d_PS_parameter_26 rfl 1 rfl) rfl ?_
  refine EvF.gop 28 (go_tld 2 4 (by decide) (by decide) rfl d_PS_parameter_27) rfl ?_
  refine EvF.go (go_v (y := 10000) rfl) ?_
  refine EvF.gop 33 (go_icmp_le_t 33 d_PS_parameter_28 (by decide) (k2)) rfl ?_
  refine EvF.gop 34 (go_aload_n d_PS_parameter_33 rfl 0 rfl) rfl ?_
  refine EvF.gop 37 (go_get f_PS_25 d_PS_parameter_34 (h0) rfl) rfl ?_
  refine EvF.gop 38 (go_iload_n d_PS_parameter_37 rfl 1 rfl) rfl ?_
  refine EvF.gop 39 (go_iload_n d_PS_parameter_38 rfl 2 rfl) rfl ?_
  refine EvF.gop 40 (go_iast (j := 4) d_PS_parameter_39 (h4) (rfl) (by decide) (by decide)) rfl ?_
  refine EvF.gop 41 (go_iconst (v := 0) d_PS_parameter_40 (by decide)) rfl ?_
  exact EvF.ri d_PS_parameter_41 rfl (rfl) (rfl)
theorem e_PS_par4R (G : gG) (M : gM) (p lb db : Nat) (pp : Nat → Int32) (y : Int32) (h0 : gRd M p = some (.inr (10, [.ref (p + 1), .ref (p + 3), .ref (p + 4), .ref (p + 5), .ref (p + 23), .ref (p + 86), .ref lb, .ref db]))) (h4 : gRd M (p + 4) = some (aI G 5 pp)) (k1 : ¬ (0 ≤ y ∧ y ≤ 10000)) : Ev G 0 m_PS_parameter [.ref p, .int 4, .int y] M (some (.int (-1))) M := by
  refine Ev.of (Nat.le_of_ble_eq_true rfl) ?_
  show EvF G 0 m_PS_parameter (0, [(0, .ref p), (1, .int 4), (2, .int y)], [], M) _ _
  refine EvF.gop 1 (go_iload_n d_PS_parameter_0 rfl 1 rfl) rfl ?_
  refine EvF.gop 4 (go_if_lt_f 31 d_PS_parameter_1 (by decide) (by decide)) rfl ?_
  refine EvF.gop 5 (go_iload_n d_PS_parameter_4 rfl 1 rfl) rfl ?_
  refine EvF.gop 6 (go_aload_n d_PS_parameter_5 rfl 0 rfl) rfl ?_
  refine EvF.gop 9 (go_get f_PS_25 d_PS_parameter_6 (h0) rfl) rfl ?_
  refine EvF.gop 10 (go_alenI d_PS_parameter_9 (h4)) rfl ?_
  refine EvF.gop 13 (go_icmp_ge_f 31 d_PS_parameter_10 (by decide) (by decide)) rfl ?_
  refine EvF.gop 14 (go_iload_n d_PS_parameter_13 rfl 2 rfl) rfl ?_
  refine EvF.gop 17 (go_gets 1 (by decide) gs_PS_84 d_PS_parameter_14) rfl ?_
  refine EvF.gop 18 (go_iload_n d_PS_parameter_17 rfl 1 rfl) rfl ?_
  refine EvF.gop 19 (go_tld 1 4 (by decide) (by decide) rfl d_PS_parameter_18) rfl ?_
  refine EvF.go (go_v (y := 0) rfl) ?_
  by_cases c1 : y < 0
  · have c1x : ¬ 0 ≤ y := Int32.not_le.mpr c1
    refine EvF.gop 31 (go_icmp_lt_t 31 d_PS_parameter_19 (by decide) (c1)) rfl ?_
    refine EvF.gop 32 (go_iconst (v := (-1)) d_PS_parameter_31 (by decide)) rfl ?_
    exact EvF.ri d_PS_parameter_32 rfl (rfl) (rfl)
  · have c1x : 0 ≤ y := Int32.not_lt.mp c1
    refine EvF.gop 22 (go_icmp_lt_f 31 d_PS_parameter_19 (by decide) (c1)) rfl ?_
    refine EvF.gop 23 (go_iload_n d_PS_parameter_22 rfl 2 rfl) rfl ?_
    refine EvF.gop 26 (go_gets 2 (by decide) gs_PS_87 d_PS_parameter_23) rfl ?_
    refine EvF.gop 27 (go_iload_n d_PS_parameter_26 rfl 1 rfl) rfl ?_
    refine EvF.gop 28 (go_tld 2 4 (by decide) (by decide) rfl d_PS_parameter_27) rfl ?_
    refine EvF.go (go_v (y := 10000) rfl) ?_
    by_cases c2 : y ≤ 10000
    · have c2x : ¬ 10000 < y := Int32.not_lt.mpr c2
      refine EvF.gop 33 (go_icmp_le_t 33 d_PS_parameter_28 (by decide) (c2)) rfl ?_
      exact absurd ⟨by assumption, by assumption⟩ k1
    · have c2x : 10000 < y := Int32.not_le.mp c2
      refine EvF.gop 31 (go_icmp_le_f 33 d_PS_parameter_28 (by decide) (c2)) rfl ?_
      refine EvF.gop 32 (go_iconst (v := (-1)) d_PS_parameter_31 (by decide)) rfl ?_
      exact EvF.ri d_PS_parameter_32 rfl (rfl) (rfl)
theorem e_PS_parR (G : gG) (M : gM) (p lb db : Nat) (pp : Nat → Int32) (x y : Int32) (h0 : gRd M p = some (.inr (10, [.ref (p + 1), .ref (p + 3), .ref (p + 4), .ref (p + 5), .ref (p + 23), .ref (p + 86), .ref lb, .ref db]))) (h4 : gRd M (p + 4) = some (aI G 5 pp)) (k1 : x < 0 ∨ 4 < x) : Ev G 0 m_PS_parameter [.ref p, .int x, .int y] M (some (.int (-1))) M := by
  refine Ev.of (Nat.le_of_ble_eq_true rfl) ?_
  show EvF G 0 m_PS_parameter (0, [(0, .ref p), (1, .int x), (2, .int y)], [], M) _ _
  refine EvF.gop 1 (go_iload_n d_PS_parameter_0 rfl 1 rfl) rfl ?_
  by_cases c1 : x < 0
  · have c1x : ¬ 0 ≤ x := Int32.not_le.mpr c1
    refine EvF.gop 31 (go_if_lt_t 31 d_PS_parameter_1 (by decide) (c1)) rfl ?_
    refine EvF.gop 32 (go_iconst (v := (-1)) d_PS_parameter_31 (by decide)) rfl ?_
    exact EvF.ri d_PS_parameter_32 rfl (rfl) (rfl)
  · have c1x : 0 ≤ x := Int32.not_lt.mp c1
    refine EvF.gop 4 (go_if_lt_f 31 d_PS_parameter_1 (by decide) (c1)) rfl ?_
    refine EvF.gop 5 (go_iload_n d_PS_parameter_4 rfl 1 rfl) rfl ?_
    refine EvF.gop 6 (go_aload_n d_PS_parameter_5 rfl 0 rfl) rfl ?_
    refine EvF.gop 9 (go_get f_PS_25 d_PS_parameter_6 (h0) rfl) rfl ?_
    refine EvF.gop 10 (go_alenI d_PS_parameter_9 (h4)) rfl ?_
    by_cases c2 : (nI 5) ≤ x
    · have c2x : ¬ x < (nI 5) := Int32.not_lt.mpr c2
      refine EvF.gop 31 (go_icmp_ge_t 31 d_PS_parameter_10 (by decide) (c2)) rfl ?_
      refine EvF.gop 32 (go_iconst (v := (-1)) d_PS_parameter_31 (by decide)) rfl ?_
      exact EvF.ri d_PS_parameter_32 rfl (rfl) (rfl)
    · have c2x : x < (nI 5) := Int32.not_le.mp c2
      refine EvF.gop 13 (go_icmp_ge_f 31 d_PS_parameter_10 (by decide) (c2)) rfl ?_
      exact absurd k1 (by rintro (q | q); exact absurd q (by assumption); exact absurd q (Int32.not_lt.mpr (le4_of_lt5 (Int32.not_le.mp (by assumption)))))
theorem e_PS_define (G : gG) (M : gM) (p lb db : Nat) (e2 e5 e6 e7 z y : Int32) (bd ln : Nat → Int32) (n j : Nat) (h0 : gRd M p = some (.inr (10, [.ref (p + 1), .ref (p + 3), .ref (p + 4), .ref (p + 5), .ref (p + 23), .ref (p + 86), .ref lb, .ref db]))) (h1 : gRd M (p + 1) = some (.inr (0, [.ref (p + 2), .int (nI n)]))) (h2 : gRd M (p + 2) = some (aI G 60 ln)) (h5 : gRd M (p + 5) = some (.inr (2, [.ref (p + 6), .ref (p + 7), .int e2, .ref (p + 8), .ref (p + 10), .int e5, .int e6, .int e7]))) (h6 : gRd M (p + 6) = some (aQ G 3 4 (fun k => some (p + 11 + 3 * k)))) (k1 : gRd M (p + 11 + 3 * j) = some (.inr (1, [.ref (p + 12 + 3 * j), .int z]))) (k2 : gRd M (p + 12 + 3 * j) = some (.inr (0, [.ref (p + 13 + 3 * j), .int y]))) (k3 : gRd M (p + 13 + 3 * j) = some (aI G 24 bd)) (hn : n ≤ 24) (hj : j < 4) : Ev G 3 m_PS_define [.ref p, .int (nI j)] M (some (.int 0)) (gWr (gWr (gWr (gWr M (p + 12 + 3 * j) (.inr (0, [.ref (p + 13 + 3 * j), .int (nI n)]))) (p + 13 + 3 * j) (aI G 24 (cpI ln n bd))) (p + 11 + 3 * j) (.inr (1, [.ref (p + 12 + 3 * j), .int 1]))) (p + 1) (.inr (0, [.ref (p + 2), .int (nI 0)]))) := by
  refine Ev.of (Nat.le_of_ble_eq_true rfl) ?_
  show EvF G 3 m_PS_define (0, [(0, .ref p), (1, .int (nI j))], [], M) _ _
  refine EvF.gop 1 (go_iload_n d_PS_define_0 rfl 1 rfl) rfl ?_
  refine EvF.gop 4 (go_if_lt_f 9 d_PS_define_1 (by decide) (nI_pos (by omega))) rfl ?_
  refine EvF.gop 5 (go_iload_n d_PS_define_4 rfl 1 rfl) rfl ?_
  refine EvF.gop 6 (go_iconst (v := 4) d_PS_define_5 (by decide)) rfl ?_
  refine EvF.gop 11 (go_icmp_lt_t 11 d_PS_define_6 (by decide) (show nI j < nI 4 from nI_lt hj (by decide))) rfl ?_
  refine EvF.gop 12 (go_aload_n d_PS_define_11 rfl 0 rfl) rfl ?_
  refine EvF.gop 15 (go_get f_PS_14 d_PS_define_12 (h0) rfl) rfl ?_
  refine EvF.gop 18 (go_get f_PS_70 d_PS_define_15 (h1) rfl) rfl ?_
  refine EvF.gop 20 (go_bipush (v := 24) d_PS_define_18 (by decide)) rfl ?_
  refine EvF.gop 26 (go_icmp_le_t 26 d_PS_define_20 (by decide) (show nI n ≤ nI 24 from nI_le hn (by decide))) rfl ?_
  refine EvF.gop 27 (go_aload_n d_PS_define_26 rfl 0 rfl) rfl ?_
  refine EvF.gop 30 (go_get f_PS_31 d_PS_define_27 (h0) rfl) rfl ?_
  refine EvF.gop 33 (go_get f_PS_90 d_PS_define_30 (h5) rfl) rfl ?_
  refine EvF.gop 34 (go_iload_n d_PS_define_33 rfl 1 rfl) rfl ?_
  refine EvF.gop 35 (go_aald (j := j) (C := R_Mac) rfl d_PS_define_34 (h6) (rfl) (hj) (by omega)) rfl ?_
  refine EvF.go (go_rf (y := p + 11 + 3 * j) (rfl)) ?_
  refine EvF.gop 36 (go_aload_n d_PS_define_35 rfl 0 rfl) rfl ?_
  refine EvF.gop 39 (go_get f_PS_14 d_PS_define_36 (h0) rfl) rfl ?_
  refine EvF.gop 42 (go_callV [.ref (p + 1)] [] c0_Mac_become im_Mac_become se_Mac_become lk_PS_94 d_PS_define_39 rfl rfl (k1) (e_Mac_become G M (p + 11 + 3 * j) z (p + 12 + 3 * j) (p + 13 + 3 * j) 24 (p + 1) (p + 2) 60 n y bd ln k1 k2 k3 h1 h2 (by omega) (by omega) hn (by omega) (by decide) (by decide) (by omega) (by omega)) (by decide) rfl rfl (Nat.le_of_ble_eq_true rfl) rfl) rfl ?_
  refine EvF.gop 43 (go_aload_n d_PS_define_42 rfl 0 rfl) rfl ?_
  refine EvF.gop 46 (go_get f_PS_14 d_PS_define_43 ((gRd_n _ _ (by omega)).trans ((gRd_n _ _ (by omega)).trans ((gRd_n _ _ (by omega)).trans (h0)))) rfl) rfl ?_
  refine EvF.gop 49 (go_callV [] [] c0_Row_clear im_Row_clear se_Row_clear lk_PS_74 d_PS_define_46 rfl rfl ((gRd_n _ _ (by omega)).trans ((gRd_n _ _ (by omega)).trans ((gRd_n _ _ (by omega)).trans (h1)))) (e_Row_clear G _ (p + 1) (p + 2) _ ((gRd_n _ _ (by omega)).trans ((gRd_n _ _ (by omega)).trans ((gRd_n _ _ (by omega)).trans (h1))))) (by decide) rfl rfl (Nat.le_of_ble_eq_true rfl) rfl) rfl ?_
  refine EvF.gop 50 (go_iconst (v := 0) d_PS_define_49 (by decide)) rfl ?_
  exact EvF.ri d_PS_define_50 rfl (rfl) (rfl)
theorem e_PS_defineF (G : gG) (M : gM) (p lb db : Nat) (ln : Nat → Int32) (n j : Nat) (h0 : gRd M p = some (.inr (10, [.ref (p + 1), .ref (p + 3), .ref (p + 4), .ref (p + 5), .ref (p + 23), .ref (p + 86), .ref lb, .ref db]))) (h1 : gRd M (p + 1) = some (.inr (0, [.ref (p + 2), .int (nI n)]))) (h2 : gRd M (p + 2) = some (aI G 60 ln)) (hn : 24 < n) (hn2 : n ≤ 60) (hj : j < 4) : Ev G 3 m_PS_define [.ref p, .int (nI j)] M (some (.int (-2))) M := by
  refine Ev.of (Nat.le_of_ble_eq_true rfl) ?_
  show EvF G 3 m_PS_define (0, [(0, .ref p), (1, .int (nI j))], [], M) _ _
  refine EvF.gop 1 (go_iload_n d_PS_define_0 rfl 1 rfl) rfl ?_
  refine EvF.gop 4 (go_if_lt_f 9 d_PS_define_1 (by decide) (nI_pos (by omega))) rfl ?_
  refine EvF.gop 5 (go_iload_n d_PS_define_4 rfl 1 rfl) rfl ?_
  refine EvF.gop 6 (go_iconst (v := 4) d_PS_define_5 (by decide)) rfl ?_
  refine EvF.gop 11 (go_icmp_lt_t 11 d_PS_define_6 (by decide) (show nI j < nI 4 from nI_lt hj (by decide))) rfl ?_
  refine EvF.gop 12 (go_aload_n d_PS_define_11 rfl 0 rfl) rfl ?_
  refine EvF.gop 15 (go_get f_PS_14 d_PS_define_12 (h0) rfl) rfl ?_
  refine EvF.gop 18 (go_get f_PS_70 d_PS_define_15 (h1) rfl) rfl ?_
  refine EvF.gop 20 (go_bipush (v := 24) d_PS_define_18 (by decide)) rfl ?_
  refine EvF.gop 23 (go_icmp_le_f 26 d_PS_define_20 (by decide) (show ¬ nI n ≤ nI 24 from nI_ge hn (by omega))) rfl ?_
  refine EvF.gop 25 (go_bipush (v := (-2)) d_PS_define_23 (by decide)) rfl ?_
  exact EvF.ri d_PS_define_25 rfl (rfl) (rfl)
theorem e_PS_defineR (G : gG) (M : gM) (p lb db : Nat) (x : Int32) (h0 : gRd M p = some (.inr (10, [.ref (p + 1), .ref (p + 3), .ref (p + 4), .ref (p + 5), .ref (p + 23), .ref (p + 86), .ref lb, .ref db]))) (k1 : x < 0 ∨ 3 < x) : Ev G 3 m_PS_define [.ref p, .int x] M (some (.int (-1))) M := by
  refine Ev.of (Nat.le_of_ble_eq_true rfl) ?_
  show EvF G 3 m_PS_define (0, [(0, .ref p), (1, .int x)], [], M) _ _
  refine EvF.gop 1 (go_iload_n d_PS_define_0 rfl 1 rfl) rfl ?_
  by_cases c1 : x < 0
  · have c1x : ¬ 0 ≤ x := Int32.not_le.mpr c1
    refine EvF.gop 9 (go_if_lt_t 9 d_PS_define_1 (by decide) (c1)) rfl ?_
    refine EvF.gop 10 (go_iconst (v := (-1)) d_PS_define_9 (by decide)) rfl ?_
    exact EvF.ri d_PS_define_10 rfl (rfl) (rfl)
  · have c1x : 0 ≤ x := Int32.not_lt.mp c1
    refine EvF.gop 4 (go_if_lt_f 9 d_PS_define_1 (by decide) (c1)) rfl ?_
    refine EvF.gop 5 (go_iload_n d_PS_define_4 rfl 1 rfl) rfl ?_
    refine EvF.gop 6 (go_iconst (v := 4) d_PS_define_5 (by decide)) rfl ?_
    by_cases c2 : x < 4
    · have c2x : ¬ 4 ≤ x := Int32.not_le.mpr c2
      refine EvF.gop 11 (go_icmp_lt_t 11 d_PS_define_6 (by decide) (c2)) rfl ?_
      exact absurd k1 (by rintro (q | q); exact absurd q (by assumption); exact absurd q (Int32.not_lt.mpr (le3_of_lt4 (by assumption))))
    · have c2x : 4 ≤ x := Int32.not_lt.mp c2
      refine EvF.gop 9 (go_icmp_lt_f 11 d_PS_define_6 (by decide) (c2)) rfl ?_
      refine EvF.gop 10 (go_iconst (v := (-1)) d_PS_define_9 (by decide)) rfl ?_
      exact EvF.ri d_PS_define_10 rfl (rfl) (rfl)
theorem e_PS_patternF (G : gG) (M : gM) (p lb db : Nat) (np : Nat) (h0 : gRd M p = some (.inr (10, [.ref (p + 1), .ref (p + 3), .ref (p + 4), .ref (p + 5), .ref (p + 23), .ref (p + 86), .ref lb, .ref db]))) (y1 : gRd M (p + 23) = some (.inr (5, [.ref (p + 24), .int (nI np), .ref (p + 25)]))) (hnp : np = 20) : Ev G 4 m_PS_pattern [.ref p] M (some (.int (-2))) M := by
  refine Ev.of (Nat.le_of_ble_eq_true rfl) ?_
  show EvF G 4 m_PS_pattern (0, [(0, .ref p)], [], M) _ _
  refine EvF.gop 1 (go_aload_n d_PS_pattern_0 rfl 0 rfl) rfl ?_
  refine EvF.gop 4 (go_get f_PS_38 d_PS_pattern_1 (h0) rfl) rfl ?_
  refine EvF.gop 7 (go_callV [] [.int (bI (decide (np = 20)))] c0_Hyp_isFull im_Hyp_isFull se_Hyp_isFull lk_PS_100 d_PS_pattern_4 rfl rfl (y1) (e_Hyp_isFull G M (p + 23) (p + 24) (p + 25) np y1 (by omega)) (by decide) rfl rfl (Nat.le_of_ble_eq_true rfl) rfl) rfl ?_
  refine EvF.gop 10 (go_if_eq_f 13 d_PS_pattern_7 (by decide) (by rw [hnp]; decide)) rfl ?_
  refine EvF.gop 12 (go_bipush (v := (-2)) d_PS_pattern_10 (by decide)) rfl ?_
  exact EvF.ri d_PS_pattern_12 rfl (rfl) (rfl)
theorem e_PS_patternS (G : gG) (M : gM) (p lb db : Nat) (np n : Nat) (x : Int32) (sg0 lv0 ln : Nat → Int32) (h0 : gRd M p = some (.inr (10, [.ref (p + 1), .ref (p + 3), .ref (p + 4), .ref (p + 5), .ref (p + 23), .ref (p + 86), .ref lb, .ref db]))) (h1 : gRd M (p + 1) = some (.inr (0, [.ref (p + 2), .int (nI n)]))) (h2 : gRd M (p + 2) = some (aI G 60 ln)) (y1 : gRd M (p + 23) = some (.inr (5, [.ref (p + 24), .int (nI np), .ref (p + 25)]))) (y2 : gRd M (p + 24) = some (aQ G 4 20 (fun k => some (p + 26 + 3 * k)))) (k1 : gRd M (p + 26 + 3 * np) = some (.inr (4, [.ref (p + 27 + 3 * np), .ref (p + 28 + 3 * np), .int x]))) (k2 : gRd M (p + 27 + 3 * np) = some (aI G 5 sg0)) (k3 : gRd M (p + 28 + 3 * np) = some (aI G 6 lv0)) (hnp : np < 20) (hn : n ≤ 60) (hr : (rdF ln n 0 0 sg0 (upd lv0 0 0) false).1 = false) : Ev G 4 m_PS_pattern [.ref p] M (some (.int (-3))) (gWr (gWr (gWr M (p + 26 + 3 * np) (.inr (4, [.ref (p + 27 + 3 * np), .ref (p + 28 + 3 * np), .int (nI (rdF ln n 0 0 sg0 (upd lv0 0 0) false).2.1)]))) (p + 28 + 3 * np) (aI G 6 ((rdF ln n 0 0 sg0 (upd lv0 0 0) false).2.2.2))) (p + 27 + 3 * np) (aI G 5 ((rdF ln n 0 0 sg0 (upd lv0 0 0) false).2.2.1))) := by
  refine Ev.of (Nat.le_of_ble_eq_true rfl) ?_
  show EvF G 4 m_PS_pattern (0, [(0, .ref p)], [], M) _ _
  refine EvF.gop 1 (go_aload_n d_PS_pattern_0 rfl 0 rfl) rfl ?_
  refine EvF.gop 4 (go_get f_PS_38 d_PS_pattern_1 (h0) rfl) rfl ?_
  refine EvF.gop 7 (go_callV [] [.int (bI (decide (np = 20)))] c0_Hyp_isFull im_Hyp_isFull se_Hyp_isFull lk_PS_100 d_PS_pattern_4 rfl rfl (y1) (e_Hyp_isFull G M (p + 23) (p + 24) (p + 25) np y1 (by omega)) (by decide) rfl rfl (Nat.le_of_ble_eq_true rfl) rfl) rfl ?_
  refine EvF.gop 13 (go_if_eq_t 13 d_PS_pattern_7 (by decide) (by rw [show decide (np = 20) = false from decide_eq_false (by omega)]; rfl)) rfl ?_
  refine EvF.gop 14 (go_aload_n d_PS_pattern_13 rfl 0 rfl) rfl ?_
  refine EvF.gop 17 (go_get f_PS_38 d_PS_pattern_14 (h0) rfl) rfl ?_
  refine EvF.gop 18 (go_aload_n d_PS_pattern_17 rfl 0 rfl) rfl ?_
  refine EvF.gop 21 (go_get f_PS_14 d_PS_pattern_18 (h0) rfl) rfl ?_
  refine EvF.gop 24 (go_callV [.ref (p + 1)] [.int 0] c0_Hyp_learn im_Hyp_learn se_Hyp_learn lk_PS_101 d_PS_pattern_21 rfl rfl (y1) (e_Hyp_learnF G M (p + 23) (p + 24) (p + 25) np (p + 26 + 3 * np) (p + 27 + 3 * np) (p + 28 + 3 * np) (p + 1) (p + 2) 60 n x (fun k => some (p + 26 + 3 * k)) sg0 lv0 ln y1 y2 hnp rfl k1 k2 k3 h1 h2 (by omega) (by omega) (by omega) hn (by decide) hr) (by decide) rfl rfl (Nat.le_of_ble_eq_true rfl) rfl) rfl ?_
  refine EvF.gop 27 (go_if_ne_f 30 d_PS_pattern_24 (by decide) (by decide)) rfl ?_
  refine EvF.gop 29 (go_bipush (v := (-3)) d_PS_pattern_27 (by decide)) rfl ?_
  exact EvF.ri d_PS_pattern_29 rfl (rfl) (rfl)
theorem e_PS_pattern (G : gG) (M : gM) (p lb db : Nat) (np n : Nat) (x : Int32) (sg0 lv0 ln : Nat → Int32) (h0 : gRd M p = some (.inr (10, [.ref (p + 1), .ref (p + 3), .ref (p + 4), .ref (p + 5), .ref (p + 23), .ref (p + 86), .ref lb, .ref db]))) (h1 : gRd M (p + 1) = some (.inr (0, [.ref (p + 2), .int (nI n)]))) (h2 : gRd M (p + 2) = some (aI G 60 ln)) (y1 : gRd M (p + 23) = some (.inr (5, [.ref (p + 24), .int (nI np), .ref (p + 25)]))) (y2 : gRd M (p + 24) = some (aQ G 4 20 (fun k => some (p + 26 + 3 * k)))) (k1 : gRd M (p + 26 + 3 * np) = some (.inr (4, [.ref (p + 27 + 3 * np), .ref (p + 28 + 3 * np), .int x]))) (k2 : gRd M (p + 27 + 3 * np) = some (aI G 5 sg0)) (k3 : gRd M (p + 28 + 3 * np) = some (aI G 6 lv0)) (hnp : np < 20) (hn : n ≤ 60) (hr : (rdF ln n 0 0 sg0 (upd lv0 0 0) false).1 = true) : Ev G 4 m_PS_pattern [.ref p] M (some (.int (nI (np + 1)))) (gWr (gWr (gWr (gWr (gWr M (p + 26 + 3 * np) (.inr (4, [.ref (p + 27 + 3 * np), .ref (p + 28 + 3 * np), .int (nI (rdF ln n 0 0 sg0 (upd lv0 0 0) false).2.1)]))) (p + 28 + 3 * np) (aI G 6 ((rdF ln n 0 0 sg0 (upd lv0 0 0) false).2.2.2))) (p + 27 + 3 * np) (aI G 5 ((rdF ln n 0 0 sg0 (upd lv0 0 0) false).2.2.1))) (p + 23) (.inr (5, [.ref (p + 24), .int (nI (np + 1)), .ref (p + 25)]))) (p + 1) (.inr (0, [.ref (p + 2), .int (nI 0)]))) := by
  refine Ev.of (Nat.le_of_ble_eq_true rfl) ?_
  show EvF G 4 m_PS_pattern (0, [(0, .ref p)], [], M) _ _
  refine EvF.gop 1 (go_aload_n d_PS_pattern_0 rfl 0 rfl) rfl ?_
  refine EvF.gop 4 (go_get f_PS_38 d_PS_pattern_1 (h0) rfl) rfl ?_
  refine EvF.gop 7 (go_callV [] [.int (bI (decide (np = 20)))] c0_Hyp_isFull im_Hyp_isFull se_Hyp_isFull lk_PS_100 d_PS_pattern_4 rfl rfl (y1) (e_Hyp_isFull G M (p + 23) (p + 24) (p + 25) np y1 (by omega)) (by decide) rfl rfl (Nat.le_of_ble_eq_true rfl) rfl) rfl ?_
  refine EvF.gop 13 (go_if_eq_t 13 d_PS_pattern_7 (by decide) (by rw [show decide (np = 20) = false from decide_eq_false (by omega)]; rfl)) rfl ?_
  refine EvF.gop 14 (go_aload_n d_PS_pattern_13 rfl 0 rfl) rfl ?_
  refine EvF.gop 17 (go_get f_PS_38 d_PS_pattern_14 (h0) rfl) rfl ?_
  refine EvF.gop 18 (go_aload_n d_PS_pattern_17 rfl 0 rfl) rfl ?_
  refine EvF.gop 21 (go_get f_PS_14 d_PS_pattern_18 (h0) rfl) rfl ?_
  refine EvF.gop 24 (go_callV [.ref (p + 1)] [.int 1] c0_Hyp_learn im_Hyp_learn se_Hyp_learn lk_PS_101 d_PS_pattern_21 rfl rfl (y1) (e_Hyp_learnT G M (p + 23) (p + 24) (p + 25) np (p + 26 + 3 * np) (p + 27 + 3 * np) (p + 28 + 3 * np) (p + 1) (p + 2) 60 n x (fun k => some (p + 26 + 3 * k)) sg0 lv0 ln y1 y2 hnp rfl k1 k2 k3 h1 h2 (by omega) (by omega) (by omega) hn (by decide) hr) (by decide) rfl rfl (Nat.le_of_ble_eq_true rfl) rfl) rfl ?_
  refine EvF.gop 30 (go_if_ne_t 30 d_PS_pattern_24 (by decide) (by decide)) rfl ?_
  refine EvF.gop 31 (go_aload_n d_PS_pattern_30 rfl 0 rfl) rfl ?_
  refine EvF.gop 34 (go_get f_PS_14 d_PS_pattern_31 ((gRd_n _ _ (by omega)).trans ((gRd_n _ _ (by omega)).trans ((gRd_n _ _ (by omega)).trans ((gRd_n _ _ (by omega)).trans (h0))))) rfl) rfl ?_
  refine EvF.gop 37 (go_callV [] [] c0_Row_clear im_Row_clear se_Row_clear lk_PS_74 d_PS_pattern_34 rfl rfl ((gRd_n _ _ (by omega)).trans ((gRd_n _ _ (by omega)).trans ((gRd_n _ _ (by omega)).trans ((gRd_n _ _ (by omega)).trans (h1))))) (e_Row_clear G _ (p + 1) (p + 2) _ ((gRd_n _ _ (by omega)).trans ((gRd_n _ _ (by omega)).trans ((gRd_n _ _ (by omega)).trans ((gRd_n _ _ (by omega)).trans (h1)))))) (by decide) rfl rfl (Nat.le_of_ble_eq_true rfl) rfl) rfl ?_
  refine EvF.gop 38 (go_aload_n d_PS_pattern_37 rfl 0 rfl) rfl ?_
  refine EvF.gop 41 (go_get f_PS_38 d_PS_pattern_38 ((gRd_n _ _ (by omega)).trans ((gRd_n _ _ (by omega)).trans ((gRd_n _ _ (by omega)).trans ((gRd_n _ _ (by omega)).trans ((gRd_n _ _ (by omega)).trans (h0)))))) rfl) rfl ?_
  refine EvF.gop 44 (go_get f_PS_105 d_PS_pattern_41 ((gRd_n _ _ (by omega)).trans (gRd_s _ _ _)) rfl) rfl ?_
  exact EvF.ri d_PS_pattern_44 rfl (rfl) (rfl)
theorem e_PS_showDraft (G : gG) (M : gM) (p lb db : Nat) (h0 : gRd M p = some (.inr (10, [.ref (p + 1), .ref (p + 3), .ref (p + 4), .ref (p + 5), .ref (p + 23), .ref (p + 86), .ref lb, .ref db]))) : Ev G 0 m_PS_showDraft [.ref p] M none (gWr M p (.inr (10, [.ref (p + 1), .ref (p + 3), .ref (p + 4), .ref (p + 5), .ref (p + 23), .ref (p + 86), .ref db, .ref lb]))) := by
  refine Ev.of (Nat.le_of_ble_eq_true rfl) ?_
  show EvF G 0 m_PS_showDraft (0, [(0, .ref p)], [], M) _ _
  refine EvF.gop 1 (go_aload_n d_PS_showDraft_0 rfl 0 rfl) rfl ?_
  refine EvF.gop 4 (go_get f_PS_52 d_PS_showDraft_1 (h0) rfl) rfl ?_
  refine EvF.gop 5 (go_astore_n [(1, .ref lb), (0, .ref p)] d_PS_showDraft_4 rfl (by decide) rfl) rfl ?_
  refine EvF.go (go_pick [1, 0] [(0, .ref p), (1, .ref lb)] rfl) ?_
  refine EvF.gop 6 (go_aload_n d_PS_showDraft_5 rfl 0 rfl) rfl ?_
  refine EvF.gop 7 (go_aload_n d_PS_showDraft_6 rfl 0 rfl) rfl ?_
  refine EvF.gop 10 (go_get f_PS_56 d_PS_showDraft_7 (h0) rfl) rfl ?_
  refine EvF.gop 13 (go_put [.ref (p + 1), .ref (p + 3), .ref (p + 4), .ref (p + 5), .ref (p + 23), .ref (p + 86), .ref db, .ref db] f_PS_52 ft_PS_6 d_PS_showDraft_10 (h0) (rfl) (rfl) (Nat.le_of_ble_eq_true rfl) rfl) rfl ?_
  refine EvF.gop 14 (go_aload_n d_PS_showDraft_13 rfl 0 rfl) rfl ?_
  refine EvF.gop 15 (go_aload_n d_PS_showDraft_14 rfl 1 rfl) rfl ?_
  refine EvF.gop 18 (go_put [.ref (p + 1), .ref (p + 3), .ref (p + 4), .ref (p + 5), .ref (p + 23), .ref (p + 86), .ref db, .ref lb] f_PS_56 ft_PS_7 d_PS_showDraft_15 (gRd_s _ _ _) (rfl) (rfl) (Nat.le_of_ble_eq_true rfl) rfl) rfl ?_
  refine EvF.go (go_m (M' := (gWr M p (.inr (10, [.ref (p + 1), .ref (p + 3), .ref (p + 4), .ref (p + 5), .ref (p + 23), .ref (p + 86), .ref db, .ref lb])))) (gWr_wr M p (.inr (10, [.ref (p + 1), .ref (p + 3), .ref (p + 4), .ref (p + 5), .ref (p + 23), .ref (p + 86), .ref db, .ref db])) (.inr (10, [.ref (p + 1), .ref (p + 3), .ref (p + 4), .ref (p + 5), .ref (p + 23), .ref (p + 86), .ref db, .ref lb])))) ?_
  exact EvF.rv d_PS_showDraft_18 rfl (rfl)
