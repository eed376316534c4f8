def coI (K c : Nat → Int32) (x1 e g k : Nat) : Int32 := if lenN K x1 e g ≤ k then 0 else if e - g ≤ k then 45 else if c (g + k) = 126 then 32 else c (g + k)
/-- codeAt -/
theorem e_Stg_codeAt (G : gG) (M : gM) (a : Nat → Nat) (dw cl ln : Int32) (tt : Int64) (bn : Int32) (K E B W ST SH L DD PP X : Nat → Int32) (i x0 x1 e g : Nat) (k tc ts : Nat) (tn : Int32) (c : Nat → Int32) (hq : StgAt G M a dw cl ln tt bn K E B W ST SH L DD PP X) (hi : i < 24) (hX0 : X i = nI x0) (hX1 : X (i + 1) = nI x1) (h0 : x0 < 25) (h1 : x1 < 25) (hE : E x1 = nI e) (hB : B x0 = nI g) (he : e < 121) (hg : g < 121) (hge : g ≤ e) (hk : k < 2 ^ 31) (ht : gRd M (a 1) = some (.inr (3, [.ref tc, .ref ts, .int tn]))) (hc : gRd M tc = some (aI G 120 c)) : Ev G 2 m_Stg_codeAt [.ref (a 0), .int (nI i), .int (nI k)] M (some (.int (coI K c x1 e g k))) M := by
  have hl9 := lenN_le K x1 e g
  refine Ev.of (Nat.le_of_ble_eq_true rfl) ?_
  show EvF G 2 m_Stg_codeAt (0, [(0, .ref (a 0)), (1, .int (nI i)), (2, .int (nI k))], [], M) _ _
  refine EvF.gop 1 (go_iload_n d_Stg_codeAt_0 rfl 2 rfl) rfl ?_
  refine EvF.gop 2 (go_aload_n d_Stg_codeAt_1 rfl 0 rfl) rfl ?_
  refine EvF.gop 3 (go_iload_n d_Stg_codeAt_2 rfl 1 rfl) rfl ?_
  refine EvF.gop 6 (go_callV [.int (nI i)] [.int (nI (lenN K x1 e g)), .int (nI k)] c0_Stg_length im_Stg_length se_Stg_length lk_Stg_118 d_Stg_codeAt_3 rfl rfl (hq.1) (e_Stg_length G M a dw cl ln tt bn K E B W ST SH L DD PP X i x0 x1 e g hq hi hX0 hX1 h0 h1 hE hB he hg hge) (by decide) rfl rfl (Nat.le_of_ble_eq_true rfl) rfl) rfl ?_
  by_cases c1 : (nI k) < (nI (lenN K x1 e g))
  · have c1x : k < (lenN K x1 e g) := (nI_ltI (a := k) (b := (lenN K x1 e g)) (by omega) (by omega)).mp c1
    have c1y : ¬ (lenN K x1 e g) ≤ k := by omega
    refine EvF.gop 11 (go_icmp_lt_t 11 d_Stg_codeAt_6 (by decide) (c1)) rfl ?_
    refine EvF.gop 12 (go_iload_n d_Stg_codeAt_11 rfl 2 rfl) rfl ?_
    refine EvF.gop 13 (go_aload_n d_Stg_codeAt_12 rfl 0 rfl) rfl ?_
    refine EvF.gop 14 (go_iload_n d_Stg_codeAt_13 rfl 1 rfl) rfl ?_
    refine EvF.gop 17 (go_callV [.int (nI i)] [.int (nI (e - g)), .int (nI k)] c0_Stg_items im_Stg_items se_Stg_items lk_Stg_115 d_Stg_codeAt_14 rfl rfl (hq.1) (e_Stg_items G M a dw cl ln tt bn K E B W ST SH L DD PP X i x0 x1 e g hq hi hX0 hX1 h0 h1 hE hB he hg hge) (by decide) rfl rfl (Nat.le_of_ble_eq_true rfl) rfl) rfl ?_
    by_cases c2 : (nI k) < (nI (e - g))
    · have c2x : k < (e - g) := (nI_ltI (a := k) (b := (e - g)) (by omega) (by omega)).mp c2
      have c2y : ¬ (e - g) ≤ k := by omega
      refine EvF.gop 23 (go_icmp_lt_t 23 d_Stg_codeAt_17 (by decide) (c2)) rfl ?_
      refine EvF.gop 24 (go_aload_n d_Stg_codeAt_23 rfl 0 rfl) rfl ?_
      refine EvF.gop 27 (go_get f_Stg_12 d_Stg_codeAt_24 (hq.1) rfl) rfl ?_
      refine EvF.gop 30 (go_get f_Stg_121 d_Stg_codeAt_27 (ht) rfl) rfl ?_
      refine EvF.gop 31 (go_aload_n d_Stg_codeAt_30 rfl 0 rfl) rfl ?_
      refine EvF.gop 34 (go_get f_Stg_21 d_Stg_codeAt_31 (hq.1) rfl) rfl ?_
      refine EvF.gop 37 (go_get f_Stg_124 d_Stg_codeAt_34 (hq.2.1) rfl) rfl ?_
      refine EvF.gop 38 (go_aload_n d_Stg_codeAt_37 rfl 0 rfl) rfl ?_
      refine EvF.gop 41 (go_get f_Stg_46 d_Stg_codeAt_38 (hq.1) rfl) rfl ?_
      refine EvF.gop 42 (go_iload_n d_Stg_codeAt_41 rfl 1 rfl) rfl ?_
      refine EvF.gop 43 (go_iald (j := i) d_Stg_codeAt_42 (hq.2.2.2.2.2.2.2.2.2.2.2.2) (rfl) (by omega) (by omega)) rfl ?_
      refine EvF.go (go_v (y := nI x0) (hX0)) ?_
      refine EvF.gop 44 (go_iald (j := x0) d_Stg_codeAt_43 (hq.2.2.2.2.1) (rfl) (h0) (by omega)) rfl ?_
      refine EvF.go (go_v (y := nI g) (hB)) ?_
      refine EvF.gop 45 (go_iload_n d_Stg_codeAt_44 rfl 2 rfl) rfl ?_
      refine EvF.gop 46 (go_iadd d_Stg_codeAt_45) rfl ?_
      refine EvF.go (go_v (y := nI (g + k)) (nI_add g k)) ?_
      refine EvF.gop 47 (go_iald (j := (g + k)) d_Stg_codeAt_46 (hc) (rfl) (by omega) (by omega)) rfl ?_
      refine EvF.gop 48 (go_istore_n [(3, .int (c (g + k))), (0, .ref (a 0)), (1, .int (nI i)), (2, .int (nI k))] d_Stg_codeAt_47 rfl (by decide) rfl) rfl ?_
      refine EvF.go (go_pick [1, 2, 3, 0] [(0, .ref (a 0)), (1, .int (nI i)), (2, .int (nI k)), (3, .int (c (g + k)))] rfl) ?_
      refine EvF.gop 49 (go_iload_n d_Stg_codeAt_48 rfl 3 rfl) rfl ?_
      refine EvF.gop 51 (go_bipush (v := 126) d_Stg_codeAt_49 (by decide)) rfl ?_
      by_cases c3 : (c (g + k)) = 126
      · refine EvF.gop 54 (go_icmp_ne_f 59 d_Stg_codeAt_51 (by decide) (c3)) rfl ?_
        refine EvF.gop 56 (go_bipush (v := 32) d_Stg_codeAt_54 (by decide)) rfl ?_
        refine EvF.gop 60 (go_goto 60 d_Stg_codeAt_56 (by decide)) rfl ?_
        exact EvF.ri d_Stg_codeAt_60 rfl (by simp [coI, *]) (rfl)
      · refine EvF.gop 59 (go_icmp_ne_t 59 d_Stg_codeAt_51 (by decide) (c3)) rfl ?_
        refine EvF.gop 60 (go_iload_n d_Stg_codeAt_59 rfl 3 rfl) rfl ?_
        exact EvF.ri d_Stg_codeAt_60 rfl (by simp [coI, *]) (rfl)
    · have c2x : (e - g) ≤ k := Nat.le_of_not_lt (fun q9 => c2 ((nI_ltI (a := k) (b := (e - g)) (by omega) (by omega)).mpr q9))
      have c2y : ¬ k < (e - g) := by omega
      refine EvF.gop 20 (go_icmp_lt_f 23 d_Stg_codeAt_17 (by decide) (c2)) rfl ?_
      refine EvF.gop 22 (go_bipush (v := 45) d_Stg_codeAt_20 (by decide)) rfl ?_
      exact EvF.ri d_Stg_codeAt_22 rfl (by simp [coI, *]) (rfl)
  · have c1x : (lenN K x1 e g) ≤ k := Nat.le_of_not_lt (fun q9 => c1 ((nI_ltI (a := k) (b := (lenN K x1 e g)) (by omega) (by omega)).mpr q9))
    have c1y : ¬ k < (lenN K x1 e g) := by omega
    refine EvF.gop 9 (go_icmp_lt_f 11 d_Stg_codeAt_6 (by decide) (c1)) rfl ?_
    refine EvF.gop 10 (go_iconst (v := 0) d_Stg_codeAt_9 (by decide)) rfl ?_
    exact EvF.ri d_Stg_codeAt_10 rfl (by simp [coI, *]) (rfl)
def plI (W ST SH K PP : Nat → Int32) (dw : Int32) (x1 e g k : Nat) : Int32 :=
  if (if 0 < dfI W K PP dw x1 e g then ST e - ST g else SH e - SH g) = 0 then W (g + k) - W g else if loI K (dfI W K PP dw x1 e g) x1 = true then W (g + k) - W g
  else (W (g + k) - W g) + fdI (dfI W K PP dw x1 e g * (if 0 < dfI W K PP dw x1 e g then ST (g + k) - ST g else SH (g + k) - SH g)) (if 0 < dfI W K PP dw x1 e g then ST e - ST g else SH e - SH g)
/-- placeOf -/
theorem e_Stg_placeOf (G : gG) (M : gM) (a : Nat → Nat) (dw cl ln : Int32) (tt : Int64) (bn : Int32) (K E B W ST SH L DD PP X : Nat → Int32) (i x0 x1 e g : Nat) (k : Nat) (hq : StgAt G M a dw cl ln tt bn K E B W ST SH L DD PP X) (hi : i < 24) (hX0 : X i = nI x0) (hX1 : X (i + 1) = nI x1) (h0 : x0 < 25) (h1 : x1 < 25) (hE : E x1 = nI e) (hB : B x0 = nI g) (he : e < 121) (hg : g < 121) (hge : g ≤ e) (hk : g + k ≤ e) : Ev G 3 m_Stg_placeOf [.ref (a 0), .int (nI i), .int (nI k)] M (some (.int (plI W ST SH K PP dw x1 e g k))) M := by
  refine Ev.of (Nat.le_of_ble_eq_true rfl) ?_
  show EvF G 3 m_Stg_placeOf (0, [(0, .ref (a 0)), (1, .int (nI i)), (2, .int (nI k))], [], M) _ _
  refine EvF.gop 1 (go_aload_n d_Stg_placeOf_0 rfl 0 rfl) rfl ?_
  refine EvF.gop 4 (go_get f_Stg_46 d_Stg_placeOf_1 (hq.1) rfl) rfl ?_
  refine EvF.gop 5 (go_iload_n d_Stg_placeOf_4 rfl 1 rfl) rfl ?_
  refine EvF.gop 6 (go_iald (j := i) d_Stg_placeOf_5 (hq.2.2.2.2.2.2.2.2.2.2.2.2) (rfl) (by omega) (by omega)) rfl ?_
  refine EvF.go (go_v (y := nI x0) (hX0)) ?_
  refine EvF.gop 7 (go_istore_n [(3, .int (nI x0)), (0, .ref (a 0)), (1, .int (nI i)), (2, .int (nI k))] d_Stg_placeOf_6 rfl (by decide) rfl) rfl ?_
  refine EvF.go (go_pick [1, 2, 3, 0] [(0, .ref (a 0)), (1, .int (nI i)), (2, .int (nI k)), (3, .int (nI x0))] rfl) ?_
  refine EvF.gop 8 (go_aload_n d_Stg_placeOf_7 rfl 0 rfl) rfl ?_
  refine EvF.gop 11 (go_get f_Stg_46 d_Stg_placeOf_8 (hq.1) rfl) rfl ?_
  refine EvF.gop 12 (go_iload_n d_Stg_placeOf_11 rfl 1 rfl) rfl ?_
  refine EvF.gop 13 (go_iconst (v := 1) d_Stg_placeOf_12 (by decide)) rfl ?_
  refine EvF.gop 14 (go_iadd d_Stg_placeOf_13) rfl ?_
  refine EvF.go (go_v (y := nI (i + 1)) (nI_1 i)) ?_
  refine EvF.gop 15 (go_iald (j := (i + 1)) d_Stg_placeOf_14 (hq.2.2.2.2.2.2.2.2.2.2.2.2) (rfl) (by omega) (by omega)) rfl ?_
  refine EvF.go (go_v (y := nI x1) (hX1)) ?_
  refine EvF.gop 17 (go_istore [(4, .int (nI x1)), (0, .ref (a 0)), (1, .int (nI i)), (2, .int (nI k)), (3, .int (nI x0))] d_Stg_placeOf_15 (by decide) rfl) rfl ?_
  refine EvF.go (go_pick [1, 2, 3, 4, 0] [(0, .ref (a 0)), (1, .int (nI i)), (2, .int (nI k)), (3, .int (nI x0)), (4, .int (nI x1))] rfl) ?_
  refine EvF.gop 18 (go_aload_n d_Stg_placeOf_17 rfl 0 rfl) rfl ?_
  refine EvF.gop 21 (go_get f_Stg_21 d_Stg_placeOf_18 (hq.1) rfl) rfl ?_
  refine EvF.gop 24 (go_get f_Stg_124 d_Stg_placeOf_21 (hq.2.1) rfl) rfl ?_
  refine EvF.gop 25 (go_iload_n d_Stg_placeOf_24 rfl 3 rfl) rfl ?_
  refine EvF.gop 26 (go_iald (j := x0) d_Stg_placeOf_25 (hq.2.2.2.2.1) (rfl) (h0) (by omega)) rfl ?_
  refine EvF.go (go_v (y := nI g) (hB)) ?_
  refine EvF.gop 28 (go_istore [(5, .int (nI g)), (0, .ref (a 0)), (1, .int (nI i)), (2, .int (nI k)), (3, .int (nI x0)), (4, .int (nI x1))] d_Stg_placeOf_26 (by decide) rfl) rfl ?_
  refine EvF.go (go_pick [1, 2, 3, 4, 5, 0] [(0, .ref (a 0)), (1, .int (nI i)), (2, .int (nI k)), (3, .int (nI x0)), (4, .int (nI x1)), (5, .int (nI g))] rfl) ?_
  refine EvF.gop 29 (go_aload_n d_Stg_placeOf_28 rfl 0 rfl) rfl ?_
  refine EvF.gop 32 (go_get f_Stg_28 d_Stg_placeOf_29 (hq.1) rfl) rfl ?_
  refine EvF.gop 35 (go_get f_Stg_71 d_Stg_placeOf_32 (hq.2.2.2.2.2.1) rfl) rfl ?_
  refine EvF.gop 37 (go_iload d_Stg_placeOf_35 5 rfl) rfl ?_
  refine EvF.gop 38 (go_iload_n d_Stg_placeOf_37 rfl 2 rfl) rfl ?_
  refine EvF.gop 39 (go_iadd d_Stg_placeOf_38) rfl ?_
  refine EvF.go (go_v (y := nI (g + k)) (nI_add g k)) ?_
  refine EvF.gop 40 (go_iald (j := (g + k)) d_Stg_placeOf_39 (hq.2.2.2.2.2.2.1) (rfl) (by omega) (by omega)) rfl ?_
  refine EvF.gop 41 (go_aload_n d_Stg_placeOf_40 rfl 0 rfl) rfl ?_
  refine EvF.gop 44 (go_get f_Stg_28 d_Stg_placeOf_41 (hq.1) rfl) rfl ?_
  refine EvF.gop 47 (go_get f_Stg_71 d_Stg_placeOf_44 (hq.2.2.2.2.2.1) rfl) rfl ?_
  refine EvF.gop 49 (go_iload d_Stg_placeOf_47 5 rfl) rfl ?_
  refine EvF.gop 50 (go_iald (j := g) d_Stg_placeOf_49 (hq.2.2.2.2.2.2.1) (rfl) (by omega) (by omega)) rfl ?_
  refine EvF.gop 51 (go_isub d_Stg_placeOf_50) rfl ?_
  refine EvF.gop 53 (go_istore [(6, .int ((W (g + k)) - (W g))), (0, .ref (a 0)), (1, .int (nI i)), (2, .int (nI k)), (3, .int (nI x0)), (4, .int (nI x1)), (5, .int (nI g))] d_Stg_placeOf_51 (by decide) rfl) rfl ?_
  refine EvF.go (go_pick [1, 2, 3, 4, 5, 6, 0] [(0, .ref (a 0)), (1, .int (nI i)), (2, .int (nI k)), (3, .int (nI x0)), (4, .int (nI x1)), (5, .int (nI g)), (6, .int ((W (g + k)) - (W g)))] rfl) ?_
  refine EvF.gop 54 (go_aload_n d_Stg_placeOf_53 rfl 0 rfl) rfl ?_
  refine EvF.gop 55 (go_iload_n d_Stg_placeOf_54 rfl 3 rfl) rfl ?_
  refine EvF.gop 57 (go_iload d_Stg_placeOf_55 4 rfl) rfl ?_
  refine EvF.gop 60 (go_callV [.int (nI x0), .int (nI x1)] [.int (dfI W K PP dw x1 e g)] c0_Stg_difference im_Stg_difference se_Stg_difference lk_Stg_88 d_Stg_placeOf_57 rfl rfl (hq.1) (e_Stg_difference G M a dw cl ln tt bn K E B W ST SH L DD PP X x0 x1 e g hq h0 h1 hE hB he hg) (by decide) rfl rfl (Nat.le_of_ble_eq_true rfl) rfl) rfl ?_
  refine EvF.gop 62 (go_istore [(7, .int (dfI W K PP dw x1 e g)), (0, .ref (a 0)), (1, .int (nI i)), (2, .int (nI k)), (3, .int (nI x0)), (4, .int (nI x1)), (5, .int (nI g)), (6, .int ((W (g + k)) - (W g)))] d_Stg_placeOf_60 (by decide) rfl) rfl ?_
  refine EvF.go (go_pick [1, 2, 3, 4, 5, 6, 7, 0] [(0, .ref (a 0)), (1, .int (nI i)), (2, .int (nI k)), (3, .int (nI x0)), (4, .int (nI x1)), (5, .int (nI g)), (6, .int ((W (g + k)) - (W g))), (7, .int (dfI W K PP dw x1 e g))] rfl) ?_
  refine EvF.gop 64 (go_iload d_Stg_placeOf_62 7 rfl) rfl ?_
  by_cases c1 : (dfI W K PP dw x1 e g) ≤ 0
  · have c1x : ¬ 0 < (dfI W K PP dw x1 e g) := Int32.not_lt.mpr c1
    refine EvF.gop 77 (go_if_le_t 77 d_Stg_placeOf_64 (by decide) (c1)) rfl ?_
    refine EvF.gop 78 (go_aload_n d_Stg_placeOf_77 rfl 0 rfl) rfl ?_
    refine EvF.gop 81 (go_get f_Stg_28 d_Stg_placeOf_78 (hq.1) rfl) rfl ?_
    refine EvF.gop 84 (go_get f_Stg_98 d_Stg_placeOf_81 (hq.2.2.2.2.2.1) rfl) rfl ?_
    refine EvF.gop 86 (go_astore [(8, .ref (a 11)), (0, .ref (a 0)), (1, .int (nI i)), (2, .int (nI k)), (3, .int (nI x0)), (4, .int (nI x1)), (5, .int (nI g)), (6, .int ((W (g + k)) - (W g))), (7, .int (dfI W K PP dw x1 e g))] d_Stg_placeOf_84 (by decide) rfl) rfl ?_
    refine EvF.go (go_pick [1, 2, 3, 4, 5, 6, 7, 8, 0] [(0, .ref (a 0)), (1, .int (nI i)), (2, .int (nI k)), (3, .int (nI x0)), (4, .int (nI x1)), (5, .int (nI g)), (6, .int ((W (g + k)) - (W g))), (7, .int (dfI W K PP dw x1 e g)), (8, .ref (a 11))] rfl) ?_
    refine EvF.gop 87 (go_aload_n d_Stg_placeOf_86 rfl 0 rfl) rfl ?_
    refine EvF.gop 89 (go_aload d_Stg_placeOf_87 8 rfl) rfl ?_
    refine EvF.gop 90 (go_iload_n d_Stg_placeOf_89 rfl 3 rfl) rfl ?_
    refine EvF.gop 92 (go_iload d_Stg_placeOf_90 4 rfl) rfl ?_
    refine EvF.gop 95 (go_callV [.ref (a 11), .int (nI x0), .int (nI x1)] [.int (SH e - SH g)] c0_Stg_over im_Stg_over se_Stg_over lk_Stg_67 d_Stg_placeOf_92 rfl rfl (hq.1) (e_Stg_over G M a dw cl ln tt bn K E B W ST SH L DD PP X x0 x1 e g (a 11) SH hq h0 h1 hE hB he hg hq.2.2.2.2.2.2.2.2.1) (by decide) rfl rfl (Nat.le_of_ble_eq_true rfl) rfl) rfl ?_
    refine EvF.gop 97 (go_istore [(9, .int (SH e - SH g)), (0, .ref (a 0)), (1, .int (nI i)), (2, .int (nI k)), (3, .int (nI x0)), (4, .int (nI x1)), (5, .int (nI g)), (6, .int ((W (g + k)) - (W g))), (7, .int (dfI W K PP dw x1 e g)), (8, .ref (a 11))] d_Stg_placeOf_95 (by decide) rfl) rfl ?_
    refine EvF.go (go_pick [1, 2, 3, 4, 5, 6, 7, 8, 9, 0] [(0, .ref (a 0)), (1, .int (nI i)), (2, .int (nI k)), (3, .int (nI x0)), (4, .int (nI x1)), (5, .int (nI g)), (6, .int ((W (g + k)) - (W g))), (7, .int (dfI W K PP dw x1 e g)), (8, .ref (a 11)), (9, .int (SH e - SH g))] rfl) ?_
    refine EvF.gop 99 (go_iload d_Stg_placeOf_97 9 rfl) rfl ?_
    by_cases c2 : (SH e - SH g) = 0
    · refine EvF.gop 113 (go_if_eq_t 113 d_Stg_placeOf_99 (by decide) (c2)) rfl ?_
      refine EvF.gop 115 (go_iload d_Stg_placeOf_113 6 rfl) rfl ?_
      exact EvF.ri d_Stg_placeOf_115 rfl (by simp [plI, *]) (rfl)
    · refine EvF.gop 102 (go_if_eq_f 113 d_Stg_placeOf_99 (by decide) (c2)) rfl ?_
      refine EvF.gop 103 (go_aload_n d_Stg_placeOf_102 rfl 0 rfl) rfl ?_
      refine EvF.gop 105 (go_iload d_Stg_placeOf_103 7 rfl) rfl ?_
      refine EvF.gop 107 (go_iload d_Stg_placeOf_105 4 rfl) rfl ?_
      refine EvF.gop 110 (go_callV [.int (dfI W K PP dw x1 e g), .int (nI x1)] [.int (bI (loI K (dfI W K PP dw x1 e g) x1))] c0_Stg_isLoose im_Stg_isLoose se_Stg_isLoose lk_Stg_91 d_Stg_placeOf_107 rfl rfl (hq.1) (e_Stg_isLoose G M a dw cl ln tt bn K E B W ST SH L DD PP X (dfI W K PP dw x1 e g) x1 hq h1) (by decide) rfl rfl (Nat.le_of_ble_eq_true rfl) rfl) rfl ?_
      by_cases c3 : (bI (loI K (dfI W K PP dw x1 e g) x1)) = 0
      · have c3x : (loI K (dfI W K PP dw x1 e g) x1) = false := bI_0.mp c3
        refine EvF.gop 116 (go_if_eq_t 116 d_Stg_placeOf_110 (by decide) (c3)) rfl ?_
        refine EvF.gop 118 (go_iload d_Stg_placeOf_116 6 rfl) rfl ?_
        refine EvF.gop 120 (go_iload d_Stg_placeOf_118 7 rfl) rfl ?_
        refine EvF.gop 122 (go_aload d_Stg_placeOf_120 8 rfl) rfl ?_
        refine EvF.gop 124 (go_iload d_Stg_placeOf_122 5 rfl) rfl ?_
        refine EvF.gop 125 (go_iload_n d_Stg_placeOf_124 rfl 2 rfl) rfl ?_
        refine EvF.gop 126 (go_iadd d_Stg_placeOf_125) rfl ?_
        refine EvF.go (go_v (y := nI (g + k)) (nI_add g k)) ?_
        refine EvF.gop 127 (go_iald (j := (g + k)) d_Stg_placeOf_126 (hq.2.2.2.2.2.2.2.2.1) (rfl) (by omega) (by omega)) rfl ?_
        refine EvF.gop 129 (go_aload d_Stg_placeOf_127 8 rfl) rfl ?_
        refine EvF.gop 131 (go_iload d_Stg_placeOf_129 5 rfl) rfl ?_
        refine EvF.gop 132 (go_iald (j := g) d_Stg_placeOf_131 (hq.2.2.2.2.2.2.2.2.1) (rfl) (by omega) (by omega)) rfl ?_
        refine EvF.gop 133 (go_isub d_Stg_placeOf_132) rfl ?_
        refine EvF.gop 134 (go_imul d_Stg_placeOf_133) rfl ?_
        refine EvF.gop 136 (go_iload d_Stg_placeOf_134 9 rfl) rfl ?_
        refine EvF.gop 139 (go_callS [.int ((dfI W K PP dw x1 e g) * ((SH (g + k)) - (SH g))), .int (SH e - SH g)] [.int (fdI ((dfI W K PP dw x1 e g) * (SH (g + k) - SH g)) (SH e - SH g)), .int ((W (g + k)) - (W g))] c0_Math_floorDiv sm_Math_floorDiv lk_Stg_127 d_Stg_placeOf_136 (e_Math_floorDiv G M ((dfI W K PP dw x1 e g) * (SH (g + k) - SH g)) (SH e - SH g) (by assumption)) (by decide) rfl rfl (Nat.le_of_ble_eq_true rfl) rfl) rfl ?_
        refine EvF.gop 140 (go_iadd d_Stg_placeOf_139) rfl ?_
        exact EvF.ri d_Stg_placeOf_140 rfl (by simp [plI, *]) (rfl)
      · have c3x : (loI K (dfI W K PP dw x1 e g) x1) = true := bI_n0.mp c3
        refine EvF.gop 113 (go_if_eq_f 116 d_Stg_placeOf_110 (by decide) (c3)) rfl ?_
        refine EvF.gop 115 (go_iload d_Stg_placeOf_113 6 rfl) rfl ?_
        exact EvF.ri d_Stg_placeOf_115 rfl (by simp [plI, *]) (rfl)
  · have c1x : 0 < (dfI W K PP dw x1 e g) := Int32.not_le.mp c1
    refine EvF.gop 67 (go_if_le_f 77 d_Stg_placeOf_64 (by decide) (c1)) rfl ?_
    refine EvF.gop 68 (go_aload_n d_Stg_placeOf_67 rfl 0 rfl) rfl ?_
    refine EvF.gop 71 (go_get f_Stg_28 d_Stg_placeOf_68 (hq.1) rfl) rfl ?_
    refine EvF.gop 74 (go_get f_Stg_95 d_Stg_placeOf_71 (hq.2.2.2.2.2.1) rfl) rfl ?_
    refine EvF.gop 84 (go_goto 84 d_Stg_placeOf_74 (by decide)) rfl ?_
    refine EvF.gop 86 (go_astore [(8, .ref (a 10)), (0, .ref (a 0)), (1, .int (nI i)), (2, .int (nI k)), (3, .int (nI x0)), (4, .int (nI x1)), (5, .int (nI g)), (6, .int ((W (g + k)) - (W g))), (7, .int (dfI W K PP dw x1 e g))] d_Stg_placeOf_84 (by decide) rfl) rfl ?_
    refine EvF.go (go_pick [1, 2, 3, 4, 5, 6, 7, 8, 0] [(0, .ref (a 0)), (1, .int (nI i)), (2, .int (nI k)), (3, .int (nI x0)), (4, .int (nI x1)), (5, .int (nI g)), (6, .int ((W (g + k)) - (W g))), (7, .int (dfI W K PP dw x1 e g)), (8, .ref (a 10))] rfl) ?_
    refine EvF.gop 87 (go_aload_n d_Stg_placeOf_86 rfl 0 rfl) rfl ?_
    refine EvF.gop 89 (go_aload d_Stg_placeOf_87 8 rfl) rfl ?_
    refine EvF.gop 90 (go_iload_n d_Stg_placeOf_89 rfl 3 rfl) rfl ?_
    refine EvF.gop 92 (go_iload d_Stg_placeOf_90 4 rfl) rfl ?_
    refine EvF.gop 95 (go_callV [.ref (a 10), .int (nI x0), .int (nI x1)] [.int (ST e - ST g)] c0_Stg_over im_Stg_over se_Stg_over lk_Stg_67 d_Stg_placeOf_92 rfl rfl (hq.1) (e_Stg_over G M a dw cl ln tt bn K E B W ST SH L DD PP X x0 x1 e g (a 10) ST hq h0 h1 hE hB he hg hq.2.2.2.2.2.2.2.1) (by decide) rfl rfl (Nat.le_of_ble_eq_true rfl) rfl) rfl ?_
    refine EvF.gop 97 (go_istore [(9, .int (ST e - ST g)), (0, .ref (a 0)), (1, .int (nI i)), (2, .int (nI k)), (3, .int (nI x0)), (4, .int (nI x1)), (5, .int (nI g)), (6, .int ((W (g + k)) - (W g))), (7, .int (dfI W K PP dw x1 e g)), (8, .ref (a 10))] d_Stg_placeOf_95 (by decide) rfl) rfl ?_
    refine EvF.go (go_pick [1, 2, 3, 4, 5, 6, 7, 8, 9, 0] [(0, .ref (a 0)), (1, .int (nI i)), (2, .int (nI k)), (3, .int (nI x0)), (4, .int (nI x1)), (5, .int (nI g)), (6, .int ((W (g + k)) - (W g))), (7, .int (dfI W K PP dw x1 e g)), (8, .ref (a 10)), (9, .int (ST e - ST g))] rfl) ?_
    refine EvF.gop 99 (go_iload d_Stg_placeOf_97 9 rfl) rfl ?_
    by_cases c4 : (ST e - ST g) = 0
    · refine EvF.gop 113 (go_if_eq_t 113 d_Stg_placeOf_99 (by decide) (c4)) rfl ?_
      refine EvF.gop 115 (go_iload d_Stg_placeOf_113 6 rfl) rfl ?_
      exact EvF.ri d_Stg_placeOf_115 rfl (by simp [plI, *]) (rfl)
    · refine EvF.gop 102 (go_if_eq_f 113 d_Stg_placeOf_99 (by decide) (c4)) rfl ?_
      refine EvF.gop 103 (go_aload_n d_Stg_placeOf_102 rfl 0 rfl) rfl ?_
      refine EvF.gop 105 (go_iload d_Stg_placeOf_103 7 rfl) rfl ?_
      refine EvF.gop 107 (go_iload d_Stg_placeOf_105 4 rfl) rfl ?_
      refine EvF.gop 110 (go_callV [.int (dfI W K PP dw x1 e g), .int (nI x1)] [.int (bI (loI K (dfI W K PP dw x1 e g) x1))] c0_Stg_isLoose im_Stg_isLoose se_Stg_isLoose lk_Stg_91 d_Stg_placeOf_107 rfl rfl (hq.1) (e_Stg_isLoose G M a dw cl ln tt bn K E B W ST SH L DD PP X (dfI W K PP dw x1 e g) x1 hq h1) (by decide) rfl rfl (Nat.le_of_ble_eq_true rfl) rfl) rfl ?_
      by_cases c5 : (bI (loI K (dfI W K PP dw x1 e g) x1)) = 0
      · have c5x : (loI K (dfI W K PP dw x1 e g) x1) = false := bI_0.mp c5
        refine EvF.gop 116 (go_if_eq_t 116 d_Stg_placeOf_110 (by decide) (c5)) rfl ?_
        refine EvF.gop 118 (go_iload d_Stg_placeOf_116 6 rfl) rfl ?_
        refine EvF.gop 120 (go_iload d_Stg_placeOf_118 7 rfl) rfl ?_
        refine EvF.gop 122 (go_aload d_Stg_placeOf_120 8 rfl) rfl ?_
        refine EvF.gop 124 (go_iload d_Stg_placeOf_122 5 rfl) rfl ?_
        refine EvF.gop 125 (go_iload_n d_Stg_placeOf_124 rfl 2 rfl) rfl ?_
        refine EvF.gop 126 (go_iadd d_Stg_placeOf_125) rfl ?_
        refine EvF.go (go_v (y := nI (g + k)) (nI_add g k)) ?_
        refine EvF.gop 127 (go_iald (j := (g + k)) d_Stg_placeOf_126 (hq.2.2.2.2.2.2.2.1) (rfl) (by omega) (by omega)) rfl ?_
        refine EvF.gop 129 (go_aload d_Stg_placeOf_127 8 rfl) rfl ?_
        refine EvF.gop 131 (go_iload d_Stg_placeOf_129 5 rfl) rfl ?_
        refine EvF.gop 132 (go_iald (j := g) d_Stg_placeOf_131 (hq.2.2.2.2.2.2.2.1) (rfl) (by omega) (by omega)) rfl ?_
        refine EvF.gop 133 (go_isub d_Stg_placeOf_132) rfl ?_
        refine EvF.gop 134 (go_imul d_Stg_placeOf_133) rfl ?_
        refine EvF.gop 136 (go_iload d_Stg_placeOf_134 9 rfl) rfl ?_
        refine EvF.gop 139 (go_callS [.int ((dfI W K PP dw x1 e g) * ((ST (g + k)) - (ST g))), .int (ST e - ST g)] [.int (fdI ((dfI W K PP dw x1 e g) * (ST (g + k) - ST g)) (ST e - ST g)), .int ((W (g + k)) - (W g))] c0_Math_floorDiv sm_Math_floorDiv lk_Stg_127 d_Stg_placeOf_136 (e_Math_floorDiv G M ((dfI W K PP dw x1 e g) * (ST (g + k) - ST g)) (ST e - ST g) (by assumption)) (by decide) rfl rfl (Nat.le_of_ble_eq_true rfl) rfl) rfl ?_
        refine EvF.gop 140 (go_iadd d_Stg_placeOf_139) rfl ?_
        exact EvF.ri d_Stg_placeOf_140 rfl (by simp [plI, *]) (rfl)
      · have c5x : (loI K (dfI W K PP dw x1 e g) x1) = true := bI_n0.mp c5
        refine EvF.gop 113 (go_if_eq_f 116 d_Stg_placeOf_110 (by decide) (c5)) rfl ?_
        refine EvF.gop 115 (go_iload d_Stg_placeOf_113 6 rfl) rfl ?_
        exact EvF.ri d_Stg_placeOf_115 rfl (by simp [plI, *]) (rfl)
/-- sums before each place -/
def smI (f : Nat → Int32) (F : Nat → Int32) : Nat → Nat → Int32
  | 0 => F
  | n + 1 => upd (smI f F n) (n + 1) (smI f F n n + f n)
def wdI (wo c s : Nat → Int32) (k : Nat) : Int32 := if cWid (c k) = true then wo (wIx (c k)).toNatClampNeg else s k
def stI (s : Nat → Int32) (k : Nat) : Int32 := (s k + 1) / 2
def shI (s : Nat → Int32) (k : Nat) : Int32 := s k / 3
def leI (c : Nat → Int32) (k : Nat) : Int32 := bI (cLet (c k))
def daI (c : Nat → Int32) (k : Nat) : Int32 := bI (decide (c k = 45))
theorem wIx_lt (c : Int32) (h : cWid c = true) : ∃ n, n < 27 ∧ wIx c = nI n := by
  unfold wIx
  by_cases hl : cLet c = true
  · rw [if_pos hl]
    simp [cLet] at hl
    have h1 : (97 : Int32).toInt ≤ c.toInt := Int32.le_iff_toInt_le.mp hl.1
    have h2 : c.toInt ≤ (122 : Int32).toInt := Int32.le_iff_toInt_le.mp hl.2
    have e1 : (97 : Int32).toInt = 97 := by decide
    have e2 : (122 : Int32).toInt = 122 := by decide
    rw [e1] at h1
    rw [e2] at h2
    have h0 : ¬ c < 0 := fun q => by
      have := Int32.lt_iff_toInt_lt.mp q
      rw [show (0 : Int32).toInt = 0 from by decide] at this
      omega
    obtain ⟨j, hj, rfl⟩ := nI_of h0
    rw [nI_toInt hj] at h1 h2
    exact ⟨j - 97, by omega, pk_sub (b := 97) (by omega)⟩
  · rw [if_neg hl]
    exact ⟨26, by decide, rfl⟩
theorem ndN {l : List Nat} (h : va_nd l = true) (i j : Nat) {a b : Nat} (hi : l[i]? = some a) (hj : l[j]? = some b) (hne : i ≠ j) : a ≠ b := fun e => hne (va_nd_inj l h i j a hi (e ▸ hj))
theorem g_Sum_addUp (G : gG) (M : gM) (sm sw ss sh sl sd t tc ts tn w0 : Nat) (W ST SH L DD c s wo : Nat → Int32) (h1 : gRd M sm = some (.inr (7, [.ref sw, .ref ss, .ref sh, .ref sl, .ref sd]))) (h2 : gRd M sw = some (aI G 121 W)) (h3 : gRd M ss = some (aI G 121 ST)) (h4 : gRd M sh = some (aI G 121 SH)) (h5 : gRd M sl = some (aI G 121 L)) (h6 : gRd M sd = some (aI G 121 DD)) (t1 : gRd M t = some (.inr (3, [.ref tc, .ref ts, .int (nI tn)]))) (t2 : gRd M tc = some (aI G 120 c)) (t3 : gRd M ts = some (aI G 120 s)) (w1 : gRd M w0 = some (aI G 27 wo)) (htn : tn ≤ 120) (hN : va_nd [sw, ss, sh, sl, sd, tc, ts, w0] = true) : ∀ r k : Nat, k + r = tn → Go G m_Sum_addUp 2 (2, [(0, .ref sm), (1, .ref t), (2, .ref w0), (3, .int (nI k))], [], (gWr (gWr (gWr (gWr (gWr M sw (aI G 121 (smI (wdI wo c s) W k))) ss (aI G 121 (smI (stI s) ST k))) sh (aI G 121 (smI (shI s) SH k))) sl (aI G 121 (smI (leI c) L k))) sd (aI G 121 (smI (daI c) DD k)))) (162, [(0, .ref sm), (1, .ref t), (2, .ref w0), (3, .int (nI tn))], [], (gWr (gWr (gWr (gWr (gWr M sw (aI G 121 (smI (wdI wo c s) W tn))) ss (aI G 121 (smI (stI s) ST tn))) sh (aI G 121 (smI (shI s) SH tn))) sl (aI G 121 (smI (leI c) L tn))) sd (aI G 121 (smI (daI c) DD tn)))) := by
  intro r
  induction r with
  | zero =>
    intro k hk
    rw [show k = tn from by omega]
    refine Go.trp 3 (go_iload_n d_Sum_addUp_2 rfl 3 rfl) rfl ?_
    refine Go.trp 4 (go_aload_n d_Sum_addUp_3 rfl 1 rfl) rfl ?_
    refine Go.trp 7 (go_get f_Sum_27 d_Sum_addUp_4 ((gRd_n _ _ (gNe t1 h6)).trans ((gRd_n _ _ (gNe t1 h5)).trans ((gRd_n _ _ (gNe t1 h4)).trans ((gRd_n _ _ (gNe t1 h3)).trans ((gRd_n _ _ (gNe t1 h2)).trans (t1)))))) rfl) rfl ?_
    refine Go.trp 162 (go_icmp_ge_t 162 d_Sum_addUp_7 (by decide) (nI_le (Nat.le_refl tn) (by omega))) rfl ?_
    exact Go.rf
  | succ r ih =>
    intro k hk
    refine Go.trp 3 (go_iload_n d_Sum_addUp_2 rfl 3 rfl) rfl ?_
    refine Go.trp 4 (go_aload_n d_Sum_addUp_3 rfl 1 rfl) rfl ?_
    refine Go.trp 7 (go_get f_Sum_27 d_Sum_addUp_4 ((gRd_n _ _ (gNe t1 h6)).trans ((gRd_n _ _ (gNe t1 h5)).trans ((gRd_n _ _ (gNe t1 h4)).trans ((gRd_n _ _ (gNe t1 h3)).trans ((gRd_n _ _ (gNe t1 h2)).trans (t1)))))) rfl) rfl ?_
    refine Go.trp 10 (go_icmp_ge_f 162 d_Sum_addUp_7 (by decide) (nI_ge (by omega) (by omega))) rfl ?_
    refine Go.trp 11 (go_aload_n d_Sum_addUp_10 rfl 1 rfl) rfl ?_
    refine Go.trp 14 (go_get f_Sum_33 d_Sum_addUp_11 ((gRd_n _ _ (gNe t1 h6)).trans ((gRd_n _ _ (gNe t1 h5)).trans ((gRd_n _ _ (gNe t1 h4)).trans ((gRd_n _ _ (gNe t1 h3)).trans ((gRd_n _ _ (gNe t1 h2)).trans (t1)))))) rfl) rfl ?_
    refine Go.trp 15 (go_iload_n d_Sum_addUp_14 rfl 3 rfl) rfl ?_
    refine Go.trp 16 (go_iald (j := k) d_Sum_addUp_15 ((gRd_n _ _ (Ne.symm (ndN hN 4 5 rfl rfl (by decide)))).trans ((gRd_n _ _ (Ne.symm (ndN hN 3 5 rfl rfl (by decide)))).trans ((gRd_n _ _ (Ne.symm (ndN hN 2 5 rfl rfl (by decide)))).trans ((gRd_n _ _ (Ne.symm (ndN hN 1 5 rfl rfl (by decide)))).trans ((gRd_n _ _ (Ne.symm (ndN hN 0 5 rfl rfl (by decide)))).trans (t2)))))) (rfl) (by omega) (by omega)) rfl ?_
    refine Go.trp 18 (go_istore [(4, .int (c k)), (0, .ref sm), (1, .ref t), (2, .ref w0), (3, .int (nI k))] d_Sum_addUp_16 (by decide) rfl) rfl ?_
    refine (go_pick [1, 2, 3, 4, 0] [(0, .ref sm), (1, .ref t), (2, .ref w0), (3, .int (nI k)), (4, .int (c k))] rfl).tr ?_
    refine Go.trp 19 (go_aload_n d_Sum_addUp_18 rfl 1 rfl) rfl ?_
    refine Go.trp 22 (go_get f_Sum_36 d_Sum_addUp_19 ((gRd_n _ _ (gNe t1 h6)).trans ((gRd_n _ _ (gNe t1 h5)).trans ((gRd_n _ _ (gNe t1 h4)).trans ((gRd_n _ _ (gNe t1 h3)).trans ((gRd_n _ _ (gNe t1 h2)).trans (t1)))))) rfl) rfl ?_
    refine Go.trp 23 (go_iload_n d_Sum_addUp_22 rfl 3 rfl) rfl ?_
    refine Go.trp 24 (go_iald (j := k) d_Sum_addUp_23 ((gRd_n _ _ (Ne.symm (ndN hN 4 6 rfl rfl (by decide)))).trans ((gRd_n _ _ (Ne.symm (ndN hN 3 6 rfl rfl (by decide)))).trans ((gRd_n _ _ (Ne.symm (ndN hN 2 6 rfl rfl (by decide)))).trans ((gRd_n _ _ (Ne.symm (ndN hN 1 6 rfl rfl (by decide)))).trans ((gRd_n _ _ (Ne.symm (ndN hN 0 6 rfl rfl (by decide)))).trans (t3)))))) (rfl) (by omega) (by omega)) rfl ?_
    refine Go.trp 26 (go_istore [(5, .int (s k)), (0, .ref sm), (1, .ref t), (2, .ref w0), (3, .int (nI k)), (4, .int (c k))] d_Sum_addUp_24 (by decide) rfl) rfl ?_
    refine (go_pick [1, 2, 3, 4, 5, 0] [(0, .ref sm), (1, .ref t), (2, .ref w0), (3, .int (nI k)), (4, .int (c k)), (5, .int (s k))] rfl).tr ?_
    refine Go.trp 27 (go_aload_n d_Sum_addUp_26 rfl 0 rfl) rfl ?_
    refine Go.trp 30 (go_get f_Sum_9 d_Sum_addUp_27 ((gRd_n _ _ (gNe h1 h6)).trans ((gRd_n _ _ (gNe h1 h5)).trans ((gRd_n _ _ (gNe h1 h4)).trans ((gRd_n _ _ (gNe h1 h3)).trans ((gRd_n _ _ (gNe h1 h2)).trans (h1)))))) rfl) rfl ?_
    refine Go.trp 31 (go_iload_n d_Sum_addUp_30 rfl 3 rfl) rfl ?_
    refine Go.trp 32 (go_iconst (v := 1) d_Sum_addUp_31 (by decide)) rfl ?_
    refine Go.trp 33 (go_iadd d_Sum_addUp_32) rfl ?_
    refine (go_v (y := nI (k + 1)) (nI_1 k)).tr ?_
    refine Go.trp 34 (go_aload_n d_Sum_addUp_33 rfl 0 rfl) rfl ?_
    refine Go.trp 37 (go_get f_Sum_9 d_Sum_addUp_34 ((gRd_n _ _ (gNe h1 h6)).trans ((gRd_n _ _ (gNe h1 h5)).trans ((gRd_n _ _ (gNe h1 h4)).trans ((gRd_n _ _ (gNe h1 h3)).trans ((gRd_n _ _ (gNe h1 h2)).trans (h1)))))) rfl) rfl ?_
    refine Go.trp 38 (go_iload_n d_Sum_addUp_37 rfl 3 rfl) rfl ?_
    refine Go.trp 39 (go_iald (j := k) d_Sum_addUp_38 ((gRd_n _ _ (ndN hN 0 4 rfl rfl (by decide))).trans ((gRd_n _ _ (ndN hN 0 3 rfl rfl (by decide))).trans ((gRd_n _ _ (ndN hN 0 2 rfl rfl (by decide))).trans ((gRd_n _ _ (ndN hN 0 1 rfl rfl (by decide))).trans (gRd_s _ _ _))))) (rfl) (by omega) (by omega)) rfl ?_
    refine Go.trp 41 (go_iload d_Sum_addUp_39 4 rfl) rfl ?_
    refine Go.trp 44 (go_callS [.int (c k)] [.int (bI (cWid (c k))), .int ((smI (wdI wo c s) W k) k), .int (nI (k + 1)), .ref sw] c0_PS_hasWidth sm_PS_hasWidth lk_Sum_39 d_Sum_addUp_41 (e_PS_hasWidth G _ (c k)) (by decide) rfl rfl (Nat.le_of_ble_eq_true rfl) rfl) rfl ?_
    by_cases c1 : (bI (cWid (c k))) = 0
    · have c1x : (cWid (c k)) = false := bI_0.mp c1
      refine Go.trp 57 (go_if_eq_t 57 d_Sum_addUp_44 (by decide) (c1)) rfl ?_
      refine Go.trp 59 (go_iload d_Sum_addUp_57 5 rfl) rfl ?_
      refine Go.trp 60 (go_iadd d_Sum_addUp_59) rfl ?_
      refine Go.trp 61 (go_iast (j := (k + 1)) d_Sum_addUp_60 ((gRd_n _ _ (ndN hN 0 4 rfl rfl (by decide))).trans ((gRd_n _ _ (ndN hN 0 3 rfl rfl (by decide))).trans ((gRd_n _ _ (ndN hN 0 2 rfl rfl (by decide))).trans ((gRd_n _ _ (ndN hN 0 1 rfl rfl (by decide))).trans (gRd_s _ _ _))))) (rfl) (by omega) (by omega)) rfl ?_
      refine (go_m (M' := (gWr (gWr (gWr (gWr (gWr M sw (aI G 121 (upd (smI (wdI wo c s) W k) (k + 1) (((smI (wdI wo c s) W k) k) + (s k))))) ss (aI G 121 (smI (stI s) ST k))) sh (aI G 121 (smI (shI s) SH k))) sl (aI G 121 (smI (leI c) L k))) sd (aI G 121 (smI (daI c) DD k)))) ((gWr_cm (gWr (gWr (gWr (gWr M sw (aI G 121 (smI (wdI wo c s) W k))) ss (aI G 121 (smI (stI s) ST k))) sh (aI G 121 (smI (shI s) SH k))) sl (aI G 121 (smI (leI c) L k))) (aI G 121 (smI (daI c) DD k)) (aI G 121 (upd (smI (wdI wo c s) W k) (k + 1) (((smI (wdI wo c s) W k) k) + (s k)))) (Ne.symm (ndN hN 0 4 rfl rfl (by decide)))).trans (congrArg (fun m => gWr m sd (aI G 121 (smI (daI c) DD k))) ((gWr_cm (gWr (gWr (gWr M sw (aI G 121 (smI (wdI wo c s) W k))) ss (aI G 121 (smI (stI s) ST k))) sh (aI G 121 (smI (shI s) SH k))) (aI G 121 (smI (leI c) L k)) (aI G 121 (upd (smI (wdI wo c s) W k) (k + 1) (((smI (wdI wo c s) W k) k) + (s k)))) (Ne.symm (ndN hN 0 3 rfl rfl (by decide)))).trans (congrArg (fun m => gWr m sl (aI G 121 (smI (leI c) L k))) ((gWr_cm (gWr (gWr M sw (aI G 121 (smI (wdI wo c s) W k))) ss (aI G 121 (smI (stI s) ST k))) (aI G 121 (smI (shI s) SH k)) (aI G 121 (upd (smI (wdI wo c s) W k) (k + 1) (((smI (wdI wo c s) W k) k) + (s k)))) (Ne.symm (ndN hN 0 2 rfl rfl (by decide)))).trans (congrArg (fun m => gWr m sh (aI G 121 (smI (shI s) SH k))) ((gWr_cm (gWr M sw (aI G 121 (smI (wdI wo c s) W k))) (aI G 121 (smI (stI s) ST k)) (aI G 121 (upd (smI (wdI wo c s) W k) (k + 1) (((smI (wdI wo c s) W k) k) + (s k)))) (Ne.symm (ndN hN 0 1 rfl rfl (by decide)))).trans (congrArg (fun m => gWr m ss (aI G 121 (smI (stI s) ST k))) (gWr_wr M sw (aI G 121 (smI (wdI wo c s) W k)) (aI G 121 (upd (smI (wdI wo c s) W k) (k + 1) (((smI (wdI wo c s) W k) k) + (s k)))))))))))))).tr ?_
      refine Go.trp 62 (go_aload_n d_Sum_addUp_61 rfl 0 rfl) rfl ?_
      refine Go.trp 65 (go_get f_Sum_15 d_Sum_addUp_62 ((gRd_n _ _ (gNe h1 h6)).trans ((gRd_n _ _ (gNe h1 h5)).trans ((gRd_n _ _ (gNe h1 h4)).trans ((gRd_n _ _ (gNe h1 h3)).trans ((gRd_n _ _ (gNe h1 h2)).trans (h1)))))) rfl) rfl ?_
      refine Go.trp 66 (go_iload_n d_Sum_addUp_65 rfl 3 rfl) rfl ?_
      refine Go.trp 67 (go_iconst (v := 1) d_Sum_addUp_66 (by decide)) rfl ?_
      refine Go.trp 68 (go_iadd d_Sum_addUp_67) rfl ?_
      refine (go_v (y := nI (k + 1)) (nI_1 k)).tr ?_
      refine Go.trp 69 (go_aload_n d_Sum_addUp_68 rfl 0 rfl) rfl ?_
      refine Go.trp 72 (go_get f_Sum_15 d_Sum_addUp_69 ((gRd_n _ _ (gNe h1 h6)).trans ((gRd_n _ _ (gNe h1 h5)).trans ((gRd_n _ _ (gNe h1 h4)).trans ((gRd_n _ _ (gNe h1 h3)).trans ((gRd_n _ _ (gNe h1 h2)).trans (h1)))))) rfl) rfl ?_
      refine Go.trp 73 (go_iload_n d_Sum_addUp_72 rfl 3 rfl) rfl ?_
      refine Go.trp 74 (go_iald (j := k) d_Sum_addUp_73 ((gRd_n _ _ (ndN hN 1 4 rfl rfl (by decide))).trans ((gRd_n _ _ (ndN hN 1 3 rfl rfl (by decide))).trans ((gRd_n _ _ (ndN hN 1 2 rfl rfl (by decide))).trans (gRd_s _ _ _)))) (rfl) (by omega) (by omega)) rfl ?_
      refine Go.trp 76 (go_iload d_Sum_addUp_74 5 rfl) rfl ?_
      refine Go.trp 77 (go_iconst (v := 1) d_Sum_addUp_76 (by decide)) rfl ?_
      refine Go.trp 78 (go_iadd d_Sum_addUp_77) rfl ?_
      refine Go.trp 79 (go_iconst (v := 2) d_Sum_addUp_78 (by decide)) rfl ?_
      refine Go.trp 80 (go_idiv d_Sum_addUp_79 (by decide)) rfl ?_
      refine Go.trp 81 (go_iadd d_Sum_addUp_80) rfl ?_
      refine Go.trp 82 (go_iast (j := (k + 1)) d_Sum_addUp_81 ((gRd_n _ _ (ndN hN 1 4 rfl rfl (by decide))).trans ((gRd_n _ _ (ndN hN 1 3 rfl rfl (by decide))).trans ((gRd_n _ _ (ndN hN 1 2 rfl rfl (by decide))).trans (gRd_s _ _ _)))) (rfl) (by omega) (by omega)) rfl ?_
      refine (go_m (M' := (gWr (gWr (gWr (gWr (gWr M sw (aI G 121 (upd (smI (wdI wo c s) W k) (k + 1) (((smI (wdI wo c s) W k) k) + (s k))))) ss (aI G 121 (upd (smI (stI s) ST k) (k + 1) (((smI (stI s) ST k) k) + (((s k) + 1) / 2))))) sh (aI G 121 (smI (shI s) SH k))) sl (aI G 121 (smI (leI c) L k))) sd (aI G 121 (smI (daI c) DD k)))) ((gWr_cm (gWr (gWr (gWr (gWr M sw (aI G 121 (upd (smI (wdI wo c s) W k) (k + 1) (((smI (wdI wo c s) W k) k) + (s k))))) ss (aI G 121 (smI (stI s) ST k))) sh (aI G 121 (smI (shI s) SH k))) sl (aI G 121 (smI (leI c) L k))) (aI G 121 (smI (daI c) DD k)) (aI G 121 (upd (smI (stI s) ST k) (k + 1) (((smI (stI s) ST k) k) + (((s k) + 1) / 2)))) (Ne.symm (ndN hN 1 4 rfl rfl (by decide)))).trans (congrArg (fun m => gWr m sd (aI G 121 (smI (daI c) DD k))) ((gWr_cm (gWr (gWr (gWr M sw (aI G 121 (upd (smI (wdI wo c s) W k) (k + 1) (((smI (wdI wo c s) W k) k) + (s k))))) ss (aI G 121 (smI (stI s) ST k))) sh (aI G 121 (smI (shI s) SH k))) (aI G 121 (smI (leI c) L k)) (aI G 121 (upd (smI (stI s) ST k) (k + 1) (((smI (stI s) ST k) k) + (((s k) + 1) / 2)))) (Ne.symm (ndN hN 1 3 rfl rfl (by decide)))).trans (congrArg (fun m => gWr m sl (aI G 121 (smI (leI c) L k))) ((gWr_cm (gWr (gWr M sw (aI G 121 (upd (smI (wdI wo c s) W k) (k + 1) (((smI (wdI wo c s) W k) k) + (s k))))) ss (aI G 121 (smI (stI s) ST k))) (aI G 121 (smI (shI s) SH k)) (aI G 121 (upd (smI (stI s) ST k) (k + 1) (((smI (stI s) ST k) k) + (((s k) + 1) / 2)))) (Ne.symm (ndN hN 1 2 rfl rfl (by decide)))).trans (congrArg (fun m => gWr m sh (aI G 121 (smI (shI s) SH k))) (gWr_wr (gWr M sw (aI G 121 (upd (smI (wdI wo c s) W k) (k + 1) (((smI (wdI wo c s) W k) k) + (s k))))) ss (aI G 121 (smI (stI s) ST k)) (aI G 121 (upd (smI (stI s) ST k) (k + 1) (((smI (stI s) ST k) k) + (((s k) + 1) / 2)))))))))))).tr ?_
      refine Go.trp 83 (go_aload_n d_Sum_addUp_82 rfl 0 rfl) rfl ?_
      refine Go.trp 86 (go_get f_Sum_18 d_Sum_addUp_83 ((gRd_n _ _ (gNe h1 h6)).trans ((gRd_n _ _ (gNe h1 h5)).trans ((gRd_n _ _ (gNe h1 h4)).trans ((gRd_n _ _ (gNe h1 h3)).trans ((gRd_n _ _ (gNe h1 h2)).trans (h1)))))) rfl) rfl ?_
      refine Go.trp 87 (go_iload_n d_Sum_addUp_86 rfl 3 rfl) rfl ?_
      refine Go.trp 88 (go_iconst (v := 1) d_Sum_addUp_87 (by decide)) rfl ?_
      refine Go.trp 89 (go_iadd d_Sum_addUp_88) rfl ?_
      refine (go_v (y := nI (k + 1)) (nI_1 k)).tr ?_
      refine Go.trp 90 (go_aload_n d_Sum_addUp_89 rfl 0 rfl) rfl ?_
      refine Go.trp 93 (go_get f_Sum_18 d_Sum_addUp_90 ((gRd_n _ _ (gNe h1 h6)).trans ((gRd_n _ _ (gNe h1 h5)).trans ((gRd_n _ _ (gNe h1 h4)).trans ((gRd_n _ _ (gNe h1 h3)).trans ((gRd_n _ _ (gNe h1 h2)).trans (h1)))))) rfl) rfl ?_
      refine Go.trp 94 (go_iload_n d_Sum_addUp_93 rfl 3 rfl) rfl ?_
      refine Go.trp 95 (go_iald (j := k) d_Sum_addUp_94 ((gRd_n _ _ (ndN hN 2 4 rfl rfl (by decide))).trans ((gRd_n _ _ (ndN hN 2 3 rfl rfl (by decide))).trans (gRd_s _ _ _))) (rfl) (by omega) (by omega)) rfl ?_
      refine Go.trp 97 (go_iload d_Sum_addUp_95 5 rfl) rfl ?_
      refine Go.trp 98 (go_iconst (v := 3) d_Sum_addUp_97 (by decide)) rfl ?_
      refine Go.trp 99 (go_idiv d_Sum_addUp_98 (by decide)) rfl ?_
      refine Go.trp 100 (go_iadd d_Sum_addUp_99) rfl ?_
      refine Go.trp 101 (go_iast (j := (k + 1)) d_Sum_addUp_100 ((gRd_n _ _ (ndN hN 2 4 rfl rfl (by decide))).trans ((gRd_n _ _ (ndN hN 2 3 rfl rfl (by decide))).trans (gRd_s _ _ _))) (rfl) (by omega) (by omega)) rfl ?_
      refine (go_m (M' := (gWr (gWr (gWr (gWr (gWr M sw (aI G 121 (upd (smI (wdI wo c s) W k) (k + 1) (((smI (wdI wo c s) W k) k) + (s k))))) ss (aI G 121 (upd (smI (stI s) ST k) (k + 1) (((smI (stI s) ST k) k) + (((s k) + 1) / 2))))) sh (aI G 121 (upd (smI (shI s) SH k) (k + 1) (((smI (shI s) SH k) k) + ((s k) / 3))))) sl (aI G 121 (smI (leI c) L k))) sd (aI G 121 (smI (daI c) DD k)))) ((gWr_cm (gWr (gWr (gWr (gWr M sw (aI G 121 (upd (smI (wdI wo c s) W k) (k + 1) (((smI (wdI wo c s) W k) k) + (s k))))) ss (aI G 121 (upd (smI (stI s) ST k) (k + 1) (((smI (stI s) ST k) k) + (((s k) + 1) / 2))))) sh (aI G 121 (smI (shI s) SH k))) sl (aI G 121 (smI (leI c) L k))) (aI G 121 (smI (daI c) DD k)) (aI G 121 (upd (smI (shI s) SH k) (k + 1) (((smI (shI s) SH k) k) + ((s k) / 3)))) (Ne.symm (ndN hN 2 4 rfl rfl (by decide)))).trans (congrArg (fun m => gWr m sd (aI G 121 (smI (daI c) DD k))) ((gWr_cm (gWr (gWr (gWr M sw (aI G 121 (upd (smI (wdI wo c s) W k) (k + 1) (((smI (wdI wo c s) W k) k) + (s k))))) ss (aI G 121 (upd (smI (stI s) ST k) (k + 1) (((smI (stI s) ST k) k) + (((s k) + 1) / 2))))) sh (aI G 121 (smI (shI s) SH k))) (aI G 121 (smI (leI c) L k)) (aI G 121 (upd (smI (shI s) SH k) (k + 1) (((smI (shI s) SH k) k) + ((s k) / 3)))) (Ne.symm (ndN hN 2 3 rfl rfl (by decide)))).trans (congrArg (fun m => gWr m sl (aI G 121 (smI (leI c) L k))) (gWr_wr (gWr (gWr M sw (aI G 121 (upd (smI (wdI wo c s) W k) (k + 1) (((smI (wdI wo c s) W k) k) + (s k))))) ss (aI G 121 (upd (smI (stI s) ST k) (k + 1) (((smI (stI s) ST k) k) + (((s k) + 1) / 2))))) sh (aI G 121 (smI (shI s) SH k)) (aI G 121 (upd (smI (shI s) SH k) (k + 1) (((smI (shI s) SH k) k) + ((s k) / 3)))))))))).tr ?_
      refine Go.trp 102 (go_aload_n d_Sum_addUp_101 rfl 0 rfl) rfl ?_
      refine Go.trp 105 (go_get f_Sum_21 d_Sum_addUp_102 ((gRd_n _ _ (gNe h1 h6)).trans ((gRd_n _ _ (gNe h1 h5)).trans ((gRd_n _ _ (gNe h1 h4)).trans ((gRd_n _ _ (gNe h1 h3)).trans ((gRd_n _ _ (gNe h1 h2)).trans (h1)))))) rfl) rfl ?_
      refine Go.trp 106 (go_iload_n d_Sum_addUp_105 rfl 3 rfl) rfl ?_
      refine Go.trp 107 (go_iconst (v := 1) d_Sum_addUp_106 (by decide)) rfl ?_
      refine Go.trp 108 (go_iadd d_Sum_addUp_107) rfl ?_
      refine (go_v (y := nI (k + 1)) (nI_1 k)).tr ?_
      refine Go.trp 109 (go_aload_n d_Sum_addUp_108 rfl 0 rfl) rfl ?_
      refine Go.trp 112 (go_get f_Sum_21 d_Sum_addUp_109 ((gRd_n _ _ (gNe h1 h6)).trans ((gRd_n _ _ (gNe h1 h5)).trans ((gRd_n _ _ (gNe h1 h4)).trans ((gRd_n _ _ (gNe h1 h3)).trans ((gRd_n _ _ (gNe h1 h2)).trans (h1)))))) rfl) rfl ?_
      refine Go.trp 113 (go_iload_n d_Sum_addUp_112 rfl 3 rfl) rfl ?_
      refine Go.trp 114 (go_iald (j := k) d_Sum_addUp_113 ((gRd_n _ _ (ndN hN 3 4 rfl rfl (by decide))).trans (gRd_s _ _ _)) (rfl) (by omega) (by omega)) rfl ?_
      refine Go.trp 116 (go_iload d_Sum_addUp_114 4 rfl) rfl ?_
      refine Go.trp 119 (go_callS [.int (c k)] [.int (bI (cLet (c k))), .int ((smI (leI c) L k) k), .int (nI (k + 1)), .ref sl] c0_PS_isLetter sm_PS_isLetter lk_Sum_47 d_Sum_addUp_116 (e_PS_isLetter G _ (c k)) (by decide) rfl rfl (Nat.le_of_ble_eq_true rfl) rfl) rfl ?_
      by_cases c2 : (bI (cLet (c k))) = 0
      · have c2x : (cLet (c k)) = false := bI_0.mp c2
        refine Go.trp 126 (go_if_eq_t 126 d_Sum_addUp_119 (by decide) (c2)) rfl ?_
        refine Go.trp 127 (go_iconst (v := 0) d_Sum_addUp_126 (by decide)) rfl ?_
        refine Go.trp 128 (go_iadd d_Sum_addUp_127) rfl ?_
        refine Go.trp 129 (go_iast (j := (k + 1)) d_Sum_addUp_128 ((gRd_n _ _ (ndN hN 3 4 rfl rfl (by decide))).trans (gRd_s _ _ _)) (rfl) (by omega) (by omega)) rfl ?_
        refine (go_m (M' := (gWr (gWr (gWr (gWr (gWr M sw (aI G 121 (upd (smI (wdI wo c s) W k) (k + 1) (((smI (wdI wo c s) W k) k) + (s k))))) ss (aI G 121 (upd (smI (stI s) ST k) (k + 1) (((smI (stI s) ST k) k) + (((s k) + 1) / 2))))) sh (aI G 121 (upd (smI (shI s) SH k) (k + 1) (((smI (shI s) SH k) k) + ((s k) / 3))))) sl (aI G 121 (upd (smI (leI c) L k) (k + 1) (((smI (leI c) L k) k) + 0)))) sd (aI G 121 (smI (daI c) DD k)))) ((gWr_cm (gWr (gWr (gWr (gWr M sw (aI G 121 (upd (smI (wdI wo c s) W k) (k + 1) (((smI (wdI wo c s) W k) k) + (s k))))) ss (aI G 121 (upd (smI (stI s) ST k) (k + 1) (((smI (stI s) ST k) k) + (((s k) + 1) / 2))))) sh (aI G 121 (upd (smI (shI s) SH k) (k + 1) (((smI (shI s) SH k) k) + ((s k) / 3))))) sl (aI G 121 (smI (leI c) L k))) (aI G 121 (smI (daI c) DD k)) (aI G 121 (upd (smI (leI c) L k) (k + 1) (((smI (leI c) L k) k) + 0))) (Ne.symm (ndN hN 3 4 rfl rfl (by decide)))).trans (congrArg (fun m => gWr m sd (aI G 121 (smI (daI c) DD k))) (gWr_wr (gWr (gWr (gWr M sw (aI G 121 (upd (smI (wdI wo c s) W k) (k + 1) (((smI (wdI wo c s) W k) k) + (s k))))) ss (aI G 121 (upd (smI (stI s) ST k) (k + 1) (((smI (stI s) ST k) k) + (((s k) + 1) / 2))))) sh (aI G 121 (upd (smI (shI s) SH k) (k + 1) (((smI (shI s) SH k) k) + ((s k) / 3))))) sl (aI G 121 (smI (leI c) L k)) (aI G 121 (upd (smI (leI c) L k) (k + 1) (((smI (leI c) L k) k) + 0))))))).tr ?_
        refine Go.trp 130 (go_aload_n d_Sum_addUp_129 rfl 0 rfl) rfl ?_
        refine Go.trp 133 (go_get f_Sum_24 d_Sum_addUp_130 ((gRd_n _ _ (gNe h1 h6)).trans ((gRd_n _ _ (gNe h1 h5)).trans ((gRd_n _ _ (gNe h1 h4)).trans ((gRd_n _ _ (gNe h1 h3)).trans ((gRd_n _ _ (gNe h1 h2)).trans (h1)))))) rfl) rfl ?_
        refine Go.trp 134 (go_iload_n d_Sum_addUp_133 rfl 3 rfl) rfl ?_
        refine Go.trp 135 (go_iconst (v := 1) d_Sum_addUp_134 (by decide)) rfl ?_
        refine Go.trp 136 (go_iadd d_Sum_addUp_135) rfl ?_
        refine (go_v (y := nI (k + 1)) (nI_1 k)).tr ?_
        refine Go.trp 137 (go_aload_n d_Sum_addUp_136 rfl 0 rfl) rfl ?_
        refine Go.trp 140 (go_get f_Sum_24 d_Sum_addUp_137 ((gRd_n _ _ (gNe h1 h6)).trans ((gRd_n _ _ (gNe h1 h5)).trans ((gRd_n _ _ (gNe h1 h4)).trans ((gRd_n _ _ (gNe h1 h3)).trans ((gRd_n _ _ (gNe h1 h2)).trans (h1)))))) rfl) rfl ?_
        refine Go.trp 141 (go_iload_n d_Sum_addUp_140 rfl 3 rfl) rfl ?_
        refine Go.trp 142 (go_iald (j := k) d_Sum_addUp_141 (gRd_s _ _ _) (rfl) (by omega) (by omega)) rfl ?_
        refine Go.trp 144 (go_iload d_Sum_addUp_142 4 rfl) rfl ?_
        refine Go.trp 146 (go_bipush (v := 45) d_Sum_addUp_144 (by decide)) rfl ?_
        by_cases c3 : (c k) = 45
        · refine Go.trp 149 (go_icmp_ne_f 153 d_Sum_addUp_146 (by decide) (c3)) rfl ?_
          refine Go.trp 150 (go_iconst (v := 1) d_Sum_addUp_149 (by decide)) rfl ?_
          refine Go.trp 154 (go_goto 154 d_Sum_addUp_150 (by decide)) rfl ?_
          refine Go.trp 155 (go_iadd d_Sum_addUp_154) rfl ?_
          refine Go.trp 156 (go_iast (j := (k + 1)) d_Sum_addUp_155 (gRd_s _ _ _) (rfl) (by omega) (by omega)) rfl ?_
          refine (go_m (M' := (gWr (gWr (gWr (gWr (gWr M sw (aI G 121 (upd (smI (wdI wo c s) W k) (k + 1) (((smI (wdI wo c s) W k) k) + (s k))))) ss (aI G 121 (upd (smI (stI s) ST k) (k + 1) (((smI (stI s) ST k) k) + (((s k) + 1) / 2))))) sh (aI G 121 (upd (smI (shI s) SH k) (k + 1) (((smI (shI s) SH k) k) + ((s k) / 3))))) sl (aI G 121 (upd (smI (leI c) L k) (k + 1) (((smI (leI c) L k) k) + 0)))) sd (aI G 121 (upd (smI (daI c) DD k) (k + 1) (((smI (daI c) DD k) k) + 1))))) (gWr_wr (gWr (gWr (gWr (gWr M sw (aI G 121 (upd (smI (wdI wo c s) W k) (k + 1) (((smI (wdI wo c s) W k) k) + (s k))))) ss (aI G 121 (upd (smI (stI s) ST k) (k + 1) (((smI (stI s) ST k) k) + (((s k) + 1) / 2))))) sh (aI G 121 (upd (smI (shI s) SH k) (k + 1) (((smI (shI s) SH k) k) + ((s k) / 3))))) sl (aI G 121 (upd (smI (leI c) L k) (k + 1) (((smI (leI c) L k) k) + 0)))) sd (aI G 121 (smI (daI c) DD k)) (aI G 121 (upd (smI (daI c) DD k) (k + 1) (((smI (daI c) DD k) k) + 1))))).tr ?_
          refine Go.trp 159 (go_inc1 (n0 := 3) (x := k) [(3, .int (nI (k + 1))), (0, .ref sm), (1, .ref t), (2, .ref w0), (4, .int (c k)), (5, .int (s k))] d_Sum_addUp_156 rfl (by decide) rfl) rfl ?_
          refine (go_pick [1, 2, 3, 0, 4, 5] [(0, .ref sm), (1, .ref t), (2, .ref w0), (3, .int (nI (k + 1))), (4, .int (c k)), (5, .int (s k))] rfl).tr ?_
          refine Go.trp 2 (go_goto 2 d_Sum_addUp_159 (by decide)) rfl ?_
          refine (go_pick [0, 1, 2, 3] [(0, .ref sm), (1, .ref t), (2, .ref w0), (3, .int (nI (k + 1)))] rfl).tr ?_
          have e_sw : smI (wdI wo c s) W (k + 1) = upd (smI (wdI wo c s) W k) (k + 1) (((smI (wdI wo c s) W k) k) + (s k)) := by simp only [smI, wdI]; first | rw [if_pos (by assumption)] | rw [if_neg (fun h => by rw [‹cWid (c k) = false›] at h; cases h)]
          have e_ss : smI (stI s) ST (k + 1) = upd (smI (stI s) ST k) (k + 1) (((smI (stI s) ST k) k) + (((s k) + 1) / 2)) := by rfl
          have e_sh : smI (shI s) SH (k + 1) = upd (smI (shI s) SH k) (k + 1) (((smI (shI s) SH k) k) + ((s k) / 3)) := by rfl
          have e_sl : smI (leI c) L (k + 1) = upd (smI (leI c) L k) (k + 1) (((smI (leI c) L k) k) + 0) := by simp only [smI, leI]; first | rw [bI_t (by assumption)] | rw [bI_f (by assumption)]
          have e_sd : smI (daI c) DD (k + 1) = upd (smI (daI c) DD k) (k + 1) (((smI (daI c) DD k) k) + 1) := by simp only [smI, daI]; first | rw [bI_t (decide_eq_true (by assumption))] | rw [bI_f (decide_eq_false (by assumption))]
          have h9 := ih (k + 1) (by omega)
          rw [e_sw, e_ss, e_sh, e_sl, e_sd] at h9
          exact h9
        · refine Go.trp 153 (go_icmp_ne_t 153 d_Sum_addUp_146 (by decide) (c3)) rfl ?_
          refine Go.trp 154 (go_iconst (v := 0) d_Sum_addUp_153 (by decide)) rfl ?_
          refine Go.trp 155 (go_iadd d_Sum_addUp_154) rfl ?_
          refine Go.trp 156 (go_iast (j := (k + 1)) d_Sum_addUp_155 (gRd_s _ _ _) (rfl) (by omega) (by omega)) rfl ?_
          refine (go_m (M' := (gWr (gWr (gWr (gWr (gWr M sw (aI G 121 (upd (smI (wdI wo c s) W k) (k + 1) (((smI (wdI wo c s) W k) k) + (s k))))) ss (aI G 121 (upd (smI (stI s) ST k) (k + 1) (((smI (stI s) ST k) k) + (((s k) + 1) / 2))))) sh (aI G 121 (upd (smI (shI s) SH k) (k + 1) (((smI (shI s) SH k) k) + ((s k) / 3))))) sl (aI G 121 (upd (smI (leI c) L k) (k + 1) (((smI (leI c) L k) k) + 0)))) sd (aI G 121 (upd (smI (daI c) DD k) (k + 1) (((smI (daI c) DD k) k) + 0))))) (gWr_wr (gWr (gWr (gWr (gWr M sw (aI G 121 (upd (smI (wdI wo c s) W k) (k + 1) (((smI (wdI wo c s) W k) k) + (s k))))) ss (aI G 121 (upd (smI (stI s) ST k) (k + 1) (((smI (stI s) ST k) k) + (((s k) + 1) / 2))))) sh (aI G 121 (upd (smI (shI s) SH k) (k + 1) (((smI (shI s) SH k) k) + ((s k) / 3))))) sl (aI G 121 (upd (smI (leI c) L k) (k + 1) (((smI (leI c) L k) k) + 0)))) sd (aI G 121 (smI (daI c) DD k)) (aI G 121 (upd (smI (daI c) DD k) (k + 1) (((smI (daI c) DD k) k) + 0))))).tr ?_
          refine Go.trp 159 (go_inc1 (n0 := 3) (x := k) [(3, .int (nI (k + 1))), (0, .ref sm), (1, .ref t), (2, .ref w0), (4, .int (c k)), (5, .int (s k))] d_Sum_addUp_156 rfl (by decide) rfl) rfl ?_
          refine (go_pick [1, 2, 3, 0, 4, 5] [(0, .ref sm), (1, .ref t), (2, .ref w0), (3, .int (nI (k + 1))), (4, .int (c k)), (5, .int (s k))] rfl).tr ?_
          refine Go.trp 2 (go_goto 2 d_Sum_addUp_159 (by decide)) rfl ?_
          refine (go_pick [0, 1, 2, 3] [(0, .ref sm), (1, .ref t), (2, .ref w0), (3, .int (nI (k + 1)))] rfl).tr ?_
          have e_sw : smI (wdI wo c s) W (k + 1) = upd (smI (wdI wo c s) W k) (k + 1) (((smI (wdI wo c s) W k) k) + (s k)) := by simp only [smI, wdI]; first | rw [if_pos (by assumption)] | rw [if_neg (fun h => by rw [‹cWid (c k) = false›] at h; cases h)]
          have e_ss : smI (stI s) ST (k + 1) = upd (smI (stI s) ST k) (k + 1) (((smI (stI s) ST k) k) + (((s k) + 1) / 2)) := by rfl
          have e_sh : smI (shI s) SH (k + 1) = upd (smI (shI s) SH k) (k + 1) (((smI (shI s) SH k) k) + ((s k) / 3)) := by rfl
          have e_sl : smI (leI c) L (k + 1) = upd (smI (leI c) L k) (k + 1) (((smI (leI c) L k) k) + 0) := by simp only [smI, leI]; first | rw [bI_t (by assumption)] | rw [bI_f (by assumption)]
          have e_sd : smI (daI c) DD (k + 1) = upd (smI (daI c) DD k) (k + 1) (((smI (daI c) DD k) k) + 0) := by simp only [smI, daI]; first | rw [bI_t (decide_eq_true (by assumption))] | rw [bI_f (decide_eq_false (by assumption))]
          have h9 := ih (k + 1) (by omega)
          rw [e_sw, e_ss, e_sh, e_sl, e_sd] at h9
          exact h9
      · have c2x : (cLet (c k)) = true := bI_n0.mp c2
        refine Go.trp 122 (go_if_eq_f 126 d_Sum_addUp_119 (by decide) (c2)) rfl ?_
        refine Go.trp 123 (go_iconst (v := 1) d_Sum_addUp_122 (by decide)) rfl ?_
        refine Go.trp 127 (go_goto 127 d_Sum_addUp_123 (by decide)) rfl ?_
        refine Go.trp 128 (go_iadd d_Sum_addUp_127) rfl ?_
        refine Go.trp 129 (go_iast (j := (k + 1)) d_Sum_addUp_128 ((gRd_n _ _ (ndN hN 3 4 rfl rfl (by decide))).trans (gRd_s _ _ _)) (rfl) (by omega) (by omega)) rfl ?_
        refine (go_m (M' := (gWr (gWr (gWr (gWr (gWr M sw (aI G 121 (upd (smI (wdI wo c s) W k) (k + 1) (((smI (wdI wo c s) W k) k) + (s k))))) ss (aI G 121 (upd (smI (stI s) ST k) (k + 1) (((smI (stI s) ST k) k) + (((s k) + 1) / 2))))) sh (aI G 121 (upd (smI (shI s) SH k) (k + 1) (((smI (shI s) SH k) k) + ((s k) / 3))))) sl (aI G 121 (upd (smI (leI c) L k) (k + 1) (((smI (leI c) L k) k) + 1)))) sd (aI G 121 (smI (daI c) DD k)))) ((gWr_cm (gWr (gWr (gWr (gWr M sw (aI G 121 (upd (smI (wdI wo c s) W k) (k + 1) (((smI (wdI wo c s) W k) k) + (s k))))) ss (aI G 121 (upd (smI (stI s) ST k) (k + 1) (((smI (stI s) ST k) k) + (((s k) + 1) / 2))))) sh (aI G 121 (upd (smI (shI s) SH k) (k + 1) (((smI (shI s) SH k) k) + ((s k) / 3))))) sl (aI G 121 (smI (leI c) L k))) (aI G 121 (smI (daI c) DD k)) (aI G 121 (upd (smI (leI c) L k) (k + 1) (((smI (leI c) L k) k) + 1))) (Ne.symm (ndN hN 3 4 rfl rfl (by decide)))).trans (congrArg (fun m => gWr m sd (aI G 121 (smI (daI c) DD k))) (gWr_wr (gWr (gWr (gWr M sw (aI G 121 (upd (smI (wdI wo c s) W k) (k + 1) (((smI (wdI wo c s) W k) k) + (s k))))) ss (aI G 121 (upd (smI (stI s) ST k) (k + 1) (((smI (stI s) ST k) k) + (((s k) + 1) / 2))))) sh (aI G 121 (upd (smI (shI s) SH k) (k + 1) (((smI (shI s) SH k) k) + ((s k) / 3))))) sl (aI G 121 (smI (leI c) L k)) (aI G 121 (upd (smI (leI c) L k) (k + 1) (((smI (leI c) L k) k) + 1))))))).tr ?_
        refine Go.trp 130 (go_aload_n d_Sum_addUp_129 rfl 0 rfl) rfl ?_
        refine Go.trp 133 (go_get f_Sum_24 d_Sum_addUp_130 ((gRd_n _ _ (gNe h1 h6)).trans ((gRd_n _ _ (gNe h1 h5)).trans ((gRd_n _ _ (gNe h1 h4)).trans ((gRd_n _ _ (gNe h1 h3)).trans ((gRd_n _ _ (gNe h1 h2)).trans (h1)))))) rfl) rfl ?_
        refine Go.trp 134 (go_iload_n d_Sum_addUp_133 rfl 3 rfl) rfl ?_
        refine Go.trp 135 (go_iconst (v := 1) d_Sum_addUp_134 (by decide)) rfl ?_
        refine Go.trp 136 (go_iadd d_Sum_addUp_135) rfl ?_
        refine (go_v (y := nI (k + 1)) (nI_1 k)).tr ?_
        refine Go.trp 137 (go_aload_n d_Sum_addUp_136 rfl 0 rfl) rfl ?_
        refine Go.trp 140 (go_get f_Sum_24 d_Sum_addUp_137 ((gRd_n _ _ (gNe h1 h6)).trans ((gRd_n _ _ (gNe h1 h5)).trans ((gRd_n _ _ (gNe h1 h4)).trans ((gRd_n _ _ (gNe h1 h3)).trans ((gRd_n _ _ (gNe h1 h2)).trans (h1)))))) rfl) rfl ?_
        refine Go.trp 141 (go_iload_n d_Sum_addUp_140 rfl 3 rfl) rfl ?_
        refine Go.trp 142 (go_iald (j := k) d_Sum_addUp_141 (gRd_s _ _ _) (rfl) (by omega) (by omega)) rfl ?_
        refine Go.trp 144 (go_iload d_Sum_addUp_142 4 rfl) rfl ?_
        refine Go.trp 146 (go_bipush (v := 45) d_Sum_addUp_144 (by decide)) rfl ?_
        by_cases c4 : (c k) = 45
        · refine Go.trp 149 (go_icmp_ne_f 153 d_Sum_addUp_146 (by decide) (c4)) rfl ?_
          refine Go.trp 150 (go_iconst (v := 1) d_Sum_addUp_149 (by decide)) rfl ?_
          refine Go.trp 154 (go_goto 154 d_Sum_addUp_150 (by decide)) rfl ?_
          refine Go.trp 155 (go_iadd d_Sum_addUp_154) rfl ?_
          refine Go.trp 156 (go_iast (j := (k + 1)) d_Sum_addUp_155 (gRd_s _ _ _) (rfl) (by omega) (by omega)) rfl ?_
          refine (go_m (M' := (gWr (gWr (gWr (gWr (gWr M sw (aI G 121 (upd (smI (wdI wo c s) W k) (k + 1) (((smI (wdI wo c s) W k) k) + (s k))))) ss (aI G 121 (upd (smI (stI s) ST k) (k + 1) (((smI (stI s) ST k) k) + (((s k) + 1) / 2))))) sh (aI G 121 (upd (smI (shI s) SH k) (k + 1) (((smI (shI s) SH k) k) + ((s k) / 3))))) sl (aI G 121 (upd (smI (leI c) L k) (k + 1) (((smI (leI c) L k) k) + 1)))) sd (aI G 121 (upd (smI (daI c) DD k) (k + 1) (((smI (daI c) DD k) k) + 1))))) (gWr_wr (gWr (gWr (gWr (gWr M sw (aI G 121 (upd (smI (wdI wo c s) W k) (k + 1) (((smI (wdI wo c s) W k) k) + (s k))))) ss (aI G 121 (upd (smI (stI s) ST k) (k + 1) (((smI (stI s) ST k) k) + (((s k) + 1) / 2))))) sh (aI G 121 (upd (smI (shI s) SH k) (k + 1) (((smI (shI s) SH k) k) + ((s k) / 3))))) sl (aI G 121 (upd (smI (leI c) L k) (k + 1) (((smI (leI c) L k) k) + 1)))) sd (aI G 121 (smI (daI c) DD k)) (aI G 121 (upd (smI (daI c) DD k) (k + 1) (((smI (daI c) DD k) k) + 1))))).tr ?_
          refine Go.trp 159 (go_inc1 (n0 := 3) (x := k) [(3, .int (nI (k + 1))), (0, .ref sm), (1, .ref t), (2, .ref w0), (4, .int (c k)), (5, .int (s k))] d_Sum_addUp_156 rfl (by decide) rfl) rfl ?_
          refine (go_pick [1, 2, 3, 0, 4, 5] [(0, .ref sm), (1, .ref t), (2, .ref w0), (3, .int (nI (k + 1))), (4, .int (c k)), (5, .int (s k))] rfl).tr ?_
          refine Go.trp 2 (go_goto 2 d_Sum_addUp_159 (by decide)) rfl ?_
          refine (go_pick [0, 1, 2, 3] [(0, .ref sm), (1, .ref t), (2, .ref w0), (3, .int (nI (k + 1)))] rfl).tr ?_
          have e_sw : smI (wdI wo c s) W (k + 1) = upd (smI (wdI wo c s) W k) (k + 1) (((smI (wdI wo c s) W k) k) + (s k)) := by simp only [smI, wdI]; first | rw [if_pos (by assumption)] | rw [if_neg (fun h => by rw [‹cWid (c k) = false›] at h; cases h)]
          have e_ss : smI (stI s) ST (k + 1) = upd (smI (stI s) ST k) (k + 1) (((smI (stI s) ST k) k) + (((s k) + 1) / 2)) := by rfl
          have e_sh : smI (shI s) SH (k + 1) = upd (smI (shI s) SH k) (k + 1) (((smI (shI s) SH k) k) + ((s k) / 3)) := by rfl
          have e_sl : smI (leI c) L (k + 1) = upd (smI (leI c) L k) (k + 1) (((smI (leI c) L k) k) + 1) := by simp only [smI, leI]; first | rw [bI_t (by assumption)] | rw [bI_f (by assumption)]
          have e_sd : smI (daI c) DD (k + 1) = upd (smI (daI c) DD k) (k + 1) (((smI (daI c) DD k) k) + 1) := by simp only [smI, daI]; first | rw [bI_t (decide_eq_true (by assumption))] | rw [bI_f (decide_eq_false (by assumption))]
          have h9 := ih (k + 1) (by omega)
          rw [e_sw, e_ss, e_sh, e_sl, e_sd] at h9
          exact h9
        · refine Go.trp 153 (go_icmp_ne_t 153 d_Sum_addUp_146 (by decide) (c4)) rfl ?_
          refine Go.trp 154 (go_iconst (v := 0) d_Sum_addUp_153 (by decide)) rfl ?_
          refine Go.trp 155 (go_iadd d_Sum_addUp_154) rfl ?_
          refine Go.trp 156 (go_iast (j := (k + 1)) d_Sum_addUp_155 (gRd_s _ _ _) (rfl) (by omega) (by omega)) rfl ?_
          refine (go_m (M' := (gWr (gWr (gWr (gWr (gWr M sw (aI G 121 (upd (smI (wdI wo c s) W k) (k + 1) (((smI (wdI wo c s) W k) k) + (s k))))) ss (aI G 121 (upd (smI (stI s) ST k) (k + 1) (((smI (stI s) ST k) k) + (((s k) + 1) / 2))))) sh (aI G 121 (upd (smI (shI s) SH k) (k + 1) (((smI (shI s) SH k) k) + ((s k) / 3))))) sl (aI G 121 (upd (smI (leI c) L k) (k + 1) (((smI (leI c) L k) k) + 1)))) sd (aI G 121 (upd (smI (daI c) DD k) (k + 1) (((smI (daI c) DD k) k) + 0))))) (gWr_wr (gWr (gWr (gWr (gWr M sw (aI G 121 (upd (smI (wdI wo c s) W k) (k + 1) (((smI (wdI wo c s) W k) k) + (s k))))) ss (aI G 121 (upd (smI (stI s) ST k) (k + 1) (((smI (stI s) ST k) k) + (((s k) + 1) / 2))))) sh (aI G 121 (upd (smI (shI s) SH k) (k + 1) (((smI (shI s) SH k) k) + ((s k) / 3))))) sl (aI G 121 (upd (smI (leI c) L k) (k + 1) (((smI (leI c) L k) k) + 1)))) sd (aI G 121 (smI (daI c) DD k)) (aI G 121 (upd (smI (daI c) DD k) (k + 1) (((smI (daI c) DD k) k) + 0))))).tr ?_
          refine Go.trp 159 (go_inc1 (n0 := 3) (x := k) [(3, .int (nI (k + 1))), (0, .ref sm), (1, .ref t), (2, .ref w0), (4, .int (c k)), (5, .int (s k))] d_Sum_addUp_156 rfl (by decide) rfl) rfl ?_
          refine (go_pick [1, 2, 3, 0, 4, 5] [(0, .ref sm), (1, .ref t), (2, .ref w0), (3, .int (nI (k + 1))), (4, .int (c k)), (5, .int (s k))] rfl).tr ?_
          refine Go.trp 2 (go_goto 2 d_Sum_addUp_159 (by decide)) rfl ?_
          refine (go_pick [0, 1, 2, 3] [(0, .ref sm), (1, .ref t), (2, .ref w0), (3, .int (nI (k + 1)))] rfl).tr ?_
          have e_sw : smI (wdI wo c s) W (k + 1) = upd (smI (wdI wo c s) W k) (k + 1) (((smI (wdI wo c s) W k) k) + (s k)) := by simp only [smI, wdI]; first | rw [if_pos (by assumption)] | rw [if_neg (fun h => by rw [‹cWid (c k) = false›] at h; cases h)]
          have e_ss : smI (stI s) ST (k + 1) = upd (smI (stI s) ST k) (k + 1) (((smI (stI s) ST k) k) + (((s k) + 1) / 2)) := by rfl
          have e_sh : smI (shI s) SH (k + 1) = upd (smI (shI s) SH k) (k + 1) (((smI (shI s) SH k) k) + ((s k) / 3)) := by rfl
          have e_sl : smI (leI c) L (k + 1) = upd (smI (leI c) L k) (k + 1) (((smI (leI c) L k) k) + 1) := by simp only [smI, leI]; first | rw [bI_t (by assumption)] | rw [bI_f (by assumption)]
          have e_sd : smI (daI c) DD (k + 1) = upd (smI (daI c) DD k) (k + 1) (((smI (daI c) DD k) k) + 0) := by simp only [smI, daI]; first | rw [bI_t (decide_eq_true (by assumption))] | rw [bI_f (decide_eq_false (by assumption))]
          have h9 := ih (k + 1) (by omega)
          rw [e_sw, e_ss, e_sh, e_sl, e_sd] at h9
          exact h9
    · have c1x : (cWid (c k)) = true := bI_n0.mp c1
      refine Go.trp 47 (go_if_eq_f 57 d_Sum_addUp_44 (by decide) (c1)) rfl ?_
      refine Go.trp 48 (go_aload_n d_Sum_addUp_47 rfl 2 rfl) rfl ?_
      refine Go.trp 50 (go_iload d_Sum_addUp_48 4 rfl) rfl ?_
      refine Go.trp 53 (go_callS [.int (c k)] [.int (wIx (c k)), .ref w0, .int ((smI (wdI wo c s) W k) k), .int (nI (k + 1)), .ref sw] c0_PS_widthIndex sm_PS_widthIndex lk_Sum_43 d_Sum_addUp_50 (e_PS_widthIndex G _ (c k)) (by decide) rfl rfl (Nat.le_of_ble_eq_true rfl) rfl) rfl ?_
      refine Go.trp 54 (go_iald (j := (wIx (c k)).toNatClampNeg) d_Sum_addUp_53 ((gRd_n _ _ (Ne.symm (ndN hN 4 7 rfl rfl (by decide)))).trans ((gRd_n _ _ (Ne.symm (ndN hN 3 7 rfl rfl (by decide)))).trans ((gRd_n _ _ (Ne.symm (ndN hN 2 7 rfl rfl (by decide)))).trans ((gRd_n _ _ (Ne.symm (ndN hN 1 7 rfl rfl (by decide)))).trans ((gRd_n _ _ (Ne.symm (ndN hN 0 7 rfl rfl (by decide)))).trans (w1)))))) (by obtain ⟨n, hn, e⟩ := wIx_lt (c k) c1x; rw [e, nI_clamp (by omega)]) (by obtain ⟨n, hn, e⟩ := wIx_lt (c k) c1x; rw [e, nI_clamp (by omega)]; exact hn) (by decide)) rfl ?_
      refine Go.trp 59 (go_goto 59 d_Sum_addUp_54 (by decide)) rfl ?_
      refine Go.trp 60 (go_iadd d_Sum_addUp_59) rfl ?_
      refine Go.trp 61 (go_iast (j := (k + 1)) d_Sum_addUp_60 ((gRd_n _ _ (ndN hN 0 4 rfl rfl (by decide))).trans ((gRd_n _ _ (ndN hN 0 3 rfl rfl (by decide))).trans ((gRd_n _ _ (ndN hN 0 2 rfl rfl (by decide))).trans ((gRd_n _ _ (ndN hN 0 1 rfl rfl (by decide))).trans (gRd_s _ _ _))))) (rfl) (by omega) (by omega)) rfl ?_
      refine (go_m (M' := (gWr (gWr (gWr (gWr (gWr M sw (aI G 121 (upd (smI (wdI wo c s) W k) (k + 1) (((smI (wdI wo c s) W k) k) + (wo ((wIx (c k)).toNatClampNeg)))))) ss (aI G 121 (smI (stI s) ST k))) sh (aI G 121 (smI (shI s) SH k))) sl (aI G 121 (smI (leI c) L k))) sd (aI G 121 (smI (daI c) DD k)))) ((gWr_cm (gWr (gWr (gWr (gWr M sw (aI G 121 (smI (wdI wo c s) W k))) ss (aI G 121 (smI (stI s) ST k))) sh (aI G 121 (smI (shI s) SH k))) sl (aI G 121 (smI (leI c) L k))) (aI G 121 (smI (daI c) DD k)) (aI G 121 (upd (smI (wdI wo c s) W k) (k + 1) (((smI (wdI wo c s) W k) k) + (wo ((wIx (c k)).toNatClampNeg))))) (Ne.symm (ndN hN 0 4 rfl rfl (by decide)))).trans (congrArg (fun m => gWr m sd (aI G 121 (smI (daI c) DD k))) ((gWr_cm (gWr (gWr (gWr M sw (aI G 121 (smI (wdI wo c s) W k))) ss (aI G 121 (smI (stI s) ST k))) sh (aI G 121 (smI (shI s) SH k))) (aI G 121 (smI (leI c) L k)) (aI G 121 (upd (smI (wdI wo c s) W k) (k + 1) (((smI (wdI wo c s) W k) k) + (wo ((wIx (c k)).toNatClampNeg))))) (Ne.symm (ndN hN 0 3 rfl rfl (by decide)))).trans (congrArg (fun m => gWr m sl (aI G 121 (smI (leI c) L k))) ((gWr_cm (gWr (gWr M sw (aI G 121 (smI (wdI wo c s) W k))) ss (aI G 121 (smI (stI s) ST k))) (aI G 121 (smI (shI s) SH k)) (aI G 121 (upd (smI (wdI wo c s) W k) (k + 1) (((smI (wdI wo c s) W k) k) + (wo ((wIx (c k)).toNatClampNeg))))) (Ne.symm (ndN hN 0 2 rfl rfl (by decide)))).trans (congrArg (fun m => gWr m sh (aI G 121 (smI (shI s) SH k))) ((gWr_cm (gWr M sw (aI G 121 (smI (wdI wo c s) W k))) (aI G 121 (smI (stI s) ST k)) (aI G 121 (upd (smI (wdI wo c s) W k) (k + 1) (((smI (wdI wo c s) W k) k) + (wo ((wIx (c k)).toNatClampNeg))))) (Ne.symm (ndN hN 0 1 rfl rfl (by decide)))).trans (congrArg (fun m => gWr m ss (aI G 121 (smI (stI s) ST k))) (gWr_wr M sw (aI G 121 (smI (wdI wo c s) W k)) (aI G 121 (upd (smI (wdI wo c s) W k) (k + 1) (((smI (wdI wo c s) W k) k) + (wo ((wIx (c k)).toNatClampNeg))))))))))))))).tr ?_
      refine Go.trp 62 (go_aload_n d_Sum_addUp_61 rfl 0 rfl) rfl ?_
      refine Go.trp 65 (go_get f_Sum_15 d_Sum_addUp_62 ((gRd_n _ _ (gNe h1 h6)).trans ((gRd_n _ _ (gNe h1 h5)).trans ((gRd_n _ _ (gNe h1 h4)).trans ((gRd_n _ _ (gNe h1 h3)).trans ((gRd_n _ _ (gNe h1 h2)).trans (h1)))))) rfl) rfl ?_
      refine Go.trp 66 (go_iload_n d_Sum_addUp_65 rfl 3 rfl) rfl ?_
      refine Go.trp 67 (go_iconst (v := 1) d_Sum_addUp_66 (by decide)) rfl ?_
      refine Go.trp 68 (go_iadd d_Sum_addUp_67) rfl ?_
      refine (go_v (y := nI (k + 1)) (nI_1 k)).tr ?_
      refine Go.trp 69 (go_aload_n d_Sum_addUp_68 rfl 0 rfl) rfl ?_
      refine Go.trp 72 (go_get f_Sum_15 d_Sum_addUp_69 ((gRd_n _ _ (gNe h1 h6)).trans ((gRd_n _ _ (gNe h1 h5)).trans ((gRd_n _ _ (gNe h1 h4)).trans ((gRd_n _ _ (gNe h1 h3)).trans ((gRd_n _ _ (gNe h1 h2)).trans (h1)))))) rfl) rfl ?_
      refine Go.trp 73 (go_iload_n d_Sum_addUp_72 rfl 3 rfl) rfl ?_
      refine Go.trp 74 (go_iald (j := k) d_Sum_addUp_73 ((gRd_n _ _ (ndN hN 1 4 rfl rfl (by decide))).trans ((gRd_n _ _ (ndN hN 1 3 rfl rfl (by decide))).trans ((gRd_n _ _ (ndN hN 1 2 rfl rfl (by decide))).trans (gRd_s _ _ _)))) (rfl) (by omega) (by omega)) rfl ?_
      refine Go.trp 76 (go_iload d_Sum_addUp_74 5 rfl) rfl ?_
      refine Go.trp 77 (go_iconst (v := 1) d_Sum_addUp_76 (by decide)) rfl ?_
      refine Go.trp 78 (go_iadd d_Sum_addUp_77) rfl ?_
      refine Go.trp 79 (go_iconst (v := 2) d_Sum_addUp_78 (by decide)) rfl ?_
      refine Go.trp 80 (go_idiv d_Sum_addUp_79 (by decide)) rfl ?_
      refine Go.trp 81 (go_iadd d_Sum_addUp_80) rfl ?_
      refine Go.trp 82 (go_iast (j := (k + 1)) d_Sum_addUp_81 ((gRd_n _ _ (ndN hN 1 4 rfl rfl (by decide))).trans ((gRd_n _ _ (ndN hN 1 3 rfl rfl (by decide))).trans ((gRd_n _ _ (ndN hN 1 2 rfl rfl (by decide))).trans (gRd_s _ _ _)))) (rfl) (by omega) (by omega)) rfl ?_
      refine (go_m (M' := (gWr (gWr (gWr (gWr (gWr M sw (aI G 121 (upd (smI (wdI wo c s) W k) (k + 1) (((smI (wdI wo c s) W k) k) + (wo ((wIx (c k)).toNatClampNeg)))))) ss (aI G 121 (upd (smI (stI s) ST k) (k + 1) (((smI (stI s) ST k) k) + (((s k) + 1) / 2))))) sh (aI G 121 (smI (shI s) SH k))) sl (aI G 121 (smI (leI c) L k))) sd (aI G 121 (smI (daI c) DD k)))) ((gWr_cm (gWr (gWr (gWr (gWr M sw (aI G 121 (upd (smI (wdI wo c s) W k) (k + 1) (((smI (wdI wo c s) W k) k) + (wo ((wIx (c k)).toNatClampNeg)))))) ss (aI G 121 (smI (stI s) ST k))) sh (aI G 121 (smI (shI s) SH k))) sl (aI G 121 (smI (leI c) L k))) (aI G 121 (smI (daI c) DD k)) (aI G 121 (upd (smI (stI s) ST k) (k + 1) (((smI (stI s) ST k) k) + (((s k) + 1) / 2)))) (Ne.symm (ndN hN 1 4 rfl rfl (by decide)))).trans (congrArg (fun m => gWr m sd (aI G 121 (smI (daI c) DD k))) ((gWr_cm (gWr (gWr (gWr M sw (aI G 121 (upd (smI (wdI wo c s) W k) (k + 1) (((smI (wdI wo c s) W k) k) + (wo ((wIx (c k)).toNatClampNeg)))))) ss (aI G 121 (smI (stI s) ST k))) sh (aI G 121 (smI (shI s) SH k))) (aI G 121 (smI (leI c) L k)) (aI G 121 (upd (smI (stI s) ST k) (k + 1) (((smI (stI s) ST k) k) + (((s k) + 1) / 2)))) (Ne.symm (ndN hN 1 3 rfl rfl (by decide)))).trans (congrArg (fun m => gWr m sl (aI G 121 (smI (leI c) L k))) ((gWr_cm (gWr (gWr M sw (aI G 121 (upd (smI (wdI wo c s) W k) (k + 1) (((smI (wdI wo c s) W k) k) + (wo ((wIx (c k)).toNatClampNeg)))))) ss (aI G 121 (smI (stI s) ST k))) (aI G 121 (smI (shI s) SH k)) (aI G 121 (upd (smI (stI s) ST k) (k + 1) (((smI (stI s) ST k) k) + (((s k) + 1) / 2)))) (Ne.symm (ndN hN 1 2 rfl rfl (by decide)))).trans (congrArg (fun m => gWr m sh (aI G 121 (smI (shI s) SH k))) (gWr_wr (gWr M sw (aI G 121 (upd (smI (wdI wo c s) W k) (k + 1) (((smI (wdI wo c s) W k) k) + (wo ((wIx (c k)).toNatClampNeg)))))) ss (aI G 121 (smI (stI s) ST k)) (aI G 121 (upd (smI (stI s) ST k) (k + 1) (((smI (stI s) ST k) k) + (((s k) + 1) / 2)))))))))))).tr ?_
      refine Go.trp 83 (go_aload_n d_Sum_addUp_82 rfl 0 rfl) rfl ?_
      refine Go.trp 86 (go_get f_Sum_18 d_Sum_addUp_83 ((gRd_n _ _ (gNe h1 h6)).trans ((gRd_n _ _ (gNe h1 h5)).trans ((gRd_n _ _ (gNe h1 h4)).trans ((gRd_n _ _ (gNe h1 h3)).trans ((gRd_n _ _ (gNe h1 h2)).trans (h1)))))) rfl) rfl ?_
      refine Go.trp 87 (go_iload_n d_Sum_addUp_86 rfl 3 rfl) rfl ?_
      refine Go.trp 88 (go_iconst (v := 1) d_Sum_addUp_87 (by decide)) rfl ?_
      refine Go.trp 89 (go_iadd d_Sum_addUp_88) rfl ?_
      refine (go_v (y := nI (k + 1)) (nI_1 k)).tr ?_
      refine Go.trp 90 (go_aload_n d_Sum_addUp_89 rfl 0 rfl) rfl ?_
      refine Go.trp 93 (go_get f_Sum_18 d_Sum_addUp_90 ((gRd_n _ _ (gNe h1 h6)).trans ((gRd_n _ _ (gNe h1 h5)).trans ((gRd_n _ _ (gNe h1 h4)).trans ((gRd_n _ _ (gNe h1 h3)).trans ((gRd_n _ _ (gNe h1 h2)).trans (h1)))))) rfl) rfl ?_
      refine Go.trp 94 (go_iload_n d_Sum_addUp_93 rfl 3 rfl) rfl ?_
      refine Go.trp 95 (go_iald (j := k) d_Sum_addUp_94 ((gRd_n _ _ (ndN hN 2 4 rfl rfl (by decide))).trans ((gRd_n _ _ (ndN hN 2 3 rfl rfl (by decide))).trans (gRd_s _ _ _))) (rfl) (by omega) (by omega)) rfl ?_
      refine Go.trp 97 (go_iload d_Sum_addUp_95 5 rfl) rfl ?_
      refine Go.trp 98 (go_iconst (v := 3) d_Sum_addUp_97 (by decide)) rfl ?_
      refine Go.trp 99 (go_idiv d_Sum_addUp_98 (by decide)) rfl ?_
      refine Go.trp 100 (go_iadd d_Sum_addUp_99) rfl ?_
      refine Go.trp 101 (go_iast (j := (k + 1)) d_Sum_addUp_100 ((gRd_n _ _ (ndN hN 2 4 rfl rfl (by decide))).trans ((gRd_n _ _ (ndN hN 2 3 rfl rfl (by decide))).trans (gRd_s _ _ _))) (rfl) (by omega) (by omega)) rfl ?_
      refine (go_m (M' := (gWr (gWr (gWr (gWr (gWr M sw (aI G 121 (upd (smI (wdI wo c s) W k) (k + 1) (((smI (wdI wo c s) W k) k) + (wo ((wIx (c k)).toNatClampNeg)))))) ss (aI G 121 (upd (smI (stI s) ST k) (k + 1) (((smI (stI s) ST k) k) + (((s k) + 1) / 2))))) sh (aI G 121 (upd (smI (shI s) SH k) (k + 1) (((smI (shI s) SH k) k) + ((s k) / 3))))) sl (aI G 121 (smI (leI c) L k))) sd (aI G 121 (smI (daI c) DD k)))) ((gWr_cm (gWr (gWr (gWr (gWr M sw (aI G 121 (upd (smI (wdI wo c s) W k) (k + 1) (((smI (wdI wo c s) W k) k) + (wo ((wIx (c k)).toNatClampNeg)))))) ss (aI G 121 (upd (smI (stI s) ST k) (k + 1) (((smI (stI s) ST k) k) + (((s k) + 1) / 2))))) sh (aI G 121 (smI (shI s) SH k))) sl (aI G 121 (smI (leI c) L k))) (aI G 121 (smI (daI c) DD k)) (aI G 121 (upd (smI (shI s) SH k) (k + 1) (((smI (shI s) SH k) k) + ((s k) / 3)))) (Ne.symm (ndN hN 2 4 rfl rfl (by decide)))).trans (congrArg (fun m => gWr m sd (aI G 121 (smI (daI c) DD k))) ((gWr_cm (gWr (gWr (gWr M sw (aI G 121 (upd (smI (wdI wo c s) W k) (k + 1) (((smI (wdI wo c s) W k) k) + (wo ((wIx (c k)).toNatClampNeg)))))) ss (aI G 121 (upd (smI (stI s) ST k) (k + 1) (((smI (stI s) ST k) k) + (((s k) + 1) / 2))))) sh (aI G 121 (smI (shI s) SH k))) (aI G 121 (smI (leI c) L k)) (aI G 121 (upd (smI (shI s) SH k) (k + 1) (((smI (shI s) SH k) k) + ((s k) / 3)))) (Ne.symm (ndN hN 2 3 rfl rfl (by decide)))).trans (congrArg (fun m => gWr m sl (aI G 121 (smI (leI c) L k))) (gWr_wr (gWr (gWr M sw (aI G 121 (upd (smI (wdI wo c s) W k) (k + 1) (((smI (wdI wo c s) W k) k) + (wo ((wIx (c k)).toNatClampNeg)))))) ss (aI G 121 (upd (smI (stI s) ST k) (k + 1) (((smI (stI s) ST k) k) + (((s k) + 1) / 2))))) sh (aI G 121 (smI (shI s) SH k)) (aI G 121 (upd (smI (shI s) SH k) (k + 1) (((smI (shI s) SH k) k) + ((s k) / 3)))))))))).tr ?_
      refine Go.trp 102 (go_aload_n d_Sum_addUp_101 rfl 0 rfl) rfl ?_
      refine Go.trp 105 (go_get f_Sum_21 d_Sum_addUp_102 ((gRd_n _ _ (gNe h1 h6)).trans ((gRd_n _ _ (gNe h1 h5)).trans ((gRd_n _ _ (gNe h1 h4)).trans ((gRd_n _ _ (gNe h1 h3)).trans ((gRd_n _ _ (gNe h1 h2)).trans (h1)))))) rfl) rfl ?_
      refine Go.trp 106 (go_iload_n d_Sum_addUp_105 rfl 3 rfl) rfl ?_
      refine Go.trp 107 (go_iconst (v := 1) d_Sum_addUp_106 (by decide)) rfl ?_
      refine Go.trp 108 (go_iadd d_Sum_addUp_107) rfl ?_
      refine (go_v (y := nI (k + 1)) (nI_1 k)).tr ?_
      refine Go.trp 109 (go_aload_n d_Sum_addUp_108 rfl 0 rfl) rfl ?_
      refine Go.trp 112 (go_get f_Sum_21 d_Sum_addUp_109 ((gRd_n _ _ (gNe h1 h6)).trans ((gRd_n _ _ (gNe h1 h5)).trans ((gRd_n _ _ (gNe h1 h4)).trans ((gRd_n _ _ (gNe h1 h3)).trans ((gRd_n _ _ (gNe h1 h2)).trans (h1)))))) rfl) rfl ?_
      refine Go.trp 113 (go_iload_n d_Sum_addUp_112 rfl 3 rfl) rfl ?_
      refine Go.trp 114 (go_iald (j := k) d_Sum_addUp_113 ((gRd_n _ _ (ndN hN 3 4 rfl rfl (by decide))).trans (gRd_s _ _ _)) (rfl) (by omega) (by omega)) rfl ?_
      refine Go.trp 116 (go_iload d_Sum_addUp_114 4 rfl) rfl ?_
      refine Go.trp 119 (go_callS [.int (c k)] [.int (bI (cLet (c k))), .int ((smI (leI c) L k) k), .int (nI (k + 1)), .ref sl] c0_PS_isLetter sm_PS_isLetter lk_Sum_47 d_Sum_addUp_116 (e_PS_isLetter G _ (c k)) (by decide) rfl rfl (Nat.le_of_ble_eq_true rfl) rfl) rfl ?_
      by_cases c5 : (bI (cLet (c k))) = 0
      · have c5x : (cLet (c k)) = false := bI_0.mp c5
        refine Go.trp 126 (go_if_eq_t 126 d_Sum_addUp_119 (by decide) (c5)) rfl ?_
        refine Go.trp 127 (go_iconst (v := 0) d_Sum_addUp_126 (by decide)) rfl ?_
        refine Go.trp 128 (go_iadd d_Sum_addUp_127) rfl ?_
        refine Go.trp 129 (go_iast (j := (k + 1)) d_Sum_addUp_128 ((gRd_n _ _ (ndN hN 3 4 rfl rfl (by decide))).trans (gRd_s _ _ _)) (rfl) (by omega) (by omega)) rfl ?_
        refine (go_m (M' := (gWr (gWr (gWr (gWr (gWr M sw (aI G 121 (upd (smI (wdI wo c s) W k) (k + 1) (((smI (wdI wo c s) W k) k) + (wo ((wIx (c k)).toNatClampNeg)))))) ss (aI G 121 (upd (smI (stI s) ST k) (k + 1) (((smI (stI s) ST k) k) + (((s k) + 1) / 2))))) sh (aI G 121 (upd (smI (shI s) SH k) (k + 1) (((smI (shI s) SH k) k) + ((s k) / 3))))) sl (aI G 121 (upd (smI (leI c) L k) (k + 1) (((smI (leI c) L k) k) + 0)))) sd (aI G 121 (smI (daI c) DD k)))) ((gWr_cm (gWr (gWr (gWr (gWr M sw (aI G 121 (upd (smI (wdI wo c s) W k) (k + 1) (((smI (wdI wo c s) W k) k) + (wo ((wIx (c k)).toNatClampNeg)))))) ss (aI G 121 (upd (smI (stI s) ST k) (k + 1) (((smI (stI s) ST k) k) + (((s k) + 1) / 2))))) sh (aI G 121 (upd (smI (shI s) SH k) (k + 1) (((smI (shI s) SH k) k) + ((s k) / 3))))) sl (aI G 121 (smI (leI c) L k))) (aI G 121 (smI (daI c) DD k)) (aI G 121 (upd (smI (leI c) L k) (k + 1) (((smI (leI c) L k) k) + 0))) (Ne.symm (ndN hN 3 4 rfl rfl (by decide)))).trans (congrArg (fun m => gWr m sd (aI G 121 (smI (daI c) DD k))) (gWr_wr (gWr (gWr (gWr M sw (aI G 121 (upd (smI (wdI wo c s) W k) (k + 1) (((smI (wdI wo c s) W k) k) + (wo ((wIx (c k)).toNatClampNeg)))))) ss (aI G 121 (upd (smI (stI s) ST k) (k + 1) (((smI (stI s) ST k) k) + (((s k) + 1) / 2))))) sh (aI G 121 (upd (smI (shI s) SH k) (k + 1) (((smI (shI s) SH k) k) + ((s k) / 3))))) sl (aI G 121 (smI (leI c) L k)) (aI G 121 (upd (smI (leI c) L k) (k + 1) (((smI (leI c) L k) k) + 0))))))).tr ?_
        refine Go.trp 130 (go_aload_n d_Sum_addUp_129 rfl 0 rfl) rfl ?_
        refine Go.trp 133 (go_get f_Sum_24 d_Sum_addUp_130 ((gRd_n _ _ (gNe h1 h6)).trans ((gRd_n _ _ (gNe h1 h5)).trans ((gRd_n _ _ (gNe h1 h4)).trans ((gRd_n _ _ (gNe h1 h3)).trans ((gRd_n _ _ (gNe h1 h2)).trans (h1)))))) rfl) rfl ?_
        refine Go.trp 134 (go_iload_n d_Sum_addUp_133 rfl 3 rfl) rfl ?_
        refine Go.trp 135 (go_iconst (v := 1) d_Sum_addUp_134 (by decide)) rfl ?_
        refine Go.trp 136 (go_iadd d_Sum_addUp_135) rfl ?_
        refine (go_v (y := nI (k + 1)) (nI_1 k)).tr ?_
        refine Go.trp 137 (go_aload_n d_Sum_addUp_136 rfl 0 rfl) rfl ?_
        refine Go.trp 140 (go_get f_Sum_24 d_Sum_addUp_137 ((gRd_n _ _ (gNe h1 h6)).trans ((gRd_n _ _ (gNe h1 h5)).trans ((gRd_n _ _ (gNe h1 h4)).trans ((gRd_n _ _ (gNe h1 h3)).trans ((gRd_n _ _ (gNe h1 h2)).trans (h1)))))) rfl) rfl ?_
        refine Go.trp 141 (go_iload_n d_Sum_addUp_140 rfl 3 rfl) rfl ?_
        refine Go.trp 142 (go_iald (j := k) d_Sum_addUp_141 (gRd_s _ _ _) (rfl) (by omega) (by omega)) rfl ?_
        refine Go.trp 144 (go_iload d_Sum_addUp_142 4 rfl) rfl ?_
        refine Go.trp 146 (go_bipush (v := 45) d_Sum_addUp_144 (by decide)) rfl ?_
        by_cases c6 : (c k) = 45
        · refine Go.trp 149 (go_icmp_ne_f 153 d_Sum_addUp_146 (by decide) (c6)) rfl ?_
          refine Go.trp 150 (go_iconst (v := 1) d_Sum_addUp_149 (by decide)) rfl ?_
          refine Go.trp 154 (go_goto 154 d_Sum_addUp_150 (by decide)) rfl ?_
          refine Go.trp 155 (go_iadd d_Sum_addUp_154) rfl ?_
          refine Go.trp 156 (go_iast (j := (k + 1)) d_Sum_addUp_155 (gRd_s _ _ _) (rfl) (by omega) (by omega)) rfl ?_
          refine (go_m (M' := (gWr (gWr (gWr (gWr (gWr M sw (aI G 121 (upd (smI (wdI wo c s) W k) (k + 1) (((smI (wdI wo c s) W k) k) + (wo ((wIx (c k)).toNatClampNeg)))))) ss (aI G 121 (upd (smI (stI s) ST k) (k + 1) (((smI (stI s) ST k) k) + (((s k) + 1) / 2))))) sh (aI G 121 (upd (smI (shI s) SH k) (k + 1) (((smI (shI s) SH k) k) + ((s k) / 3))))) sl (aI G 121 (upd (smI (leI c) L k) (k + 1) (((smI (leI c) L k) k) + 0)))) sd (aI G 121 (upd (smI (daI c) DD k) (k + 1) (((smI (daI c) DD k) k) + 1))))) (gWr_wr (gWr (gWr (gWr (gWr M sw (aI G 121 (upd (smI (wdI wo c s) W k) (k + 1) (((smI (wdI wo c s) W k) k) + (wo ((wIx (c k)).toNatClampNeg)))))) ss (aI G 121 (upd (smI (stI s) ST k) (k + 1) (((smI (stI s) ST k) k) + (((s k) + 1) / 2))))) sh (aI G 121 (upd (smI (shI s) SH k) (k + 1) (((smI (shI s) SH k) k) + ((s k) / 3))))) sl (aI G 121 (upd (smI (leI c) L k) (k + 1) (((smI (leI c) L k) k) + 0)))) sd (aI G 121 (smI (daI c) DD k)) (aI G 121 (upd (smI (daI c) DD k) (k + 1) (((smI (daI c) DD k) k) + 1))))).tr ?_
          refine Go.trp 159 (go_inc1 (n0 := 3) (x := k) [(3, .int (nI (k + 1))), (0, .ref sm), (1, .ref t), (2, .ref w0), (4, .int (c k)), (5, .int (s k))] d_Sum_addUp_156 rfl (by decide) rfl) rfl ?_
          refine (go_pick [1, 2, 3, 0, 4, 5] [(0, .ref sm), (1, .ref t), (2, .ref w0), (3, .int (nI (k + 1))), (4, .int (c k)), (5, .int (s k))] rfl).tr ?_
          refine Go.trp 2 (go_goto 2 d_Sum_addUp_159 (by decide)) rfl ?_
          refine (go_pick [0, 1, 2, 3] [(0, .ref sm), (1, .ref t), (2, .ref w0), (3, .int (nI (k + 1)))] rfl).tr ?_
          have e_sw : smI (wdI wo c s) W (k + 1) = upd (smI (wdI wo c s) W k) (k + 1) (((smI (wdI wo c s) W k) k) + (wo ((wIx (c k)).toNatClampNeg))) := by simp only [smI, wdI]; first | rw [if_pos (by assumption)] | rw [if_neg (fun h => by rw [‹cWid (c k) = false›] at h; cases h)]
          have e_ss : smI (stI s) ST (k + 1) = upd (smI (stI s) ST k) (k + 1) (((smI (stI s) ST k) k) + (((s k) + 1) / 2)) := by rfl
          have e_sh : smI (shI s) SH (k + 1) = upd (smI (shI s) SH k) (k + 1) (((smI (shI s) SH k) k) + ((s k) / 3)) := by rfl
          have e_sl : smI (leI c) L (k + 1) = upd (smI (leI c) L k) (k + 1) (((smI (leI c) L k) k) + 0) := by simp only [smI, leI]; first | rw [bI_t (by assumption)] | rw [bI_f (by assumption)]
          have e_sd : smI (daI c) DD (k + 1) = upd (smI (daI c) DD k) (k + 1) (((smI (daI c) DD k) k) + 1) := by simp only [smI, daI]; first | rw [bI_t (decide_eq_true (by assumption))] | rw [bI_f (decide_eq_false (by assumption))]
          have h9 := ih (k + 1) (by omega)
          rw [e_sw, e_ss, e_sh, e_sl, e_sd] at h9
          exact h9
        · refine Go.trp 153 (go_icmp_ne_t 153 d_Sum_addUp_146 (by decide) (c6)) rfl ?_
          refine Go.trp 154 (go_iconst (v := 0) d_Sum_addUp_153 (by decide)) rfl ?_
          refine Go.trp 155 (go_iadd d_Sum_addUp_154) rfl ?_
          refine Go.trp 156 (go_iast (j := (k + 1)) d_Sum_addUp_155 (gRd_s _ _ _) (rfl) (by omega) (by omega)) rfl ?_
          refine (go_m (M' := (gWr (gWr (gWr (gWr (gWr M sw (aI G 121 (upd (smI (wdI wo c s) W k) (k + 1) (((smI (wdI wo c s) W k) k) + (wo ((wIx (c k)).toNatClampNeg)))))) ss (aI G 121 (upd (smI (stI s) ST k) (k + 1) (((smI (stI s) ST k) k) + (((s k) + 1) / 2))))) sh (aI G 121 (upd (smI (shI s) SH k) (k + 1) (((smI (shI s) SH k) k) + ((s k) / 3))))) sl (aI G 121 (upd (smI (leI c) L k) (k + 1) (((smI (leI c) L k) k) + 0)))) sd (aI G 121 (upd (smI (daI c) DD k) (k + 1) (((smI (daI c) DD k) k) + 0))))) (gWr_wr (gWr (gWr (gWr (gWr M sw (aI G 121 (upd (smI (wdI wo c s) W k) (k + 1) (((smI (wdI wo c s) W k) k) + (wo ((wIx (c k)).toNatClampNeg)))))) ss (aI G 121 (upd (smI (stI s) ST k) (k + 1) (((smI (stI s) ST k) k) + (((s k) + 1) / 2))))) sh (aI G 121 (upd (smI (shI s) SH k) (k + 1) (((smI (shI s) SH k) k) + ((s k) / 3))))) sl (aI G 121 (upd (smI (leI c) L k) (k + 1) (((smI (leI c) L k) k) + 0)))) sd (aI G 121 (smI (daI c) DD k)) (aI G 121 (upd (smI (daI c) DD k) (k + 1) (((smI (daI c) DD k) k) + 0))))).tr ?_
          refine Go.trp 159 (go_inc1 (n0 := 3) (x := k) [(3, .int (nI (k + 1))), (0, .ref sm), (1, .ref t), (2, .ref w0), (4, .int (c k)), (5, .int (s k))] d_Sum_addUp_156 rfl (by decide) rfl) rfl ?_
          refine (go_pick [1, 2, 3, 0, 4, 5] [(0, .ref sm), (1, .ref t), (2, .ref w0), (3, .int (nI (k + 1))), (4, .int (c k)), (5, .int (s k))] rfl).tr ?_
          refine Go.trp 2 (go_goto 2 d_Sum_addUp_159 (by decide)) rfl ?_
          refine (go_pick [0, 1, 2, 3] [(0, .ref sm), (1, .ref t), (2, .ref w0), (3, .int (nI (k + 1)))] rfl).tr ?_
          have e_sw : smI (wdI wo c s) W (k + 1) = upd (smI (wdI wo c s) W k) (k + 1) (((smI (wdI wo c s) W k) k) + (wo ((wIx (c k)).toNatClampNeg))) := by simp only [smI, wdI]; first | rw [if_pos (by assumption)] | rw [if_neg (fun h => by rw [‹cWid (c k) = false›] at h; cases h)]
          have e_ss : smI (stI s) ST (k + 1) = upd (smI (stI s) ST k) (k + 1) (((smI (stI s) ST k) k) + (((s k) + 1) / 2)) := by rfl
          have e_sh : smI (shI s) SH (k + 1) = upd (smI (shI s) SH k) (k + 1) (((smI (shI s) SH k) k) + ((s k) / 3)) := by rfl
          have e_sl : smI (leI c) L (k + 1) = upd (smI (leI c) L k) (k + 1) (((smI (leI c) L k) k) + 0) := by simp only [smI, leI]; first | rw [bI_t (by assumption)] | rw [bI_f (by assumption)]
          have e_sd : smI (daI c) DD (k + 1) = upd (smI (daI c) DD k) (k + 1) (((smI (daI c) DD k) k) + 0) := by simp only [smI, daI]; first | rw [bI_t (decide_eq_true (by assumption))] | rw [bI_f (decide_eq_false (by assumption))]
          have h9 := ih (k + 1) (by omega)
          rw [e_sw, e_ss, e_sh, e_sl, e_sd] at h9
          exact h9
      · have c5x : (cLet (c k)) = true := bI_n0.mp c5
        refine Go.trp 122 (go_if_eq_f 126 d_Sum_addUp_119 (by decide) (c5)) rfl ?_
        refine Go.trp 123 (go_iconst (v := 1) d_Sum_addUp_122 (by decide)) rfl ?_
        refine Go.trp 127 (go_goto 127 d_Sum_addUp_123 (by decide)) rfl ?_
        refine Go.trp 128 (go_iadd d_Sum_addUp_127) rfl ?_
        refine Go.trp 129 (go_iast (j := (k + 1)) d_Sum_addUp_128 ((gRd_n _ _ (ndN hN 3 4 rfl rfl (by decide))).trans (gRd_s _ _ _)) (rfl) (by omega) (by omega)) rfl ?_
        refine (go_m (M' := (gWr (gWr (gWr (gWr (gWr M sw (aI G 121 (upd (smI (wdI wo c s) W k) (k + 1) (((smI (wdI wo c s) W k) k) + (wo ((wIx (c k)).toNatClampNeg)))))) ss (aI G 121 (upd (smI (stI s) ST k) (k + 1) (((smI (stI s) ST k) k) + (((s k) + 1) / 2))))) sh (aI G 121 (upd (smI (shI s) SH k) (k + 1) (((smI (shI s) SH k) k) + ((s k) / 3))))) sl (aI G 121 (upd (smI (leI c) L k) (k + 1) (((smI (leI c) L k) k) + 1)))) sd (aI G 121 (smI (daI c) DD k)))) ((gWr_cm (gWr (gWr (gWr (gWr M sw (aI G 121 (upd (smI (wdI wo c s) W k) (k + 1) (((smI (wdI wo c s) W k) k) + (wo ((wIx (c k)).toNatClampNeg)))))) ss (aI G 121 (upd (smI (stI s) ST k) (k + 1) (((smI (stI s) ST k) k) + (((s k) + 1) / 2))))) sh (aI G 121 (upd (smI (shI s) SH k) (k + 1) (((smI (shI s) SH k) k) + ((s k) / 3))))) sl (aI G 121 (smI (leI c) L k))) (aI G 121 (smI (daI c) DD k)) (aI G 121 (upd (smI (leI c) L k) (k + 1) (((smI (leI c) L k) k) + 1))) (Ne.symm (ndN hN 3 4 rfl rfl (by decide)))).trans (congrArg (fun m => gWr m sd (aI G 121 (smI (daI c) DD k))) (gWr_wr (gWr (gWr (gWr M sw (aI G 121 (upd (smI (wdI wo c s) W k) (k + 1) (((smI (wdI wo c s) W k) k) + (wo ((wIx (c k)).toNatClampNeg)))))) ss (aI G 121 (upd (smI (stI s) ST k) (k + 1) (((smI (stI s) ST k) k) + (((s k) + 1) / 2))))) sh (aI G 121 (upd (smI (shI s) SH k) (k + 1) (((smI (shI s) SH k) k) + ((s k) / 3))))) sl (aI G 121 (smI (leI c) L k)) (aI G 121 (upd (smI (leI c) L k) (k + 1) (((smI (leI c) L k) k) + 1))))))).tr ?_
        refine Go.trp 130 (go_aload_n d_Sum_addUp_129 rfl 0 rfl) rfl ?_
        refine Go.trp 133 (go_get f_Sum_24 d_Sum_addUp_130 ((gRd_n _ _ (gNe h1 h6)).trans ((gRd_n _ _ (gNe h1 h5)).trans ((gRd_n _ _ (gNe h1 h4)).trans ((gRd_n _ _ (gNe h1 h3)).trans ((gRd_n _ _ (gNe h1 h2)).trans (h1)))))) rfl) rfl ?_
        refine Go.trp 134 (go_iload_n d_Sum_addUp_133 rfl 3 rfl) rfl ?_
        refine Go.trp 135 (go_iconst (v := 1) d_Sum_addUp_134 (by decide)) rfl ?_
        refine Go.trp 136 (go_iadd d_Sum_addUp_135) rfl ?_
        refine (go_v (y := nI (k + 1)) (nI_1 k)).tr ?_
        refine Go.trp 137 (go_aload_n d_Sum_addUp_136 rfl 0 rfl) rfl ?_
        refine Go.trp 140 (go_get f_Sum_24 d_Sum_addUp_137 ((gRd_n _ _ (gNe h1 h6)).trans ((gRd_n _ _ (gNe h1 h5)).trans ((gRd_n _ _ (gNe h1 h4)).trans ((gRd_n _ _ (gNe h1 h3)).trans ((gRd_n _ _ (gNe h1 h2)).trans (h1)))))) rfl) rfl ?_
        refine Go.trp 141 (go_iload_n d_Sum_addUp_140 rfl 3 rfl) rfl ?_
        refine Go.trp 142 (go_iald (j := k) d_Sum_addUp_141 (gRd_s _ _ _) (rfl) (by omega) (by omega)) rfl ?_
        refine Go.trp 144 (go_iload d_Sum_addUp_142 4 rfl) rfl ?_
        refine Go.trp 146 (go_bipush (v := 45) d_Sum_addUp_144 (by decide)) rfl ?_
        by_cases c7 : (c k) = 45
        · refine Go.trp 149 (go_icmp_ne_f 153 d_Sum_addUp_146 (by decide) (c7)) rfl ?_
          refine Go.trp 150 (go_iconst (v := 1) d_Sum_addUp_149 (by decide)) rfl ?_
          refine Go.trp 154 (go_goto 154 d_Sum_addUp_150 (by decide)) rfl ?_
          refine Go.trp 155 (go_iadd d_Sum_addUp_154) rfl ?_
          refine Go.trp 156 (go_iast (j := (k + 1)) d_Sum_addUp_155 (gRd_s _ _ _) (rfl) (by omega) (by omega)) rfl ?_
          refine (go_m (M' := (gWr (gWr (gWr (gWr (gWr M sw (aI G 121 (upd (smI (wdI wo c s) W k) (k + 1) (((smI (wdI wo c s) W k) k) + (wo ((wIx (c k)).toNatClampNeg)))))) ss (aI G 121 (upd (smI (stI s) ST k) (k + 1) (((smI (stI s) ST k) k) + (((s k) + 1) / 2))))) sh (aI G 121 (upd (smI (shI s) SH k) (k + 1) (((smI (shI s) SH k) k) + ((s k) / 3))))) sl (aI G 121 (upd (smI (leI c) L k) (k + 1) (((smI (leI c) L k) k) + 1)))) sd (aI G 121 (upd (smI (daI c) DD k) (k + 1) (((smI (daI c) DD k) k) + 1))))) (gWr_wr (gWr (gWr (gWr (gWr M sw (aI G 121 (upd (smI (wdI wo c s) W k) (k + 1) (((smI (wdI wo c s) W k) k) + (wo ((wIx (c k)).toNatClampNeg)))))) ss (aI G 121 (upd (smI (stI s) ST k) (k + 1) (((smI (stI s) ST k) k) + (((s k) + 1) / 2))))) sh (aI G 121 (upd (smI (shI s) SH k) (k + 1) (((smI (shI s) SH k) k) + ((s k) / 3))))) sl (aI G 121 (upd (smI (leI c) L k) (k + 1) (((smI (leI c) L k) k) + 1)))) sd (aI G 121 (smI (daI c) DD k)) (aI G 121 (upd (smI (daI c) DD k) (k + 1) (((smI (daI c) DD k) k) + 1))))).tr ?_
          refine Go.trp 159 (go_inc1 (n0 := 3) (x := k) [(3, .int (nI (k + 1))), (0, .ref sm), (1, .ref t), (2, .ref w0), (4, .int (c k)), (5, .int (s k))] d_Sum_addUp_156 rfl (by decide) rfl) rfl ?_
          refine (go_pick [1, 2, 3, 0, 4, 5] [(0, .ref sm), (1, .ref t), (2, .ref w0), (3, .int (nI (k + 1))), (4, .int (c k)), (5, .int (s k))] rfl).tr ?_
          refine Go.trp 2 (go_goto 2 d_Sum_addUp_159 (by decide)) rfl ?_
          refine (go_pick [0, 1, 2, 3] [(0, .ref sm), (1, .ref t), (2, .ref w0), (3, .int (nI (k + 1)))] rfl).tr ?_
          have e_sw : smI (wdI wo c s) W (k + 1) = upd (smI (wdI wo c s) W k) (k + 1) (((smI (wdI wo c s) W k) k) + (wo ((wIx (c k)).toNatClampNeg))) := by simp only [smI, wdI]; first | rw [if_pos (by assumption)] | rw [if_neg (fun h => by rw [‹cWid (c k) = false›] at h; cases h)]
          have e_ss : smI (stI s) ST (k + 1) = upd (smI (stI s) ST k) (k + 1) (((smI (stI s) ST k) k) + (((s k) + 1) / 2)) := by rfl
          have e_sh : smI (shI s) SH (k + 1) = upd (smI (shI s) SH k) (k + 1) (((smI (shI s) SH k) k) + ((s k) / 3)) := by rfl
          have e_sl : smI (leI c) L (k + 1) = upd (smI (leI c) L k) (k + 1) (((smI (leI c) L k) k) + 1) := by simp only [smI, leI]; first | rw [bI_t (by assumption)] | rw [bI_f (by assumption)]
          have e_sd : smI (daI c) DD (k + 1) = upd (smI (daI c) DD k) (k + 1) (((smI (daI c) DD k) k) + 1) := by simp only [smI, daI]; first | rw [bI_t (decide_eq_true (by assumption))] | rw [bI_f (decide_eq_false (by assumption))]
          have h9 := ih (k + 1) (by omega)
          rw [e_sw, e_ss, e_sh, e_sl, e_sd] at h9
          exact h9
        · refine Go.trp 153 (go_icmp_ne_t 153 d_Sum_addUp_146 (by decide) (c7)) rfl ?_
          refine Go.trp 154 (go_iconst (v := 0) d_Sum_addUp_153 (by decide)) rfl ?_
          refine Go.trp 155 (go_iadd d_Sum_addUp_154) rfl ?_
          refine Go.trp 156 (go_iast (j := (k + 1)) d_Sum_addUp_155 (gRd_s _ _ _) (rfl) (by omega) (by omega)) rfl ?_
          refine (go_m (M' := (gWr (gWr (gWr (gWr (gWr M sw (aI G 121 (upd (smI (wdI wo c s) W k) (k + 1) (((smI (wdI wo c s) W k) k) + (wo ((wIx (c k)).toNatClampNeg)))))) ss (aI G 121 (upd (smI (stI s) ST k) (k + 1) (((smI (stI s) ST k) k) + (((s k) + 1) / 2))))) sh (aI G 121 (upd (smI (shI s) SH k) (k + 1) (((smI (shI s) SH k) k) + ((s k) / 3))))) sl (aI G 121 (upd (smI (leI c) L k) (k + 1) (((smI (leI c) L k) k) + 1)))) sd (aI G 121 (upd (smI (daI c) DD k) (k + 1) (((smI (daI c) DD k) k) + 0))))) (gWr_wr (gWr (gWr (gWr (gWr M sw (aI G 121 (upd (smI (wdI wo c s) W k) (k + 1) (((smI (wdI wo c s) W k) k) + (wo ((wIx (c k)).toNatClampNeg)))))) ss (aI G 121 (upd (smI (stI s) ST k) (k + 1) (((smI (stI s) ST k) k) + (((s k) + 1) / 2))))) sh (aI G 121 (upd (smI (shI s) SH k) (k + 1) (((smI (shI s) SH k) k) + ((s k) / 3))))) sl (aI G 121 (upd (smI (leI c) L k) (k + 1) (((smI (leI c) L k) k) + 1)))) sd (aI G 121 (smI (daI c) DD k)) (aI G 121 (upd (smI (daI c) DD k) (k + 1) (((smI (daI c) DD k) k) + 0))))).tr ?_
          refine Go.trp 159 (go_inc1 (n0 := 3) (x := k) [(3, .int (nI (k + 1))), (0, .ref sm), (1, .ref t), (2, .ref w0), (4, .int (c k)), (5, .int (s k))] d_Sum_addUp_156 rfl (by decide) rfl) rfl ?_
          refine (go_pick [1, 2, 3, 0, 4, 5] [(0, .ref sm), (1, .ref t), (2, .ref w0), (3, .int (nI (k + 1))), (4, .int (c k)), (5, .int (s k))] rfl).tr ?_
          refine Go.trp 2 (go_goto 2 d_Sum_addUp_159 (by decide)) rfl ?_
          refine (go_pick [0, 1, 2, 3] [(0, .ref sm), (1, .ref t), (2, .ref w0), (3, .int (nI (k + 1)))] rfl).tr ?_
          have e_sw : smI (wdI wo c s) W (k + 1) = upd (smI (wdI wo c s) W k) (k + 1) (((smI (wdI wo c s) W k) k) + (wo ((wIx (c k)).toNatClampNeg))) := by simp only [smI, wdI]; first | rw [if_pos (by assumption)] | rw [if_neg (fun h => by rw [‹cWid (c k) = false›] at h; cases h)]
          have e_ss : smI (stI s) ST (k + 1) = upd (smI (stI s) ST k) (k + 1) (((smI (stI s) ST k) k) + (((s k) + 1) / 2)) := by rfl
          have e_sh : smI (shI s) SH (k + 1) = upd (smI (shI s) SH k) (k + 1) (((smI (shI s) SH k) k) + ((s k) / 3)) := by rfl
          have e_sl : smI (leI c) L (k + 1) = upd (smI (leI c) L k) (k + 1) (((smI (leI c) L k) k) + 1) := by simp only [smI, leI]; first | rw [bI_t (by assumption)] | rw [bI_f (by assumption)]
          have e_sd : smI (daI c) DD (k + 1) = upd (smI (daI c) DD k) (k + 1) (((smI (daI c) DD k) k) + 0) := by simp only [smI, daI]; first | rw [bI_t (decide_eq_true (by assumption))] | rw [bI_f (decide_eq_false (by assumption))]
          have h9 := ih (k + 1) (by omega)
          rw [e_sw, e_ss, e_sh, e_sl, e_sd] at h9
          exact h9
theorem e_Sum_addUp (G : gG) (M : gM) (sm sw ss sh sl sd t tc ts tn w0 : Nat) (W ST SH L DD c s wo : Nat → Int32) (h1 : gRd M sm = some (.inr (7, [.ref sw, .ref ss, .ref sh, .ref sl, .ref sd]))) (h2 : gRd M sw = some (aI G 121 W)) (h3 : gRd M ss = some (aI G 121 ST)) (h4 : gRd M sh = some (aI G 121 SH)) (h5 : gRd M sl = some (aI G 121 L)) (h6 : gRd M sd = some (aI G 121 DD)) (t1 : gRd M t = some (.inr (3, [.ref tc, .ref ts, .int (nI tn)]))) (t2 : gRd M tc = some (aI G 120 c)) (t3 : gRd M ts = some (aI G 120 s)) (w1 : gRd M w0 = some (aI G 27 wo)) (htn : tn ≤ 120) (hN : va_nd [sw, ss, sh, sl, sd, tc, ts, w0] = true) : Ev G 2 m_Sum_addUp [.ref sm, .ref t, .ref w0] M none (gWr (gWr (gWr (gWr (gWr M sw (aI G 121 (smI (wdI wo c s) W tn))) ss (aI G 121 (smI (stI s) ST tn))) sh (aI G 121 (smI (shI s) SH tn))) sl (aI G 121 (smI (leI c) L tn))) sd (aI G 121 (smI (daI c) DD tn))) := by
  refine Ev.of (Nat.le_of_ble_eq_true rfl) ?_
  show EvF G 2 m_Sum_addUp (0, [(0, .ref sm), (1, .ref t), (2, .ref w0)], [], M) _ _
  refine EvF.gop 1 (go_iconst (v := nI 0) d_Sum_addUp_0 (rfl)) rfl ?_
  refine EvF.gop 2 (go_istore_n [(3, .int (nI 0)), (0, .ref sm), (1, .ref t), (2, .ref w0)] d_Sum_addUp_1 rfl (by decide) rfl) rfl ?_
  refine EvF.go (go_pick [1, 2, 3, 0] [(0, .ref sm), (1, .ref t), (2, .ref w0), (3, .int (nI 0))] rfl) ?_
  refine EvF.go (go_m (M' := (gWr M sw (aI G 121 W))) (gWr_id (h2)).symm) ?_
  refine EvF.go (go_m (M' := (gWr (gWr M sw (aI G 121 W)) ss (aI G 121 ST))) (gWr_id ((gRd_n _ _ (Ne.symm (ndN hN 0 1 rfl rfl (by decide)))).trans (h3))).symm) ?_
  refine EvF.go (go_m (M' := (gWr (gWr (gWr M sw (aI G 121 W)) ss (aI G 121 ST)) sh (aI G 121 SH))) (gWr_id ((gRd_n _ _ (Ne.symm (ndN hN 1 2 rfl rfl (by decide)))).trans ((gRd_n _ _ (Ne.symm (ndN hN 0 2 rfl rfl (by decide)))).trans (h4)))).symm) ?_
  refine EvF.go (go_m (M' := (gWr (gWr (gWr (gWr M sw (aI G 121 W)) ss (aI G 121 ST)) sh (aI G 121 SH)) sl (aI G 121 L))) (gWr_id ((gRd_n _ _ (Ne.symm (ndN hN 2 3 rfl rfl (by decide)))).trans ((gRd_n _ _ (Ne.symm (ndN hN 1 3 rfl rfl (by decide)))).trans ((gRd_n _ _ (Ne.symm (ndN hN 0 3 rfl rfl (by decide)))).trans (h5))))).symm) ?_
  refine EvF.go (go_m (M' := (gWr (gWr (gWr (gWr (gWr M sw (aI G 121 W)) ss (aI G 121 ST)) sh (aI G 121 SH)) sl (aI G 121 L)) sd (aI G 121 DD))) (gWr_id ((gRd_n _ _ (Ne.symm (ndN hN 3 4 rfl rfl (by decide)))).trans ((gRd_n _ _ (Ne.symm (ndN hN 2 4 rfl rfl (by decide)))).trans ((gRd_n _ _ (Ne.symm (ndN hN 1 4 rfl rfl (by decide)))).trans ((gRd_n _ _ (Ne.symm (ndN hN 0 4 rfl rfl (by decide)))).trans (h6)))))).symm) ?_
  refine EvF.go (g_Sum_addUp G M sm sw ss sh sl sd t tc ts tn w0 W ST SH L DD c s wo h1 h2 h3 h4 h5 h6 t1 t2 t3 w1 htn hN tn 0 (by omega)) ?_
  exact EvF.rv d_Sum_addUp_162 rfl rfl
