/-- isLetter -/
theorem e_PS_isLetter (G : gG) (M : gM) (c : Int32) : Ev G 0 m_PS_isLetter [.int c] M (some (.int (bI (cLet c)))) M := by
  refine Ev.of (Nat.le_of_ble_eq_true rfl) ?_
  show EvF G 0 m_PS_isLetter (0, [(0, .int c)], [], M) _ _
  refine EvF.gop 1 (go_iload_n d_PS_isLetter_0 rfl 0 rfl) rfl ?_
  refine EvF.gop 3 (go_bipush (v := 97) d_PS_isLetter_1 (by decide)) rfl ?_
  by_cases c1 : c < 97
  · have c1x : ¬ 97 ≤ c := Int32.not_le.mpr c1
    refine EvF.gop 16 (go_icmp_lt_t 16 d_PS_isLetter_3 (by decide) (c1)) rfl ?_
    refine EvF.gop 17 (go_iconst (v := 0) d_PS_isLetter_16 (by decide)) rfl ?_
    exact EvF.rz d_PS_isLetter_17 rfl (by decide) (by simp [bI, cLet, *]) (rfl)
  · have c1x : 97 ≤ c := Int32.not_lt.mp c1
    refine EvF.gop 6 (go_icmp_lt_f 16 d_PS_isLetter_3 (by decide) (c1)) rfl ?_
    refine EvF.gop 7 (go_iload_n d_PS_isLetter_6 rfl 0 rfl) rfl ?_
    refine EvF.gop 9 (go_bipush (v := 122) d_PS_isLetter_7 (by decide)) rfl ?_
    by_cases c2 : 122 < c
    · have c2x : ¬ c ≤ 122 := Int32.not_le.mpr c2
      refine EvF.gop 16 (go_icmp_gt_t 16 d_PS_isLetter_9 (by decide) (c2)) rfl ?_
      refine EvF.gop 17 (go_iconst (v := 0) d_PS_isLetter_16 (by decide)) rfl ?_
      exact EvF.rz d_PS_isLetter_17 rfl (by decide) (by simp [bI, cLet, *]) (rfl)
    · have c2x : c ≤ 122 := Int32.not_lt.mp c2
      refine EvF.gop 12 (go_icmp_gt_f 16 d_PS_isLetter_9 (by decide) (c2)) rfl ?_
      refine EvF.gop 13 (go_iconst (v := 1) d_PS_isLetter_12 (by decide)) rfl ?_
      refine EvF.gop 17 (go_goto 17 d_PS_isLetter_13 (by decide)) rfl ?_
      exact EvF.rz d_PS_isLetter_17 rfl (by decide) (by simp [bI, cLet, *]) (rfl)
/-- isDigit -/
theorem e_PS_isDigit (G : gG) (M : gM) (c : Int32) : Ev G 0 m_PS_isDigit [.int c] M (some (.int (bI (cDig c)))) M := by
  refine Ev.of (Nat.le_of_ble_eq_true rfl) ?_
  show EvF G 0 m_PS_isDigit (0, [(0, .int c)], [], M) _ _
  refine EvF.gop 1 (go_iload_n d_PS_isDigit_0 rfl 0 rfl) rfl ?_
  refine EvF.gop 3 (go_bipush (v := 48) d_PS_isDigit_1 (by decide)) rfl ?_
  by_cases c1 : c < 48
  · have c1x : ¬ 48 ≤ c := Int32.not_le.mpr c1
    refine EvF.gop 16 (go_icmp_lt_t 16 d_PS_isDigit_3 (by decide) (c1)) rfl ?_
    refine EvF.gop 17 (go_iconst (v := 0) d_PS_isDigit_16 (by decide)) rfl ?_
    exact EvF.rz d_PS_isDigit_17 rfl (by decide) (by simp [bI, cDig, *]) (rfl)
  · have c1x : 48 ≤ c := Int32.not_lt.mp c1
    refine EvF.gop 6 (go_icmp_lt_f 16 d_PS_isDigit_3 (by decide) (c1)) rfl ?_
    refine EvF.gop 7 (go_iload_n d_PS_isDigit_6 rfl 0 rfl) rfl ?_
    refine EvF.gop 9 (go_bipush (v := 57) d_PS_isDigit_7 (by decide)) rfl ?_
    by_cases c2 : 57 < c
    · have c2x : ¬ c ≤ 57 := Int32.not_le.mpr c2
      refine EvF.gop 16 (go_icmp_gt_t 16 d_PS_isDigit_9 (by decide) (c2)) rfl ?_
      refine EvF.gop 17 (go_iconst (v := 0) d_PS_isDigit_16 (by decide)) rfl ?_
      exact EvF.rz d_PS_isDigit_17 rfl (by decide) (by simp [bI, cDig, *]) (rfl)
    · have c2x : c ≤ 57 := Int32.not_lt.mp c2
      refine EvF.gop 12 (go_icmp_gt_f 16 d_PS_isDigit_9 (by decide) (c2)) rfl ?_
      refine EvF.gop 13 (go_iconst (v := 1) d_PS_isDigit_12 (by decide)) rfl ?_
      refine EvF.gop 17 (go_goto 17 d_PS_isDigit_13 (by decide)) rfl ?_
      exact EvF.rz d_PS_isDigit_17 rfl (by decide) (by simp [bI, cDig, *]) (rfl)
/-- isMacroName -/
theorem e_PS_isMacroName (G : gG) (M : gM) (c : Int32) : Ev G 0 m_PS_isMacroName [.int c] M (some (.int (bI (cMac c)))) M := by
  refine Ev.of (Nat.le_of_ble_eq_true rfl) ?_
  show EvF G 0 m_PS_isMacroName (0, [(0, .int c)], [], M) _ _
  refine EvF.gop 1 (go_iload_n d_PS_isMacroName_0 rfl 0 rfl) rfl ?_
  refine EvF.gop 3 (go_bipush (v := 65) d_PS_isMacroName_1 (by decide)) rfl ?_
  by_cases c1 : c < 65
  · have c1x : ¬ 65 ≤ c := Int32.not_le.mpr c1
    refine EvF.gop 16 (go_icmp_lt_t 16 d_PS_isMacroName_3 (by decide) (c1)) rfl ?_
    refine EvF.gop 17 (go_iconst (v := 0) d_PS_isMacroName_16 (by decide)) rfl ?_
    exact EvF.rz d_PS_isMacroName_17 rfl (by decide) (by simp [bI, cMac, *]) (rfl)
  · have c1x : 65 ≤ c := Int32.not_lt.mp c1
    refine EvF.gop 6 (go_icmp_lt_f 16 d_PS_isMacroName_3 (by decide) (c1)) rfl ?_
    refine EvF.gop 7 (go_iload_n d_PS_isMacroName_6 rfl 0 rfl) rfl ?_
    refine EvF.gop 9 (go_bipush (v := 69) d_PS_isMacroName_7 (by decide)) rfl ?_
    by_cases c2 : 69 ≤ c
    · have c2x : ¬ c < 69 := Int32.not_lt.mpr c2
      refine EvF.gop 16 (go_icmp_ge_t 16 d_PS_isMacroName_9 (by decide) (c2)) rfl ?_
      refine EvF.gop 17 (go_iconst (v := 0) d_PS_isMacroName_16 (by decide)) rfl ?_
      exact EvF.rz d_PS_isMacroName_17 rfl (by decide) (by simp [bI, cMac, *]) (rfl)
    · have c2x : c < 69 := Int32.not_le.mp c2
      refine EvF.gop 12 (go_icmp_ge_f 16 d_PS_isMacroName_9 (by decide) (c2)) rfl ?_
      refine EvF.gop 13 (go_iconst (v := 1) d_PS_isMacroName_12 (by decide)) rfl ?_
      refine EvF.gop 17 (go_goto 17 d_PS_isMacroName_13 (by decide)) rfl ?_
      exact EvF.rz d_PS_isMacroName_17 rfl (by decide) (by simp [bI, cMac, *]) (rfl)
/-- isSpace -/
theorem e_PS_isSpace (G : gG) (M : gM) (c : Int32) : Ev G 0 m_PS_isSpace [.int c] M (some (.int (bI (cSpc c)))) M := by
  refine Ev.of (Nat.le_of_ble_eq_true rfl) ?_
  show EvF G 0 m_PS_isSpace (0, [(0, .int c)], [], M) _ _
  refine EvF.gop 1 (go_iload_n d_PS_isSpace_0 rfl 0 rfl) rfl ?_
  refine EvF.gop 3 (go_bipush (v := 32) d_PS_isSpace_1 (by decide)) rfl ?_
  by_cases c1 : c = 32
  · refine EvF.gop 12 (go_icmp_eq_t 12 d_PS_isSpace_3 (by decide) (c1)) rfl ?_
    refine EvF.gop 13 (go_iconst (v := 1) d_PS_isSpace_12 (by decide)) rfl ?_
    refine EvF.gop 17 (go_goto 17 d_PS_isSpace_13 (by decide)) rfl ?_
    exact EvF.rz d_PS_isSpace_17 rfl (by decide) (by simp [bI, cSpc, *]) (rfl)
  · refine EvF.gop 6 (go_icmp_eq_f 12 d_PS_isSpace_3 (by decide) (c1)) rfl ?_
    refine EvF.gop 7 (go_iload_n d_PS_isSpace_6 rfl 0 rfl) rfl ?_
    refine EvF.gop 9 (go_bipush (v := 126) d_PS_isSpace_7 (by decide)) rfl ?_
    by_cases c2 : c = 126
    · refine EvF.gop 12 (go_icmp_ne_f 16 d_PS_isSpace_9 (by decide) (c2)) rfl ?_
      refine EvF.gop 13 (go_iconst (v := 1) d_PS_isSpace_12 (by decide)) rfl ?_
      refine EvF.gop 17 (go_goto 17 d_PS_isSpace_13 (by decide)) rfl ?_
      exact EvF.rz d_PS_isSpace_17 rfl (by decide) (by simp [bI, cSpc, *]) (rfl)
    · refine EvF.gop 16 (go_icmp_ne_t 16 d_PS_isSpace_9 (by decide) (c2)) rfl ?_
      refine EvF.gop 17 (go_iconst (v := 0) d_PS_isSpace_16 (by decide)) rfl ?_
      exact EvF.rz d_PS_isSpace_17 rfl (by decide) (by simp [bI, cSpc, *]) (rfl)
/-- letter -/
theorem e_Mod_letter (G : gG) (M : gM) (c : Int32) : Ev G 0 m_Mod_letter [.int c] M (some (.int (bI (cLet c)))) M := by
  refine Ev.of (Nat.le_of_ble_eq_true rfl) ?_
  show EvF G 0 m_Mod_letter (0, [(0, .int c)], [], M) _ _
  refine EvF.gop 1 (go_iload_n d_Mod_letter_0 rfl 0 rfl) rfl ?_
  refine EvF.gop 3 (go_bipush (v := 97) d_Mod_letter_1 (by decide)) rfl ?_
  by_cases c1 : c < 97
  · have c1x : ¬ 97 ≤ c := Int32.not_le.mpr c1
    refine EvF.gop 16 (go_icmp_lt_t 16 d_Mod_letter_3 (by decide) (c1)) rfl ?_
    refine EvF.gop 17 (go_iconst (v := 0) d_Mod_letter_16 (by decide)) rfl ?_
    exact EvF.rz d_Mod_letter_17 rfl (by decide) (by simp [bI, cLet, *]) (rfl)
  · have c1x : 97 ≤ c := Int32.not_lt.mp c1
    refine EvF.gop 6 (go_icmp_lt_f 16 d_Mod_letter_3 (by decide) (c1)) rfl ?_
    refine EvF.gop 7 (go_iload_n d_Mod_letter_6 rfl 0 rfl) rfl ?_
    refine EvF.gop 9 (go_bipush (v := 122) d_Mod_letter_7 (by decide)) rfl ?_
    by_cases c2 : 122 < c
    · have c2x : ¬ c ≤ 122 := Int32.not_le.mpr c2
      refine EvF.gop 16 (go_icmp_gt_t 16 d_Mod_letter_9 (by decide) (c2)) rfl ?_
      refine EvF.gop 17 (go_iconst (v := 0) d_Mod_letter_16 (by decide)) rfl ?_
      exact EvF.rz d_Mod_letter_17 rfl (by decide) (by simp [bI, cLet, *]) (rfl)
    · have c2x : c ≤ 122 := Int32.not_lt.mp c2
      refine EvF.gop 12 (go_icmp_gt_f 16 d_Mod_letter_9 (by decide) (c2)) rfl ?_
      refine EvF.gop 13 (go_iconst (v := 1) d_Mod_letter_12 (by decide)) rfl ?_
      refine EvF.gop 17 (go_goto 17 d_Mod_letter_13 (by decide)) rfl ?_
      exact EvF.rz d_Mod_letter_17 rfl (by decide) (by simp [bI, cLet, *]) (rfl)
/-- digit -/
theorem e_Mod_digit (G : gG) (M : gM) (c : Int32) : Ev G 0 m_Mod_digit [.int c] M (some (.int (bI (cDig c)))) M := by
  refine Ev.of (Nat.le_of_ble_eq_true rfl) ?_
  show EvF G 0 m_Mod_digit (0, [(0, .int c)], [], M) _ _
  refine EvF.gop 1 (go_iload_n d_Mod_digit_0 rfl 0 rfl) rfl ?_
  refine EvF.gop 3 (go_bipush (v := 48) d_Mod_digit_1 (by decide)) rfl ?_
  by_cases c1 : c < 48
  · have c1x : ¬ 48 ≤ c := Int32.not_le.mpr c1
    refine EvF.gop 16 (go_icmp_lt_t 16 d_Mod_digit_3 (by decide) (c1)) rfl ?_
    refine EvF.gop 17 (go_iconst (v := 0) d_Mod_digit_16 (by decide)) rfl ?_
    exact EvF.rz d_Mod_digit_17 rfl (by decide) (by simp [bI, cDig, *]) (rfl)
  · have c1x : 48 ≤ c := Int32.not_lt.mp c1
    refine EvF.gop 6 (go_icmp_lt_f 16 d_Mod_digit_3 (by decide) (c1)) rfl ?_
    refine EvF.gop 7 (go_iload_n d_Mod_digit_6 rfl 0 rfl) rfl ?_
    refine EvF.gop 9 (go_bipush (v := 57) d_Mod_digit_7 (by decide)) rfl ?_
    by_cases c2 : 57 < c
    · have c2x : ¬ c ≤ 57 := Int32.not_le.mpr c2
      refine EvF.gop 16 (go_icmp_gt_t 16 d_Mod_digit_9 (by decide) (c2)) rfl ?_
      refine EvF.gop 17 (go_iconst (v := 0) d_Mod_digit_16 (by decide)) rfl ?_
      exact EvF.rz d_Mod_digit_17 rfl (by decide) (by simp [bI, cDig, *]) (rfl)
    · have c2x : c ≤ 57 := Int32.not_lt.mp c2
      refine EvF.gop 12 (go_icmp_gt_f 16 d_Mod_digit_9 (by decide) (c2)) rfl ?_
      refine EvF.gop 13 (go_iconst (v := 1) d_Mod_digit_12 (by decide)) rfl ?_
      refine EvF.gop 17 (go_goto 17 d_Mod_digit_13 (by decide)) rfl ?_
      exact EvF.rz d_Mod_digit_17 rfl (by decide) (by simp [bI, cDig, *]) (rfl)
/-- hasWidth -/
theorem e_PS_hasWidth (G : gG) (M : gM) (c : Int32) : Ev G 1 m_PS_hasWidth [.int c] M (some (.int (bI (cWid c)))) M := by
  refine Ev.of (Nat.le_of_ble_eq_true rfl) ?_
  show EvF G 1 m_PS_hasWidth (0, [(0, .int c)], [], M) _ _
  refine EvF.gop 1 (go_iload_n d_PS_hasWidth_0 rfl 0 rfl) rfl ?_
  refine EvF.gop 4 (go_callS [.int c] [.int (bI (cLet c))] c0_PS_isLetter sm_PS_isLetter lk_PS_205 d_PS_hasWidth_1 (e_PS_isLetter G M c) (by decide) rfl rfl (Nat.le_of_ble_eq_true rfl) rfl) rfl ?_
  by_cases c1 : (bI (cLet c)) = 0
  · have c1x : (cLet c) = false := bI_0.mp c1
    refine EvF.gop 7 (go_if_ne_f 13 d_PS_hasWidth_4 (by decide) (c1)) rfl ?_
    refine EvF.gop 8 (go_iload_n d_PS_hasWidth_7 rfl 0 rfl) rfl ?_
    refine EvF.gop 10 (go_bipush (v := 45) d_PS_hasWidth_8 (by decide)) rfl ?_
    by_cases c2 : c = 45
    · refine EvF.gop 13 (go_icmp_ne_f 17 d_PS_hasWidth_10 (by decide) (c2)) rfl ?_
      refine EvF.gop 14 (go_iconst (v := 1) d_PS_hasWidth_13 (by decide)) rfl ?_
      refine EvF.gop 18 (go_goto 18 d_PS_hasWidth_14 (by decide)) rfl ?_
      exact EvF.rz d_PS_hasWidth_18 rfl (by decide) (by simp [bI, cWid, *]) (rfl)
    · refine EvF.gop 17 (go_icmp_ne_t 17 d_PS_hasWidth_10 (by decide) (c2)) rfl ?_
      refine EvF.gop 18 (go_iconst (v := 0) d_PS_hasWidth_17 (by decide)) rfl ?_
      exact EvF.rz d_PS_hasWidth_18 rfl (by decide) (by simp [bI, cWid, *]) (rfl)
  · have c1x : (cLet c) = true := bI_n0.mp c1
    refine EvF.gop 13 (go_if_ne_t 13 d_PS_hasWidth_4 (by decide) (c1)) rfl ?_
    refine EvF.gop 14 (go_iconst (v := 1) d_PS_hasWidth_13 (by decide)) rfl ?_
    refine EvF.gop 18 (go_goto 18 d_PS_hasWidth_14 (by decide)) rfl ?_
    exact EvF.rz d_PS_hasWidth_18 rfl (by decide) (by simp [bI, cWid, *]) (rfl)
/-- isItem -/
theorem e_PS_isItem (G : gG) (M : gM) (c : Int32) : Ev G 2 m_PS_isItem [.int c] M (some (.int (bI (cItm c)))) M := by
  refine Ev.of (Nat.le_of_ble_eq_true rfl) ?_
  show EvF G 2 m_PS_isItem (0, [(0, .int c)], [], M) _ _
  refine EvF.gop 1 (go_iload_n d_PS_isItem_0 rfl 0 rfl) rfl ?_
  refine EvF.gop 4 (go_callS [.int c] [.int (bI (cWid c))] c0_PS_hasWidth sm_PS_hasWidth lk_PS_77 d_PS_isItem_1 (e_PS_hasWidth G M c) (by decide) rfl rfl (Nat.le_of_ble_eq_true rfl) rfl) rfl ?_
  by_cases c1 : (bI (cWid c)) = 0
  · have c1x : (cWid c) = false := bI_0.mp c1
    refine EvF.gop 7 (go_if_ne_f 20 d_PS_isItem_4 (by decide) (c1)) rfl ?_
    refine EvF.gop 8 (go_iload_n d_PS_isItem_7 rfl 0 rfl) rfl ?_
    refine EvF.gop 11 (go_callS [.int c] [.int (bI (cSpc c))] c0_PS_isSpace sm_PS_isSpace lk_PS_202 d_PS_isItem_8 (e_PS_isSpace G M c) (by decide) rfl rfl (Nat.le_of_ble_eq_true rfl) rfl) rfl ?_
    by_cases c2 : (bI (cSpc c)) = 0
    · have c2x : (cSpc c) = false := bI_0.mp c2
      refine EvF.gop 14 (go_if_ne_f 20 d_PS_isItem_11 (by decide) (c2)) rfl ?_
      refine EvF.gop 15 (go_iload_n d_PS_isItem_14 rfl 0 rfl) rfl ?_
      refine EvF.gop 17 (go_bipush (v := 124) d_PS_isItem_15 (by decide)) rfl ?_
      by_cases c3 : c = 124
      · refine EvF.gop 20 (go_icmp_ne_f 24 d_PS_isItem_17 (by decide) (c3)) rfl ?_
        refine EvF.gop 21 (go_iconst (v := 1) d_PS_isItem_20 (by decide)) rfl ?_
        refine EvF.gop 25 (go_goto 25 d_PS_isItem_21 (by decide)) rfl ?_
        exact EvF.rz d_PS_isItem_25 rfl (by decide) (by simp [bI, cItm, *]) (rfl)
      · refine EvF.gop 24 (go_icmp_ne_t 24 d_PS_isItem_17 (by decide) (c3)) rfl ?_
        refine EvF.gop 25 (go_iconst (v := 0) d_PS_isItem_24 (by decide)) rfl ?_
        exact EvF.rz d_PS_isItem_25 rfl (by decide) (by simp [bI, cItm, *]) (rfl)
    · have c2x : (cSpc c) = true := bI_n0.mp c2
      refine EvF.gop 20 (go_if_ne_t 20 d_PS_isItem_11 (by decide) (c2)) rfl ?_
      refine EvF.gop 21 (go_iconst (v := 1) d_PS_isItem_20 (by decide)) rfl ?_
      refine EvF.gop 25 (go_goto 25 d_PS_isItem_21 (by decide)) rfl ?_
      exact EvF.rz d_PS_isItem_25 rfl (by decide) (by simp [bI, cItm, *]) (rfl)
  · have c1x : (cWid c) = true := bI_n0.mp c1
    refine EvF.gop 20 (go_if_ne_t 20 d_PS_isItem_4 (by decide) (c1)) rfl ?_
    refine EvF.gop 21 (go_iconst (v := 1) d_PS_isItem_20 (by decide)) rfl ?_
    refine EvF.gop 25 (go_goto 25 d_PS_isItem_21 (by decide)) rfl ?_
    exact EvF.rz d_PS_isItem_25 rfl (by decide) (by simp [bI, cItm, *]) (rfl)
/-- isOfLine -/
theorem e_PS_isOfLine (G : gG) (M : gM) (c : Int32) : Ev G 3 m_PS_isOfLine [.int c] M (some (.int (bI (cLin c)))) M := by
  refine Ev.of (Nat.le_of_ble_eq_true rfl) ?_
  show EvF G 3 m_PS_isOfLine (0, [(0, .int c)], [], M) _ _
  refine EvF.gop 1 (go_iload_n d_PS_isOfLine_0 rfl 0 rfl) rfl ?_
  refine EvF.gop 4 (go_callS [.int c] [.int (bI (cItm c))] c0_PS_isItem sm_PS_isItem lk_PS_193 d_PS_isOfLine_1 (e_PS_isItem G M c) (by decide) rfl rfl (Nat.le_of_ble_eq_true rfl) rfl) rfl ?_
  by_cases c1 : (bI (cItm c)) = 0
  · have c1x : (cItm c) = false := bI_0.mp c1
    refine EvF.gop 7 (go_if_ne_f 51 d_PS_isOfLine_4 (by decide) (c1)) rfl ?_
    refine EvF.gop 8 (go_iload_n d_PS_isOfLine_7 rfl 0 rfl) rfl ?_
    refine EvF.gop 11 (go_callS [.int c] [.int (bI (cMac c))] c0_PS_isMacroName sm_PS_isMacroName lk_PS_196 d_PS_isOfLine_8 (e_PS_isMacroName G M c) (by decide) rfl rfl (Nat.le_of_ble_eq_true rfl) rfl) rfl ?_
    by_cases c2 : (bI (cMac c)) = 0
    · have c2x : (cMac c) = false := bI_0.mp c2
      refine EvF.gop 14 (go_if_ne_f 51 d_PS_isOfLine_11 (by decide) (c2)) rfl ?_
      refine EvF.gop 15 (go_iload_n d_PS_isOfLine_14 rfl 0 rfl) rfl ?_
      refine EvF.gop 18 (go_callS [.int c] [.int (bI (cDig c))] c0_PS_isDigit sm_PS_isDigit lk_PS_199 d_PS_isOfLine_15 (e_PS_isDigit G M c) (by decide) rfl rfl (Nat.le_of_ble_eq_true rfl) rfl) rfl ?_
      by_cases c3 : (bI (cDig c)) = 0
      · have c3x : (cDig c) = false := bI_0.mp c3
        refine EvF.gop 21 (go_if_ne_f 51 d_PS_isOfLine_18 (by decide) (c3)) rfl ?_
        refine EvF.gop 22 (go_iload_n d_PS_isOfLine_21 rfl 0 rfl) rfl ?_
        refine EvF.gop 24 (go_bipush (v := 123) d_PS_isOfLine_22 (by decide)) rfl ?_
        by_cases c4 : c = 123
        · refine EvF.gop 51 (go_icmp_eq_t 51 d_PS_isOfLine_24 (by decide) (c4)) rfl ?_
          refine EvF.gop 52 (go_iconst (v := 1) d_PS_isOfLine_51 (by decide)) rfl ?_
          refine EvF.gop 56 (go_goto 56 d_PS_isOfLine_52 (by decide)) rfl ?_
          exact EvF.rz d_PS_isOfLine_56 rfl (by decide) (by simp [bI, cLin, *]) (rfl)
        · refine EvF.gop 27 (go_icmp_eq_f 51 d_PS_isOfLine_24 (by decide) (c4)) rfl ?_
          refine EvF.gop 28 (go_iload_n d_PS_isOfLine_27 rfl 0 rfl) rfl ?_
          refine EvF.gop 30 (go_bipush (v := 125) d_PS_isOfLine_28 (by decide)) rfl ?_
          by_cases c5 : c = 125
          · refine EvF.gop 51 (go_icmp_eq_t 51 d_PS_isOfLine_30 (by decide) (c5)) rfl ?_
            refine EvF.gop 52 (go_iconst (v := 1) d_PS_isOfLine_51 (by decide)) rfl ?_
            refine EvF.gop 56 (go_goto 56 d_PS_isOfLine_52 (by decide)) rfl ?_
            exact EvF.rz d_PS_isOfLine_56 rfl (by decide) (by simp [bI, cLin, *]) (rfl)
          · refine EvF.gop 33 (go_icmp_eq_f 51 d_PS_isOfLine_30 (by decide) (c5)) rfl ?_
            refine EvF.gop 34 (go_iload_n d_PS_isOfLine_33 rfl 0 rfl) rfl ?_
            refine EvF.gop 36 (go_bipush (v := 35) d_PS_isOfLine_34 (by decide)) rfl ?_
            by_cases c6 : c = 35
            · refine EvF.gop 51 (go_icmp_eq_t 51 d_PS_isOfLine_36 (by decide) (c6)) rfl ?_
              refine EvF.gop 52 (go_iconst (v := 1) d_PS_isOfLine_51 (by decide)) rfl ?_
              refine EvF.gop 56 (go_goto 56 d_PS_isOfLine_52 (by decide)) rfl ?_
              exact EvF.rz d_PS_isOfLine_56 rfl (by decide) (by simp [bI, cLin, *]) (rfl)
            · refine EvF.gop 39 (go_icmp_eq_f 51 d_PS_isOfLine_36 (by decide) (c6)) rfl ?_
              refine EvF.gop 40 (go_iload_n d_PS_isOfLine_39 rfl 0 rfl) rfl ?_
              refine EvF.gop 42 (go_bipush (v := 61) d_PS_isOfLine_40 (by decide)) rfl ?_
              by_cases c7 : c = 61
              · refine EvF.gop 51 (go_icmp_eq_t 51 d_PS_isOfLine_42 (by decide) (c7)) rfl ?_
                refine EvF.gop 52 (go_iconst (v := 1) d_PS_isOfLine_51 (by decide)) rfl ?_
                refine EvF.gop 56 (go_goto 56 d_PS_isOfLine_52 (by decide)) rfl ?_
                exact EvF.rz d_PS_isOfLine_56 rfl (by decide) (by simp [bI, cLin, *]) (rfl)
              · refine EvF.gop 45 (go_icmp_eq_f 51 d_PS_isOfLine_42 (by decide) (c7)) rfl ?_
                refine EvF.gop 46 (go_iload_n d_PS_isOfLine_45 rfl 0 rfl) rfl ?_
                refine EvF.gop 48 (go_bipush (v := 46) d_PS_isOfLine_46 (by decide)) rfl ?_
                by_cases c8 : c = 46
                · refine EvF.gop 51 (go_icmp_ne_f 55 d_PS_isOfLine_48 (by decide) (c8)) rfl ?_
                  refine EvF.gop 52 (go_iconst (v := 1) d_PS_isOfLine_51 (by decide)) rfl ?_
                  refine EvF.gop 56 (go_goto 56 d_PS_isOfLine_52 (by decide)) rfl ?_
                  exact EvF.rz d_PS_isOfLine_56 rfl (by decide) (by simp [bI, cLin, *]) (rfl)
                · refine EvF.gop 55 (go_icmp_ne_t 55 d_PS_isOfLine_48 (by decide) (c8)) rfl ?_
                  refine EvF.gop 56 (go_iconst (v := 0) d_PS_isOfLine_55 (by decide)) rfl ?_
                  exact EvF.rz d_PS_isOfLine_56 rfl (by decide) (by simp [bI, cLin, *]) (rfl)
      · have c3x : (cDig c) = true := bI_n0.mp c3
        refine EvF.gop 51 (go_if_ne_t 51 d_PS_isOfLine_18 (by decide) (c3)) rfl ?_
        refine EvF.gop 52 (go_iconst (v := 1) d_PS_isOfLine_51 (by decide)) rfl ?_
        refine EvF.gop 56 (go_goto 56 d_PS_isOfLine_52 (by decide)) rfl ?_
        exact EvF.rz d_PS_isOfLine_56 rfl (by decide) (by simp [bI, cLin, *]) (rfl)
    · have c2x : (cMac c) = true := bI_n0.mp c2
      refine EvF.gop 51 (go_if_ne_t 51 d_PS_isOfLine_11 (by decide) (c2)) rfl ?_
      refine EvF.gop 52 (go_iconst (v := 1) d_PS_isOfLine_51 (by decide)) rfl ?_
      refine EvF.gop 56 (go_goto 56 d_PS_isOfLine_52 (by decide)) rfl ?_
      exact EvF.rz d_PS_isOfLine_56 rfl (by decide) (by simp [bI, cLin, *]) (rfl)
  · have c1x : (cItm c) = true := bI_n0.mp c1
    refine EvF.gop 51 (go_if_ne_t 51 d_PS_isOfLine_4 (by decide) (c1)) rfl ?_
    refine EvF.gop 52 (go_iconst (v := 1) d_PS_isOfLine_51 (by decide)) rfl ?_
    refine EvF.gop 56 (go_goto 56 d_PS_isOfLine_52 (by decide)) rfl ?_
    exact EvF.rz d_PS_isOfLine_56 rfl (by decide) (by simp [bI, cLin, *]) (rfl)
def wIx (c : Int32) : Int32 := if cLet c = true then c - 97 else 26
/-- widthIndex -/
theorem e_PS_widthIndex (G : gG) (M : gM) (c : Int32) : Ev G 1 m_PS_widthIndex [.int c] M (some (.int (wIx c))) M := by
  refine Ev.of (Nat.le_of_ble_eq_true rfl) ?_
  show EvF G 1 m_PS_widthIndex (0, [(0, .int c)], [], M) _ _
  refine EvF.gop 1 (go_iload_n d_PS_widthIndex_0 rfl 0 rfl) rfl ?_
  refine EvF.gop 4 (go_callS [.int c] [.int (bI (cLet c))] c0_PS_isLetter sm_PS_isLetter lk_PS_205 d_PS_widthIndex_1 (e_PS_isLetter G M c) (by decide) rfl rfl (Nat.le_of_ble_eq_true rfl) rfl) rfl ?_
  by_cases c1 : (bI (cLet c)) = 0
  · have c1x : (cLet c) = false := bI_0.mp c1
    refine EvF.gop 14 (go_if_eq_t 14 d_PS_widthIndex_4 (by decide) (c1)) rfl ?_
    refine EvF.gop 16 (go_bipush (v := 26) d_PS_widthIndex_14 (by decide)) rfl ?_
    exact EvF.ri d_PS_widthIndex_16 rfl (by simp [bI, wIx, *]) (rfl)
  · have c1x : (cLet c) = true := bI_n0.mp c1
    refine EvF.gop 7 (go_if_eq_f 14 d_PS_widthIndex_4 (by decide) (c1)) rfl ?_
    refine EvF.gop 8 (go_iload_n d_PS_widthIndex_7 rfl 0 rfl) rfl ?_
    refine EvF.gop 10 (go_bipush (v := 97) d_PS_widthIndex_8 (by decide)) rfl ?_
    refine EvF.gop 11 (go_isub d_PS_widthIndex_10) rfl ?_
    refine EvF.gop 16 (go_goto 16 d_PS_widthIndex_11 (by decide)) rfl ?_
    exact EvF.ri d_PS_widthIndex_16 rfl (by simp [bI, wIx, *]) (rfl)
