theorem e_Mod_typeR (G : gG) (M : gM) (A : Nat) (a : Nat → Nat) (s : Nat → Int32) (c : Int64) (x : Int32) (hI : InjA A a) (hA : gRd M A = some (.inr (11, oMod a s c))) (hx : cLin x = false) : Ev G 1 m_Mod_type [.ref A, .int x] M (some (.int (-1))) M := by
  have n32 : ¬ x = 32 := fun q => by subst q; revert hx; decide
  have n45 : ¬ x = 45 := fun q => by subst q; revert hx; decide
  have n126 : ¬ x = 126 := fun q => by subst q; revert hx; decide
  have n124 : ¬ x = 124 := fun q => by subst q; revert hx; decide
  have n123 : ¬ x = 123 := fun q => by subst q; revert hx; decide
  have n125 : ¬ x = 125 := fun q => by subst q; revert hx; decide
  have n35 : ¬ x = 35 := fun q => by subst q; revert hx; decide
  have n61 : ¬ x = 61 := fun q => by subst q; revert hx; decide
  have n46 : ¬ x = 46 := fun q => by subst q; revert hx; decide
  have nl : cLet x = false := by cases h : cLet x; rfl; simp [cLin, cItm, cWid, h] at hx
  have nd : cDig x = false := by cases h : cDig x; rfl; simp [cLin, h] at hx
  have nm : cMac x = false := by cases h : cMac x; rfl; simp [cLin, h] at hx
  refine Ev.of (Nat.le_of_ble_eq_true rfl) ?_
  show EvF G 1 m_Mod_type (0, [(0, .ref A), (1, .int x)], [], M) _ _
  refine EvF.gop 1 (go_iload_n d_Mod_type_0 rfl 1 rfl) rfl ?_
  refine EvF.gop 3 (go_bipush (v := 32) d_Mod_type_1 (by decide)) rfl ?_
  refine EvF.gop 6 (go_icmp_eq_f 54 d_Mod_type_3 (by decide) (n32)) rfl ?_
  refine EvF.gop 7 (go_iload_n d_Mod_type_6 rfl 1 rfl) rfl ?_
  refine EvF.gop 9 (go_bipush (v := 45) d_Mod_type_7 (by decide)) rfl ?_
  refine EvF.gop 12 (go_icmp_eq_f 54 d_Mod_type_9 (by decide) (n45)) rfl ?_
  refine EvF.gop 13 (go_iload_n d_Mod_type_12 rfl 1 rfl) rfl ?_
  refine EvF.gop 15 (go_bipush (v := 126) d_Mod_type_13 (by decide)) rfl ?_
  refine EvF.gop 18 (go_icmp_eq_f 54 d_Mod_type_15 (by decide) (n126)) rfl ?_
  refine EvF.gop 19 (go_iload_n d_Mod_type_18 rfl 1 rfl) rfl ?_
  refine EvF.gop 21 (go_bipush (v := 124) d_Mod_type_19 (by decide)) rfl ?_
  refine EvF.gop 24 (go_icmp_eq_f 54 d_Mod_type_21 (by decide) (n124)) rfl ?_
  refine EvF.gop 25 (go_iload_n d_Mod_type_24 rfl 1 rfl) rfl ?_
  refine EvF.gop 27 (go_bipush (v := 123) d_Mod_type_25 (by decide)) rfl ?_
  refine EvF.gop 30 (go_icmp_eq_f 54 d_Mod_type_27 (by decide) (n123)) rfl ?_
  refine EvF.gop 31 (go_iload_n d_Mod_type_30 rfl 1 rfl) rfl ?_
  refine EvF.gop 33 (go_bipush (v := 125) d_Mod_type_31 (by decide)) rfl ?_
  refine EvF.gop 36 (go_icmp_eq_f 54 d_Mod_type_33 (by decide) (n125)) rfl ?_
  refine EvF.gop 37 (go_iload_n d_Mod_type_36 rfl 1 rfl) rfl ?_
  refine EvF.gop 39 (go_bipush (v := 35) d_Mod_type_37 (by decide)) rfl ?_
  refine EvF.gop 42 (go_icmp_eq_f 54 d_Mod_type_39 (by decide) (n35)) rfl ?_
  refine EvF.gop 43 (go_iload_n d_Mod_type_42 rfl 1 rfl) rfl ?_
  refine EvF.gop 45 (go_bipush (v := 61) d_Mod_type_43 (by decide)) rfl ?_
  refine EvF.gop 48 (go_icmp_eq_f 54 d_Mod_type_45 (by decide) (n61)) rfl ?_
  refine EvF.gop 49 (go_iload_n d_Mod_type_48 rfl 1 rfl) rfl ?_
  refine EvF.gop 51 (go_bipush (v := 46) d_Mod_type_49 (by decide)) rfl ?_
  refine EvF.gop 58 (go_icmp_ne_t 58 d_Mod_type_51 (by decide) (n46)) rfl ?_
  refine EvF.gop 59 (go_iconst (v := 0) d_Mod_type_58 (by decide)) rfl ?_
  refine EvF.gop 60 (go_istore_n [(2, .int 0), (0, .ref A), (1, .int x)] d_Mod_type_59 rfl (by decide) rfl) rfl ?_
  refine EvF.go (go_pick [1, 2, 0] [(0, .ref A), (1, .int x), (2, .int 0)] rfl) ?_
  refine EvF.gop 61 (go_iload_n d_Mod_type_60 rfl 1 rfl) rfl ?_
  refine EvF.gop 64 (go_callS [.int x] [.int (bI (cLet x))] c0_Mod_letter sm_Mod_letter lk_Mod_111 d_Mod_type_61 (e_Mod_letter G _ x) (by decide) rfl rfl (Nat.le_of_ble_eq_true rfl) rfl) rfl ?_
  refine EvF.gop 67 (go_if_ne_f 92 d_Mod_type_64 (by decide) (by rw [nl]; decide)) rfl ?_
  refine EvF.gop 68 (go_iload_n d_Mod_type_67 rfl 1 rfl) rfl ?_
  refine EvF.gop 71 (go_callS [.int x] [.int (bI (cDig x))] c0_Mod_digit sm_Mod_digit lk_Mod_115 d_Mod_type_68 (e_Mod_digit G _ x) (by decide) rfl rfl (Nat.le_of_ble_eq_true rfl) rfl) rfl ?_
  refine EvF.gop 74 (go_if_ne_f 92 d_Mod_type_71 (by decide) (by rw [nd]; decide)) rfl ?_
  refine EvF.gop 75 (go_iload_n d_Mod_type_74 rfl 2 rfl) rfl ?_
  refine EvF.gop 78 (go_if_ne_f 92 d_Mod_type_75 (by decide) (by decide)) rfl ?_
  refine EvF.gop 79 (go_iload_n d_Mod_type_78 rfl 1 rfl) rfl ?_
  refine EvF.gop 81 (go_bipush (v := 65) d_Mod_type_79 (by decide)) rfl ?_
  by_cases c1 : x < 65
  · have c1x : ¬ 65 ≤ x := Int32.not_le.mpr c1
    refine EvF.gop 90 (go_icmp_lt_t 90 d_Mod_type_81 (by decide) (c1)) rfl ?_
    refine EvF.gop 91 (go_iconst (v := (-1)) d_Mod_type_90 (by decide)) rfl ?_
    exact EvF.ri d_Mod_type_91 rfl (rfl) (rfl)
  · have c1x : 65 ≤ x := Int32.not_lt.mp c1
    refine EvF.gop 84 (go_icmp_lt_f 90 d_Mod_type_81 (by decide) (c1)) rfl ?_
    refine EvF.gop 85 (go_iload_n d_Mod_type_84 rfl 1 rfl) rfl ?_
    refine EvF.gop 87 (go_bipush (v := 68) d_Mod_type_85 (by decide)) rfl ?_
    refine EvF.gop 90 (go_icmp_le_f 92 d_Mod_type_87 (by decide) (fun q => by have h1 : 65 ≤ x := Int32.not_lt.mp (by assumption); have h2 : x < 69 := (by rw [Int32.lt_iff_toInt_lt, show (69 : Int32).toInt = 69 from by decide]; have := Int32.le_iff_toInt_le.mp q; rw [show (68 : Int32).toInt = 68 from by decide] at this; omega); simp [cMac, h1, h2] at nm)) rfl ?_
    refine EvF.gop 91 (go_iconst (v := (-1)) d_Mod_type_90 (by decide)) rfl ?_
    exact EvF.ri d_Mod_type_91 rfl (rfl) (rfl)
theorem g_Mod_type (G : gG) (M : gM) (A : Nat) (a : Nat → Nat) (s : Nat → Int32) (c : Int64) (x : Int32) (hI : InjA A a) (hA : gRd M A = some (.inr (11, oMod a s c))) (hx : cLin x = true) (r : Option Value) (M2 : gM) (hk : EvF G 1 m_Mod_type (92, [(0, .ref A), (1, .int x)], [], M) r M2) : EvF G 1 m_Mod_type (0, [(0, .ref A), (1, .int x)], [], M) r M2 := by
  refine EvF.gop 1 (go_iload_n d_Mod_type_0 rfl 1 rfl) rfl ?_
  refine EvF.gop 3 (go_bipush (v := 32) d_Mod_type_1 (by decide)) rfl ?_
  by_cases c1 : x = 32
  · refine EvF.gop 54 (go_icmp_eq_t 54 d_Mod_type_3 (by decide) (c1)) rfl ?_
    refine EvF.gop 55 (go_iconst (v := 1) d_Mod_type_54 (by decide)) rfl ?_
    refine EvF.gop 59 (go_goto 59 d_Mod_type_55 (by decide)) rfl ?_
    refine EvF.gop 60 (go_istore_n [(2, .int 1), (0, .ref A), (1, .int x)] d_Mod_type_59 rfl (by decide) rfl) rfl ?_
    refine EvF.go (go_pick [1, 2, 0] [(0, .ref A), (1, .int x), (2, .int 1)] rfl) ?_
    refine EvF.gop 61 (go_iload_n d_Mod_type_60 rfl 1 rfl) rfl ?_
    refine EvF.gop 64 (go_callS [.int x] [.int (bI (cLet x))] c0_Mod_letter sm_Mod_letter lk_Mod_111 d_Mod_type_61 (e_Mod_letter G _ x) (by decide) rfl rfl (Nat.le_of_ble_eq_true rfl) rfl) rfl ?_
    by_cases c2 : (bI (cLet x)) = 0
    · have c2x : (cLet x) = false := bI_0.mp c2
      refine EvF.gop 67 (go_if_ne_f 92 d_Mod_type_64 (by decide) (c2)) rfl ?_
      refine EvF.gop 68 (go_iload_n d_Mod_type_67 rfl 1 rfl) rfl ?_
      refine EvF.gop 71 (go_callS [.int x] [.int (bI (cDig x))] c0_Mod_digit sm_Mod_digit lk_Mod_115 d_Mod_type_68 (e_Mod_digit G _ x) (by decide) rfl rfl (Nat.le_of_ble_eq_true rfl) rfl) rfl ?_
      by_cases c3 : (bI (cDig x)) = 0
      · have c3x : (cDig x) = false := bI_0.mp c3
        refine EvF.gop 74 (go_if_ne_f 92 d_Mod_type_71 (by decide) (c3)) rfl ?_
        refine EvF.gop 75 (go_iload_n d_Mod_type_74 rfl 2 rfl) rfl ?_
        refine EvF.gop 92 (go_if_ne_t 92 d_Mod_type_75 (by decide) (by decide)) rfl ?_
        refine EvF.go (go_pick [0, 1] [(0, .ref A), (1, .int x)] rfl) ?_
        exact hk
      · have c3x : (cDig x) = true := bI_n0.mp c3
        refine EvF.gop 92 (go_if_ne_t 92 d_Mod_type_71 (by decide) (c3)) rfl ?_
        refine EvF.go (go_pick [0, 1] [(0, .ref A), (1, .int x)] rfl) ?_
        exact hk
    · have c2x : (cLet x) = true := bI_n0.mp c2
      refine EvF.gop 92 (go_if_ne_t 92 d_Mod_type_64 (by decide) (c2)) rfl ?_
      refine EvF.go (go_pick [0, 1] [(0, .ref A), (1, .int x)] rfl) ?_
      exact hk
  · refine EvF.gop 6 (go_icmp_eq_f 54 d_Mod_type_3 (by decide) (c1)) rfl ?_
    refine EvF.gop 7 (go_iload_n d_Mod_type_6 rfl 1 rfl) rfl ?_
    refine EvF.gop 9 (go_bipush (v := 45) d_Mod_type_7 (by decide)) rfl ?_
    by_cases c4 : x = 45
    · refine EvF.gop 54 (go_icmp_eq_t 54 d_Mod_type_9 (by decide) (c4)) rfl ?_
      refine EvF.gop 55 (go_iconst (v := 1) d_Mod_type_54 (by decide)) rfl ?_
      refine EvF.gop 59 (go_goto 59 d_Mod_type_55 (by decide)) rfl ?_
      refine EvF.gop 60 (go_istore_n [(2, .int 1), (0, .ref A), (1, .int x)] d_Mod_type_59 rfl (by decide) rfl) rfl ?_
      refine EvF.go (go_pick [1, 2, 0] [(0, .ref A), (1, .int x), (2, .int 1)] rfl) ?_
      refine EvF.gop 61 (go_iload_n d_Mod_type_60 rfl 1 rfl) rfl ?_
      refine EvF.gop 64 (go_callS [.int x] [.int (bI (cLet x))] c0_Mod_letter sm_Mod_letter lk_Mod_111 d_Mod_type_61 (e_Mod_letter G _ x) (by decide) rfl rfl (Nat.le_of_ble_eq_true rfl) rfl) rfl ?_
      by_cases c5 : (bI (cLet x)) = 0
      · have c5x : (cLet x) = false := bI_0.mp c5
        refine EvF.gop 67 (go_if_ne_f 92 d_Mod_type_64 (by decide) (c5)) rfl ?_
        refine EvF.gop 68 (go_iload_n d_Mod_type_67 rfl 1 rfl) rfl ?_
        refine EvF.gop 71 (go_callS [.int x] [.int (bI (cDig x))] c0_Mod_digit sm_Mod_digit lk_Mod_115 d_Mod_type_68 (e_Mod_digit G _ x) (by decide) rfl rfl (Nat.le_of_ble_eq_true rfl) rfl) rfl ?_
        by_cases c6 : (bI (cDig x)) = 0
        · have c6x : (cDig x) = false := bI_0.mp c6
          refine EvF.gop 74 (go_if_ne_f 92 d_Mod_type_71 (by decide) (c6)) rfl ?_
          refine EvF.gop 75 (go_iload_n d_Mod_type_74 rfl 2 rfl) rfl ?_
          refine EvF.gop 92 (go_if_ne_t 92 d_Mod_type_75 (by decide) (by decide)) rfl ?_
          refine EvF.go (go_pick [0, 1] [(0, .ref A), (1, .int x)] rfl) ?_
          exact hk
        · have c6x : (cDig x) = true := bI_n0.mp c6
          refine EvF.gop 92 (go_if_ne_t 92 d_Mod_type_71 (by decide) (c6)) rfl ?_
          refine EvF.go (go_pick [0, 1] [(0, .ref A), (1, .int x)] rfl) ?_
          exact hk
      · have c5x : (cLet x) = true := bI_n0.mp c5
        refine EvF.gop 92 (go_if_ne_t 92 d_Mod_type_64 (by decide) (c5)) rfl ?_
        refine EvF.go (go_pick [0, 1] [(0, .ref A), (1, .int x)] rfl) ?_
        exact hk
    · refine EvF.gop 12 (go_icmp_eq_f 54 d_Mod_type_9 (by decide) (c4)) rfl ?_
      refine EvF.gop 13 (go_iload_n d_Mod_type_12 rfl 1 rfl) rfl ?_
      refine EvF.gop 15 (go_bipush (v := 126) d_Mod_type_13 (by decide)) rfl ?_
      by_cases c7 : x = 126
      · refine EvF.gop 54 (go_icmp_eq_t 54 d_Mod_type_15 (by decide) (c7)) rfl ?_
        refine EvF.gop 55 (go_iconst (v := 1) d_Mod_type_54 (by decide)) rfl ?_
        refine EvF.gop 59 (go_goto 59 d_Mod_type_55 (by decide)) rfl ?_
        refine EvF.gop 60 (go_istore_n [(2, .int 1), (0, .ref A), (1, .int x)] d_Mod_type_59 rfl (by decide) rfl) rfl ?_
        refine EvF.go (go_pick [1, 2, 0] [(0, .ref A), (1, .int x), (2, .int 1)] rfl) ?_
        refine EvF.gop 61 (go_iload_n d_Mod_type_60 rfl 1 rfl) rfl ?_
        refine EvF.gop 64 (go_callS [.int x] [.int (bI (cLet x))] c0_Mod_letter sm_Mod_letter lk_Mod_111 d_Mod_type_61 (e_Mod_letter G _ x) (by decide) rfl rfl (Nat.le_of_ble_eq_true rfl) rfl) rfl ?_
        by_cases c8 : (bI (cLet x)) = 0
        · have c8x : (cLet x) = false := bI_0.mp c8
          refine EvF.gop 67 (go_if_ne_f 92 d_Mod_type_64 (by decide) (c8)) rfl ?_
          refine EvF.gop 68 (go_iload_n d_Mod_type_67 rfl 1 rfl) rfl ?_
          refine EvF.gop 71 (go_callS [.int x] [.int (bI (cDig x))] c0_Mod_digit sm_Mod_digit lk_Mod_115 d_Mod_type_68 (e_Mod_digit G _ x) (by decide) rfl rfl (Nat.le_of_ble_eq_true rfl) rfl) rfl ?_
          by_cases c9 : (bI (cDig x)) = 0
          · have c9x : (cDig x) = false := bI_0.mp c9
            refine EvF.gop 74 (go_if_ne_f 92 d_Mod_type_71 (by decide) (c9)) rfl ?_
            refine EvF.gop 75 (go_iload_n d_Mod_type_74 rfl 2 rfl) rfl ?_
            refine EvF.gop 92 (go_if_ne_t 92 d_Mod_type_75 (by decide) (by decide)) rfl ?_
            refine EvF.go (go_pick [0, 1] [(0, .ref A), (1, .int x)] rfl) ?_
            exact hk
          · have c9x : (cDig x) = true := bI_n0.mp c9
            refine EvF.gop 92 (go_if_ne_t 92 d_Mod_type_71 (by decide) (c9)) rfl ?_
            refine EvF.go (go_pick [0, 1] [(0, .ref A), (1, .int x)] rfl) ?_
            exact hk
        · have c8x : (cLet x) = true := bI_n0.mp c8
          refine EvF.gop 92 (go_if_ne_t 92 d_Mod_type_64 (by decide) (c8)) rfl ?_
          refine EvF.go (go_pick [0, 1] [(0, .ref A), (1, .int x)] rfl) ?_
          exact hk
      · refine EvF.gop 18 (go_icmp_eq_f 54 d_Mod_type_15 (by decide) (c7)) rfl ?_
        refine EvF.gop 19 (go_iload_n d_Mod_type_18 rfl 1 rfl) rfl ?_
        refine EvF.gop 21 (go_bipush (v := 124) d_Mod_type_19 (by decide)) rfl ?_
        by_cases c10 : x = 124
        · refine EvF.gop 54 (go_icmp_eq_t 54 d_Mod_type_21 (by decide) (c10)) rfl ?_
          refine EvF.gop 55 (go_iconst (v := 1) d_Mod_type_54 (by decide)) rfl ?_
          refine EvF.gop 59 (go_goto 59 d_Mod_type_55 (by decide)) rfl ?_
          refine EvF.gop 60 (go_istore_n [(2, .int 1), (0, .ref A), (1, .int x)] d_Mod_type_59 rfl (by decide) rfl) rfl ?_
          refine EvF.go (go_pick [1, 2, 0] [(0, .ref A), (1, .int x), (2, .int 1)] rfl) ?_
          refine EvF.gop 61 (go_iload_n d_Mod_type_60 rfl 1 rfl) rfl ?_
          refine EvF.gop 64 (go_callS [.int x] [.int (bI (cLet x))] c0_Mod_letter sm_Mod_letter lk_Mod_111 d_Mod_type_61 (e_Mod_letter G _ x) (by decide) rfl rfl (Nat.le_of_ble_eq_true rfl) rfl) rfl ?_
          by_cases c11 : (bI (cLet x)) = 0
          · have c11x : (cLet x) = false := bI_0.mp c11
            refine EvF.gop 67 (go_if_ne_f 92 d_Mod_type_64 (by decide) (c11)) rfl ?_
            refine EvF.gop 68 (go_iload_n d_Mod_type_67 rfl 1 rfl) rfl ?_
            refine EvF.gop 71 (go_callS [.int x] [.int (bI (cDig x))] c0_Mod_digit sm_Mod_digit lk_Mod_115 d_Mod_type_68 (e_Mod_digit G _ x) (by decide) rfl rfl (Nat.le_of_ble_eq_true rfl) rfl) rfl ?_
            by_cases c12 : (bI (cDig x)) = 0
            · have c12x : (cDig x) = false := bI_0.mp c12
              refine EvF.gop 74 (go_if_ne_f 92 d_Mod_type_71 (by decide) (c12)) rfl ?_
              refine EvF.gop 75 (go_iload_n d_Mod_type_74 rfl 2 rfl) rfl ?_
              refine EvF.gop 92 (go_if_ne_t 92 d_Mod_type_75 (by decide) (by decide)) rfl ?_
              refine EvF.go (go_pick [0, 1] [(0, .ref A), (1, .int x)] rfl) ?_
              exact hk
            · have c12x : (cDig x) = true := bI_n0.mp c12
              refine EvF.gop 92 (go_if_ne_t 92 d_Mod_type_71 (by decide) (c12)) rfl ?_
              refine EvF.go (go_pick [0, 1] [(0, .ref A), (1, .int x)] rfl) ?_
              exact hk
          · have c11x : (cLet x) = true := bI_n0.mp c11
            refine EvF.gop 92 (go_if_ne_t 92 d_Mod_type_64 (by decide) (c11)) rfl ?_
            refine EvF.go (go_pick [0, 1] [(0, .ref A), (1, .int x)] rfl) ?_
            exact hk
        · refine EvF.gop 24 (go_icmp_eq_f 54 d_Mod_type_21 (by decide) (c10)) rfl ?_
          refine EvF.gop 25 (go_iload_n d_Mod_type_24 rfl 1 rfl) rfl ?_
          refine EvF.gop 27 (go_bipush (v := 123) d_Mod_type_25 (by decide)) rfl ?_
          by_cases c13 : x = 123
          · refine EvF.gop 54 (go_icmp_eq_t 54 d_Mod_type_27 (by decide) (c13)) rfl ?_
            refine EvF.gop 55 (go_iconst (v := 1) d_Mod_type_54 (by decide)) rfl ?_
            refine EvF.gop 59 (go_goto 59 d_Mod_type_55 (by decide)) rfl ?_
            refine EvF.gop 60 (go_istore_n [(2, .int 1), (0, .ref A), (1, .int x)] d_Mod_type_59 rfl (by decide) rfl) rfl ?_
            refine EvF.go (go_pick [1, 2, 0] [(0, .ref A), (1, .int x), (2, .int 1)] rfl) ?_
            refine EvF.gop 61 (go_iload_n d_Mod_type_60 rfl 1 rfl) rfl ?_
            refine EvF.gop 64 (go_callS [.int x] [.int (bI (cLet x))] c0_Mod_letter sm_Mod_letter lk_Mod_111 d_Mod_type_61 (e_Mod_letter G _ x) (by decide) rfl rfl (Nat.le_of_ble_eq_true rfl) rfl) rfl ?_
            by_cases c14 : (bI (cLet x)) = 0
            · have c14x : (cLet x) = false := bI_0.mp c14
              refine EvF.gop 67 (go_if_ne_f 92 d_Mod_type_64 (by decide) (c14)) rfl ?_
              refine EvF.gop 68 (go_iload_n d_Mod_type_67 rfl 1 rfl) rfl ?_
              refine EvF.gop 71 (go_callS [.int x] [.int (bI (cDig x))] c0_Mod_digit sm_Mod_digit lk_Mod_115 d_Mod_type_68 (e_Mod_digit G _ x) (by decide) rfl rfl (Nat.le_of_ble_eq_true rfl) rfl) rfl ?_
              by_cases c15 : (bI (cDig x)) = 0
              · have c15x : (cDig x) = false := bI_0.mp c15
                refine EvF.gop 74 (go_if_ne_f 92 d_Mod_type_71 (by decide) (c15)) rfl ?_
                refine EvF.gop 75 (go_iload_n d_Mod_type_74 rfl 2 rfl) rfl ?_
                refine EvF.gop 92 (go_if_ne_t 92 d_Mod_type_75 (by decide) (by decide)) rfl ?_
                refine EvF.go (go_pick [0, 1] [(0, .ref A), (1, .int x)] rfl) ?_
                exact hk
              · have c15x : (cDig x) = true := bI_n0.mp c15
                refine EvF.gop 92 (go_if_ne_t 92 d_Mod_type_71 (by decide) (c15)) rfl ?_
                refine EvF.go (go_pick [0, 1] [(0, .ref A), (1, .int x)] rfl) ?_
                exact hk
            · have c14x : (cLet x) = true := bI_n0.mp c14
              refine EvF.gop 92 (go_if_ne_t 92 d_Mod_type_64 (by decide) (c14)) rfl ?_
              refine EvF.go (go_pick [0, 1] [(0, .ref A), (1, .int x)] rfl) ?_
              exact hk
          · refine EvF.gop 30 (go_icmp_eq_f 54 d_Mod_type_27 (by decide) (c13)) rfl ?_
            refine EvF.gop 31 (go_iload_n d_Mod_type_30 rfl 1 rfl) rfl ?_
            refine EvF.gop 33 (go_bipush (v := 125) d_Mod_type_31 (by decide)) rfl ?_
            by_cases c16 : x = 125
            · refine EvF.gop 54 (go_icmp_eq_t 54 d_Mod_type_33 (by decide) (c16)) rfl ?_
              refine EvF.gop 55 (go_iconst (v := 1) d_Mod_type_54 (by decide)) rfl ?_
              refine EvF.gop 59 (go_goto 59 d_Mod_type_55 (by decide)) rfl ?_
              refine EvF.gop 60 (go_istore_n [(2, .int 1), (0, .ref A), (1, .int x)] d_Mod_type_59 rfl (by decide) rfl) rfl ?_
              refine EvF.go (go_pick [1, 2, 0] [(0, .ref A), (1, .int x), (2, .int 1)] rfl) ?_
              refine EvF.gop 61 (go_iload_n d_Mod_type_60 rfl 1 rfl) rfl ?_
              refine EvF.gop 64 (go_callS [.int x] [.int (bI (cLet x))] c0_Mod_letter sm_Mod_letter lk_Mod_111 d_Mod_type_61 (e_Mod_letter G _ x) (by decide) rfl rfl (Nat.le_of_ble_eq_true rfl) rfl) rfl ?_
              by_cases c17 : (bI (cLet x)) = 0
              · have c17x : (cLet x) = false := bI_0.mp c17
                refine EvF.gop 67 (go_if_ne_f 92 d_Mod_type_64 (by decide) (c17)) rfl ?_
                refine EvF.gop 68 (go_iload_n d_Mod_type_67 rfl 1 rfl) rfl ?_
                refine EvF.gop 71 (go_callS [.int x] [.int (bI (cDig x))] c0_Mod_digit sm_Mod_digit lk_Mod_115 d_Mod_type_68 (e_Mod_digit G _ x) (by decide) rfl rfl (Nat.le_of_ble_eq_true rfl) rfl) rfl ?_
                by_cases c18 : (bI (cDig x)) = 0
                · have c18x : (cDig x) = false := bI_0.mp c18
                  refine EvF.gop 74 (go_if_ne_f 92 d_Mod_type_71 (by decide) (c18)) rfl ?_
                  refine EvF.gop 75 (go_iload_n d_Mod_type_74 rfl 2 rfl) rfl ?_
                  refine EvF.gop 92 (go_if_ne_t 92 d_Mod_type_75 (by decide) (by decide)) rfl ?_
                  refine EvF.go (go_pick [0, 1] [(0, .ref A), (1, .int x)] rfl) ?_
                  exact hk
                · have c18x : (cDig x) = true := bI_n0.mp c18
                  refine EvF.gop 92 (go_if_ne_t 92 d_Mod_type_71 (by decide) (c18)) rfl ?_
                  refine EvF.go (go_pick [0, 1] [(0, .ref A), (1, .int x)] rfl) ?_
                  exact hk
              · have c17x : (cLet x) = true := bI_n0.mp c17
                refine EvF.gop 92 (go_if_ne_t 92 d_Mod_type_64 (by decide) (c17)) rfl ?_
                refine EvF.go (go_pick [0, 1] [(0, .ref A), (1, .int x)] rfl) ?_
                exact hk
            · refine EvF.gop 36 (go_icmp_eq_f 54 d_Mod_type_33 (by decide) (c16)) rfl ?_
              refine EvF.gop 37 (go_iload_n d_Mod_type_36 rfl 1 rfl) rfl ?_
              refine EvF.gop 39 (go_bipush (v := 35) d_Mod_type_37 (by decide)) rfl ?_
              by_cases c19 : x = 35
              · refine EvF.gop 54 (go_icmp_eq_t 54 d_Mod_type_39 (by decide) (c19)) rfl ?_
                refine EvF.gop 55 (go_iconst (v := 1) d_Mod_type_54 (by decide)) rfl ?_
                refine EvF.gop 59 (go_goto 59 d_Mod_type_55 (by decide)) rfl ?_
                refine EvF.gop 60 (go_istore_n [(2, .int 1), (0, .ref A), (1, .int x)] d_Mod_type_59 rfl (by decide) rfl) rfl ?_
                refine EvF.go (go_pick [1, 2, 0] [(0, .ref A), (1, .int x), (2, .int 1)] rfl) ?_
                refine EvF.gop 61 (go_iload_n d_Mod_type_60 rfl 1 rfl) rfl ?_
                refine EvF.gop 64 (go_callS [.int x] [.int (bI (cLet x))] c0_Mod_letter sm_Mod_letter lk_Mod_111 d_Mod_type_61 (e_Mod_letter G _ x) (by decide) rfl rfl (Nat.le_of_ble_eq_true rfl) rfl) rfl ?_
                by_cases c20 : (bI (cLet x)) = 0
                · have c20x : (cLet x) = false := bI_0.mp c20
                  refine EvF.gop 67 (go_if_ne_f 92 d_Mod_type_64 (by decide) (c20)) rfl ?_
                  refine EvF.gop 68 (go_iload_n d_Mod_type_67 rfl 1 rfl) rfl ?_
                  refine EvF.gop 71 (go_callS [.int x] [.int (bI (cDig x))] c0_Mod_digit sm_Mod_digit lk_Mod_115 d_Mod_type_68 (e_Mod_digit G _ x) (by decide) rfl rfl (Nat.le_of_ble_eq_true rfl) rfl) rfl ?_
                  by_cases c21 : (bI (cDig x)) = 0
                  · have c21x : (cDig x) = false := bI_0.mp c21
                    refine EvF.gop 74 (go_if_ne_f 92 d_Mod_type_71 (by decide) (c21)) rfl ?_
                    refine EvF.gop 75 (go_iload_n d_Mod_type_74 rfl 2 rfl) rfl ?_
                    refine EvF.gop 92 (go_if_ne_t 92 d_Mod_type_75 (by decide) (by decide)) rfl ?_
                    refine EvF.go (go_pick [0, 1] [(0, .ref A), (1, .int x)] rfl) ?_
                    exact hk
                  · have c21x : (cDig x) = true := bI_n0.mp c21
                    refine EvF.gop 92 (go_if_ne_t 92 d_Mod_type_71 (by decide) (c21)) rfl ?_
                    refine EvF.go (go_pick [0, 1] [(0, .ref A), (1, .int x)] rfl) ?_
                    exact hk
                · have c20x : (cLet x) = true := bI_n0.mp c20
                  refine EvF.gop 92 (go_if_ne_t 92 d_Mod_type_64 (by decide) (c20)) rfl ?_
                  refine EvF.go (go_pick [0, 1] [(0, .ref A), (1, .int x)] rfl) ?_
                  exact hk
              · refine EvF.gop 42 (go_icmp_eq_f 54 d_Mod_type_39 (by decide) (c19)) rfl ?_
                refine EvF.gop 43 (go_iload_n d_Mod_type_42 rfl 1 rfl) rfl ?_
                refine EvF.gop 45 (go_bipush (v := 61) d_Mod_type_43 (by decide)) rfl ?_
                by_cases c22 : x = 61
                · refine EvF.gop 54 (go_icmp_eq_t 54 d_Mod_type_45 (by decide) (c22)) rfl ?_
                  refine EvF.gop 55 (go_iconst (v := 1) d_Mod_type_54 (by decide)) rfl ?_
                  refine EvF.gop 59 (go_goto 59 d_Mod_type_55 (by decide)) rfl ?_
                  refine EvF.gop 60 (go_istore_n [(2, .int 1), (0, .ref A), (1, .int x)] d_Mod_type_59 rfl (by decide) rfl) rfl ?_
                  refine EvF.go (go_pick [1, 2, 0] [(0, .ref A), (1, .int x), (2, .int 1)] rfl) ?_
                  refine EvF.gop 61 (go_iload_n d_Mod_type_60 rfl 1 rfl) rfl ?_
                  refine EvF.gop 64 (go_callS [.int x] [.int (bI (cLet x))] c0_Mod_letter sm_Mod_letter lk_Mod_111 d_Mod_type_61 (e_Mod_letter G _ x) (by decide) rfl rfl (Nat.le_of_ble_eq_true rfl) rfl) rfl ?_
                  by_cases c23 : (bI (cLet x)) = 0
                  · have c23x : (cLet x) = false := bI_0.mp c23
                    refine EvF.gop 67 (go_if_ne_f 92 d_Mod_type_64 (by decide) (c23)) rfl ?_
                    refine EvF.gop 68 (go_iload_n d_Mod_type_67 rfl 1 rfl) rfl ?_
                    refine EvF.gop 71 (go_callS [.int x] [.int (bI (cDig x))] c0_Mod_digit sm_Mod_digit lk_Mod_115 d_Mod_type_68 (e_Mod_digit G _ x) (by decide) rfl rfl (Nat.le_of_ble_eq_true rfl) rfl) rfl ?_
                    by_cases c24 : (bI (cDig x)) = 0
                    · have c24x : (cDig x) = false := bI_0.mp c24
                      refine EvF.gop 74 (go_if_ne_f 92 d_Mod_type_71 (by decide) (c24)) rfl ?_
                      refine EvF.gop 75 (go_iload_n d_Mod_type_74 rfl 2 rfl) rfl ?_
                      refine EvF.gop 92 (go_if_ne_t 92 d_Mod_type_75 (by decide) (by decide)) rfl ?_
                      refine EvF.go (go_pick [0, 1] [(0, .ref A), (1, .int x)] rfl) ?_
                      exact hk
                    · have c24x : (cDig x) = true := bI_n0.mp c24
                      refine EvF.gop 92 (go_if_ne_t 92 d_Mod_type_71 (by decide) (c24)) rfl ?_
                      refine EvF.go (go_pick [0, 1] [(0, .ref A), (1, .int x)] rfl) ?_
                      exact hk
                  · have c23x : (cLet x) = true := bI_n0.mp c23
                    refine EvF.gop 92 (go_if_ne_t 92 d_Mod_type_64 (by decide) (c23)) rfl ?_
                    refine EvF.go (go_pick [0, 1] [(0, .ref A), (1, .int x)] rfl) ?_
                    exact hk
                · refine EvF.gop 48 (go_icmp_eq_f 54 d_Mod_type_45 (by decide) (c22)) rfl ?_
                  refine EvF.gop 49 (go_iload_n d_Mod_type_48 rfl 1 rfl) rfl ?_
                  refine EvF.gop 51 (go_bipush (v := 46) d_Mod_type_49 (by decide)) rfl ?_
                  by_cases c25 : x = 46
                  · refine EvF.gop 54 (go_icmp_ne_f 58 d_Mod_type_51 (by decide) (c25)) rfl ?_
                    refine EvF.gop 55 (go_iconst (v := 1) d_Mod_type_54 (by decide)) rfl ?_
                    refine EvF.gop 59 (go_goto 59 d_Mod_type_55 (by decide)) rfl ?_
                    refine EvF.gop 60 (go_istore_n [(2, .int 1), (0, .ref A), (1, .int x)] d_Mod_type_59 rfl (by decide) rfl) rfl ?_
                    refine EvF.go (go_pick [1, 2, 0] [(0, .ref A), (1, .int x), (2, .int 1)] rfl) ?_
                    refine EvF.gop 61 (go_iload_n d_Mod_type_60 rfl 1 rfl) rfl ?_
                    refine EvF.gop 64 (go_callS [.int x] [.int (bI (cLet x))] c0_Mod_letter sm_Mod_letter lk_Mod_111 d_Mod_type_61 (e_Mod_letter G _ x) (by decide) rfl rfl (Nat.le_of_ble_eq_true rfl) rfl) rfl ?_
                    by_cases c26 : (bI (cLet x)) = 0
                    · have c26x : (cLet x) = false := bI_0.mp c26
                      refine EvF.gop 67 (go_if_ne_f 92 d_Mod_type_64 (by decide) (c26)) rfl ?_
                      refine EvF.gop 68 (go_iload_n d_Mod_type_67 rfl 1 rfl) rfl ?_
                      refine EvF.gop 71 (go_callS [.int x] [.int (bI (cDig x))] c0_Mod_digit sm_Mod_digit lk_Mod_115 d_Mod_type_68 (e_Mod_digit G _ x) (by decide) rfl rfl (Nat.le_of_ble_eq_true rfl) rfl) rfl ?_
                      by_cases c27 : (bI (cDig x)) = 0
                      · have c27x : (cDig x) = false := bI_0.mp c27
                        refine EvF.gop 74 (go_if_ne_f 92 d_Mod_type_71 (by decide) (c27)) rfl ?_
                        refine EvF.gop 75 (go_iload_n d_Mod_type_74 rfl 2 rfl) rfl ?_
                        refine EvF.gop 92 (go_if_ne_t 92 d_Mod_type_75 (by decide) (by decide)) rfl ?_
                        refine EvF.go (go_pick [0, 1] [(0, .ref A), (1, .int x)] rfl) ?_
                        exact hk
                      · have c27x : (cDig x) = true := bI_n0.mp c27
                        refine EvF.gop 92 (go_if_ne_t 92 d_Mod_type_71 (by decide) (c27)) rfl ?_
                        refine EvF.go (go_pick [0, 1] [(0, .ref A), (1, .int x)] rfl) ?_
                        exact hk
                    · have c26x : (cLet x) = true := bI_n0.mp c26
                      refine EvF.gop 92 (go_if_ne_t 92 d_Mod_type_64 (by decide) (c26)) rfl ?_
                      refine EvF.go (go_pick [0, 1] [(0, .ref A), (1, .int x)] rfl) ?_
                      exact hk
                  · refine EvF.gop 58 (go_icmp_ne_t 58 d_Mod_type_51 (by decide) (c25)) rfl ?_
                    refine EvF.gop 59 (go_iconst (v := 0) d_Mod_type_58 (by decide)) rfl ?_
                    refine EvF.gop 60 (go_istore_n [(2, .int 0), (0, .ref A), (1, .int x)] d_Mod_type_59 rfl (by decide) rfl) rfl ?_
                    refine EvF.go (go_pick [1, 2, 0] [(0, .ref A), (1, .int x), (2, .int 0)] rfl) ?_
                    refine EvF.gop 61 (go_iload_n d_Mod_type_60 rfl 1 rfl) rfl ?_
                    refine EvF.gop 64 (go_callS [.int x] [.int (bI (cLet x))] c0_Mod_letter sm_Mod_letter lk_Mod_111 d_Mod_type_61 (e_Mod_letter G _ x) (by decide) rfl rfl (Nat.le_of_ble_eq_true rfl) rfl) rfl ?_
                    by_cases c28 : (bI (cLet x)) = 0
                    · have c28x : (cLet x) = false := bI_0.mp c28
                      refine EvF.gop 67 (go_if_ne_f 92 d_Mod_type_64 (by decide) (c28)) rfl ?_
                      refine EvF.gop 68 (go_iload_n d_Mod_type_67 rfl 1 rfl) rfl ?_
                      refine EvF.gop 71 (go_callS [.int x] [.int (bI (cDig x))] c0_Mod_digit sm_Mod_digit lk_Mod_115 d_Mod_type_68 (e_Mod_digit G _ x) (by decide) rfl rfl (Nat.le_of_ble_eq_true rfl) rfl) rfl ?_
                      by_cases c29 : (bI (cDig x)) = 0
                      · have c29x : (cDig x) = false := bI_0.mp c29
                        refine EvF.gop 74 (go_if_ne_f 92 d_Mod_type_71 (by decide) (c29)) rfl ?_
                        refine EvF.gop 75 (go_iload_n d_Mod_type_74 rfl 2 rfl) rfl ?_
                        refine EvF.gop 78 (go_if_ne_f 92 d_Mod_type_75 (by decide) (by decide)) rfl ?_
                        refine EvF.gop 79 (go_iload_n d_Mod_type_78 rfl 1 rfl) rfl ?_
                        refine EvF.gop 81 (go_bipush (v := 65) d_Mod_type_79 (by decide)) rfl ?_
                        by_cases c30 : x < 65
                        · have c30x : ¬ 65 ≤ x := Int32.not_le.mpr c30
                          refine EvF.gop 90 (go_icmp_lt_t 90 d_Mod_type_81 (by decide) (c30)) rfl ?_
                          refine EvF.gop 91 (go_iconst (v := (-1)) d_Mod_type_90 (by decide)) rfl ?_
                          exfalso
                          have nm : cMac x = false := by simp only [cMac]; first | (simp [*]; done) | (have h9 : ¬ x < 69 := (fun q => by have h2 := Int32.lt_iff_toInt_lt.mp q; have h3 := Int32.lt_iff_toInt_lt.mp (show 68 < x from Int32.not_le.mp (by assumption)); rw [show (69 : Int32).toInt = 69 from by decide] at h2; rw [show (68 : Int32).toInt = 68 from by decide] at h3; omega); simp [h9])
                          simp [cLin, cItm, cWid, cSpc, *] at hx
                        · have c30x : 65 ≤ x := Int32.not_lt.mp c30
                          refine EvF.gop 84 (go_icmp_lt_f 90 d_Mod_type_81 (by decide) (c30)) rfl ?_
                          refine EvF.gop 85 (go_iload_n d_Mod_type_84 rfl 1 rfl) rfl ?_
                          refine EvF.gop 87 (go_bipush (v := 68) d_Mod_type_85 (by decide)) rfl ?_
                          by_cases c31 : x ≤ 68
                          · have c31x : ¬ 68 < x := Int32.not_lt.mpr c31
                            refine EvF.gop 92 (go_icmp_le_t 92 d_Mod_type_87 (by decide) (c31)) rfl ?_
                            refine EvF.go (go_pick [0, 1] [(0, .ref A), (1, .int x)] rfl) ?_
                            exact hk
                          · have c31x : 68 < x := Int32.not_le.mp c31
                            refine EvF.gop 90 (go_icmp_le_f 92 d_Mod_type_87 (by decide) (c31)) rfl ?_
                            refine EvF.gop 91 (go_iconst (v := (-1)) d_Mod_type_90 (by decide)) rfl ?_
                            exfalso
                            have nm : cMac x = false := by simp only [cMac]; first | (simp [*]; done) | (have h9 : ¬ x < 69 := (fun q => by have h2 := Int32.lt_iff_toInt_lt.mp q; have h3 := Int32.lt_iff_toInt_lt.mp (show 68 < x from Int32.not_le.mp (by assumption)); rw [show (69 : Int32).toInt = 69 from by decide] at h2; rw [show (68 : Int32).toInt = 68 from by decide] at h3; omega); simp [h9])
                            simp [cLin, cItm, cWid, cSpc, *] at hx
                      · have c29x : (cDig x) = true := bI_n0.mp c29
                        refine EvF.gop 92 (go_if_ne_t 92 d_Mod_type_71 (by decide) (c29)) rfl ?_
                        refine EvF.go (go_pick [0, 1] [(0, .ref A), (1, .int x)] rfl) ?_
                        exact hk
                    · have c28x : (cLet x) = true := bI_n0.mp c28
                      refine EvF.gop 92 (go_if_ne_t 92 d_Mod_type_64 (by decide) (c28)) rfl ?_
                      refine EvF.go (go_pick [0, 1] [(0, .ref A), (1, .int x)] rfl) ?_
                      exact hk
theorem e_Mod_typeF (G : gG) (M : gM) (A : Nat) (a : Nat → Nat) (s : Nat → Int32) (c : Int64) (x : Int32) (hI : InjA A a) (hA : gRd M A = some (.inr (11, oMod a s c))) (hx : cLin x = true) (h1 : s 1 = 60) : Ev G 1 m_Mod_type [.ref A, .int x] M (some (.int (-2))) M := by
  refine Ev.of (Nat.le_of_ble_eq_true rfl) (g_Mod_type G M A a s c x hI hA hx _ _ ?_)
  refine EvF.gop 93 (go_aload_n d_Mod_type_92 rfl 0 rfl) rfl ?_
  refine EvF.gop 96 (go_get f_Mod_118 d_Mod_type_93 (hA) rfl) rfl ?_
  refine EvF.gop 98 (go_bipush (v := 60) d_Mod_type_96 (by decide)) rfl ?_
  refine EvF.gop 101 (go_icmp_ne_f 104 d_Mod_type_98 (by decide) (h1)) rfl ?_
  refine EvF.gop 103 (go_bipush (v := (-2)) d_Mod_type_101 (by decide)) rfl ?_
  exact EvF.ri d_Mod_type_103 rfl (rfl) (rfl)
theorem e_Mod_type (G : gG) (M : gM) (A : Nat) (a : Nat → Nat) (s : Nat → Int32) (c : Int64) (ln : Nat → Int32) (n : Nat) (x : Int32) (hI : InjA A a) (hA : gRd M A = some (.inr (11, oMod a s c))) (m0 : gRd M (a 0) = some (aI G 60 ln)) (hx : cLin x = true) (h1 : s 1 = nI n) (hn : n < 60) : Ev G 1 m_Mod_type [.ref A, .int x] M (some (.int (nI (n + 1)))) (gWr (gWr M (a 0) (aI G 60 (upd ln n x))) A (.inr (11, oMod a (upd s 1 (nI (n + 1))) c))) := by
  refine Ev.of (Nat.le_of_ble_eq_true rfl) (g_Mod_type G M A a s c x hI hA hx _ _ ?_)
  refine EvF.gop 93 (go_aload_n d_Mod_type_92 rfl 0 rfl) rfl ?_
  refine EvF.gop 96 (go_get f_Mod_118 d_Mod_type_93 (hA) rfl) rfl ?_
  refine EvF.gop 98 (go_bipush (v := 60) d_Mod_type_96 (by decide)) rfl ?_
  refine EvF.gop 104 (go_icmp_ne_t 104 d_Mod_type_98 (by decide) (show ¬ s 1 = 60 from by rw [h1]; exact fun q => absurd ((nI_eq (a := n) (b := 60) (by omega) (by decide)).mp q) (by omega))) rfl ?_
  refine EvF.gop 105 (go_aload_n d_Mod_type_104 rfl 0 rfl) rfl ?_
  refine EvF.gop 108 (go_get f_Mod_7 d_Mod_type_105 (hA) rfl) rfl ?_
  refine EvF.gop 109 (go_aload_n d_Mod_type_108 rfl 0 rfl) rfl ?_
  refine EvF.gop 112 (go_get f_Mod_118 d_Mod_type_109 (hA) rfl) rfl ?_
  refine EvF.gop 113 (go_iload_n d_Mod_type_112 rfl 1 rfl) rfl ?_
  refine EvF.gop 114 (go_iast (j := n) d_Mod_type_113 (m0) (h1) (by omega) (by omega)) rfl ?_
  refine EvF.gop 115 (go_aload_n d_Mod_type_114 rfl 0 rfl) rfl ?_
  refine EvF.gop 116 (go_dup d_Mod_type_115 rfl) rfl ?_
  refine EvF.gop 119 (go_get f_Mod_118 d_Mod_type_116 ((gRd_n _ _ (hI.2 0)).trans (hA)) rfl) rfl ?_
  refine EvF.gop 120 (go_iconst (v := 1) d_Mod_type_119 (by decide)) rfl ?_
  refine EvF.gop 121 (go_iadd d_Mod_type_120) rfl ?_
  refine EvF.go (go_v (y := nI (n + 1)) (show s 1 + 1 = nI (n + 1) from by rw [h1]; exact nI_1 n)) ?_
  refine EvF.gop 124 (go_put (oMod a (upd s 1 (nI (n + 1))) c) f_Mod_118 ft_Mod_1 d_Mod_type_121 ((gRd_n _ _ (hI.2 0)).trans (hA)) rfl rfl (Nat.le_of_ble_eq_true rfl) rfl) rfl ?_
  refine EvF.gop 125 (go_aload_n d_Mod_type_124 rfl 0 rfl) rfl ?_
  refine EvF.gop 128 (go_get f_Mod_118 d_Mod_type_125 (gRd_s _ _ _) rfl) rfl ?_
  exact EvF.ri d_Mod_type_128 rfl (rfl) (rfl)
theorem e_Mod_wipe (G : gG) (M : gM) (A : Nat) (a : Nat → Nat) (s : Nat → Int32) (c : Int64) (hI : InjA A a) (hA : gRd M A = some (.inr (11, oMod a s c))) : Ev G 0 m_Mod_wipe [.ref A] M (some (.int 0)) (gWr M A (.inr (11, oMod a (upd s 1 (nI 0)) c))) := by
  refine Ev.of (Nat.le_of_ble_eq_true rfl) ?_
  show EvF G 0 m_Mod_wipe (0, [(0, .ref A)], [], M) _ _
  refine EvF.gop 1 (go_aload_n d_Mod_wipe_0 rfl 0 rfl) rfl ?_
  refine EvF.gop 2 (go_iconst (v := nI 0) d_Mod_wipe_1 (rfl)) rfl ?_
  refine EvF.gop 5 (go_put (oMod a (upd s 1 (nI 0)) c) f_Mod_118 ft_Mod_1 d_Mod_wipe_2 (hA) rfl rfl (Nat.le_of_ble_eq_true rfl) rfl) rfl ?_
  refine EvF.gop 6 (go_iconst (v := 0) d_Mod_wipe_5 (by decide)) rfl ?_
  exact EvF.ri d_Mod_wipe_6 rfl (rfl) (rfl)
theorem e_Mod_widthR (G : gG) (M : gM) (A : Nat) (a : Nat → Nat) (s : Nat → Int32) (c : Int64) (x y : Int32) (hI : InjA A a) (hA : gRd M A = some (.inr (11, oMod a s c))) (hx : (cWid x && (decide (1 ≤ y) && decide (y ≤ 20))) = false) : Ev G 1 m_Mod_width [.ref A, .int x, .int y] M (some (.int (-1))) M := by
  refine Ev.of (Nat.le_of_ble_eq_true rfl) ?_
  show EvF G 1 m_Mod_width (0, [(0, .ref A), (1, .int x), (2, .int y)], [], M) _ _
  refine EvF.gop 1 (go_iload_n d_Mod_width_0 rfl 1 rfl) rfl ?_
  refine EvF.gop 4 (go_callS [.int x] [.int (bI (cLet x))] c0_Mod_letter sm_Mod_letter lk_Mod_111 d_Mod_width_1 (e_Mod_letter G _ x) (by decide) rfl rfl (Nat.le_of_ble_eq_true rfl) rfl) rfl ?_
  by_cases c1 : (bI (cLet x)) = 0
  · have c1x : (cLet x) = false := bI_0.mp c1
    refine EvF.gop 7 (go_if_ne_f 13 d_Mod_width_4 (by decide) (c1)) rfl ?_
    refine EvF.gop 8 (go_iload_n d_Mod_width_7 rfl 1 rfl) rfl ?_
    refine EvF.gop 10 (go_bipush (v := 45) d_Mod_width_8 (by decide)) rfl ?_
    by_cases c2 : x = 45
    · refine EvF.gop 13 (go_icmp_ne_f 24 d_Mod_width_10 (by decide) (c2)) rfl ?_
      refine EvF.gop 14 (go_iload_n d_Mod_width_13 rfl 2 rfl) rfl ?_
      refine EvF.gop 15 (go_iconst (v := 1) d_Mod_width_14 (by decide)) rfl ?_
      by_cases c3 : y < 1
      · have c3x : ¬ 1 ≤ y := Int32.not_le.mpr c3
        refine EvF.gop 24 (go_icmp_lt_t 24 d_Mod_width_15 (by decide) (c3)) rfl ?_
        refine EvF.gop 25 (go_iconst (v := (-1)) d_Mod_width_24 (by decide)) rfl ?_
        exact EvF.ri d_Mod_width_25 rfl (rfl) (rfl)
      · have c3x : 1 ≤ y := Int32.not_lt.mp c3
        refine EvF.gop 18 (go_icmp_lt_f 24 d_Mod_width_15 (by decide) (c3)) rfl ?_
        refine EvF.gop 19 (go_iload_n d_Mod_width_18 rfl 2 rfl) rfl ?_
        refine EvF.gop 21 (go_bipush (v := 20) d_Mod_width_19 (by decide)) rfl ?_
        by_cases c4 : y ≤ 20
        · have c4x : ¬ 20 < y := Int32.not_lt.mpr c4
          refine EvF.gop 26 (go_icmp_le_t 26 d_Mod_width_21 (by decide) (c4)) rfl ?_
          exfalso
          revert hx; simp [cWid, *]
        · have c4x : 20 < y := Int32.not_le.mp c4
          refine EvF.gop 24 (go_icmp_le_f 26 d_Mod_width_21 (by decide) (c4)) rfl ?_
          refine EvF.gop 25 (go_iconst (v := (-1)) d_Mod_width_24 (by decide)) rfl ?_
          exact EvF.ri d_Mod_width_25 rfl (rfl) (rfl)
    · refine EvF.gop 24 (go_icmp_ne_t 24 d_Mod_width_10 (by decide) (c2)) rfl ?_
      refine EvF.gop 25 (go_iconst (v := (-1)) d_Mod_width_24 (by decide)) rfl ?_
      exact EvF.ri d_Mod_width_25 rfl (rfl) (rfl)
  · have c1x : (cLet x) = true := bI_n0.mp c1
    refine EvF.gop 13 (go_if_ne_t 13 d_Mod_width_4 (by decide) (c1)) rfl ?_
    refine EvF.gop 14 (go_iload_n d_Mod_width_13 rfl 2 rfl) rfl ?_
    refine EvF.gop 15 (go_iconst (v := 1) d_Mod_width_14 (by decide)) rfl ?_
    by_cases c5 : y < 1
    · have c5x : ¬ 1 ≤ y := Int32.not_le.mpr c5
      refine EvF.gop 24 (go_icmp_lt_t 24 d_Mod_width_15 (by decide) (c5)) rfl ?_
      refine EvF.gop 25 (go_iconst (v := (-1)) d_Mod_width_24 (by decide)) rfl ?_
      exact EvF.ri d_Mod_width_25 rfl (rfl) (rfl)
    · have c5x : 1 ≤ y := Int32.not_lt.mp c5
      refine EvF.gop 18 (go_icmp_lt_f 24 d_Mod_width_15 (by decide) (c5)) rfl ?_
      refine EvF.gop 19 (go_iload_n d_Mod_width_18 rfl 2 rfl) rfl ?_
      refine EvF.gop 21 (go_bipush (v := 20) d_Mod_width_19 (by decide)) rfl ?_
      by_cases c6 : y ≤ 20
      · have c6x : ¬ 20 < y := Int32.not_lt.mpr c6
        refine EvF.gop 26 (go_icmp_le_t 26 d_Mod_width_21 (by decide) (c6)) rfl ?_
        exfalso
        revert hx; simp [cWid, *]
      · have c6x : 20 < y := Int32.not_le.mp c6
        refine EvF.gop 24 (go_icmp_le_f 26 d_Mod_width_21 (by decide) (c6)) rfl ?_
        refine EvF.gop 25 (go_iconst (v := (-1)) d_Mod_width_24 (by decide)) rfl ?_
        exact EvF.ri d_Mod_width_25 rfl (rfl) (rfl)
theorem cWid_ix {x : Int32} (h : cWid x = true) : x = nI x.toNatClampNeg ∧ x.toNatClampNeg < 128 := by
  have h1 : 0 ≤ x ∧ x < 128 := by
    simp only [cWid, Bool.or_eq_true, decide_eq_true_eq] at h
    rcases h with h | h
    · simp only [cLet, Bool.and_eq_true, decide_eq_true_eq] at h
      exact ⟨Int32.le_trans (by decide) h.1, Int32.lt_of_le_of_lt h.2 (by decide)⟩
    · subst h; decide
  obtain ⟨j, hj, e, -⟩ := pk_mu (x := x) (L := 128) (Int32.not_lt.mpr h1.1) (Int32.not_le.mpr h1.2) (by decide)
  subst e
  rw [nI_clamp (by omega)]
  exact ⟨rfl, hj⟩
theorem e_Mod_width (G : gG) (M : gM) (A : Nat) (a : Nat → Nat) (s : Nat → Int32) (c : Int64) (wt : Nat → Int32) (x y : Int32) (hI : InjA A a) (hA : gRd M A = some (.inr (11, oMod a s c))) (m2 : gRd M (a 2) = some (aI G 128 wt)) (hx : cWid x = true) (hy1 : 1 ≤ y) (hy2 : y ≤ 20) : Ev G 1 m_Mod_width [.ref A, .int x, .int y] M (some (.int 0)) (gWr M (a 2) (aI G 128 (upd wt x.toNatClampNeg y))) := by
  have hix := cWid_ix hx
  refine Ev.of (Nat.le_of_ble_eq_true rfl) ?_
  show EvF G 1 m_Mod_width (0, [(0, .ref A), (1, .int x), (2, .int y)], [], M) _ _
  refine EvF.gop 1 (go_iload_n d_Mod_width_0 rfl 1 rfl) rfl ?_
  refine EvF.gop 4 (go_callS [.int x] [.int (bI (cLet x))] c0_Mod_letter sm_Mod_letter lk_Mod_111 d_Mod_width_1 (e_Mod_letter G _ x) (by decide) rfl rfl (Nat.le_of_ble_eq_true rfl) rfl) rfl ?_
  by_cases c1 : (bI (cLet x)) = 0
  · have c1x : (cLet x) = false := bI_0.mp c1
    refine EvF.gop 7 (go_if_ne_f 13 d_Mod_width_4 (by decide) (c1)) rfl ?_
    refine EvF.gop 8 (go_iload_n d_Mod_width_7 rfl 1 rfl) rfl ?_
    refine EvF.gop 10 (go_bipush (v := 45) d_Mod_width_8 (by decide)) rfl ?_
    by_cases c2 : x = 45
    · refine EvF.gop 13 (go_icmp_ne_f 24 d_Mod_width_10 (by decide) (c2)) rfl ?_
      refine EvF.gop 14 (go_iload_n d_Mod_width_13 rfl 2 rfl) rfl ?_
      refine EvF.gop 15 (go_iconst (v := 1) d_Mod_width_14 (by decide)) rfl ?_
      refine EvF.gop 18 (go_icmp_lt_f 24 d_Mod_width_15 (by decide) (Int32.not_lt.mpr hy1)) rfl ?_
      refine EvF.gop 19 (go_iload_n d_Mod_width_18 rfl 2 rfl) rfl ?_
      refine EvF.gop 21 (go_bipush (v := 20) d_Mod_width_19 (by decide)) rfl ?_
      refine EvF.gop 26 (go_icmp_le_t 26 d_Mod_width_21 (by decide) (hy2)) rfl ?_
      refine EvF.gop 27 (go_aload_n d_Mod_width_26 rfl 0 rfl) rfl ?_
      refine EvF.gop 30 (go_get f_Mod_13 d_Mod_width_27 (hA) rfl) rfl ?_
      refine EvF.gop 31 (go_iload_n d_Mod_width_30 rfl 1 rfl) rfl ?_
      refine EvF.gop 32 (go_iload_n d_Mod_width_31 rfl 2 rfl) rfl ?_
      refine EvF.gop 33 (go_iast (j := x.toNatClampNeg) d_Mod_width_32 (m2) (hix.1) (hix.2) (by omega)) rfl ?_
      refine EvF.gop 34 (go_iconst (v := 0) d_Mod_width_33 (by decide)) rfl ?_
      exact EvF.ri d_Mod_width_34 rfl (rfl) (rfl)
    · refine EvF.gop 24 (go_icmp_ne_t 24 d_Mod_width_10 (by decide) (c2)) rfl ?_
      exfalso
      clear hix
      revert hx; simp [cWid, *]
  · have c1x : (cLet x) = true := bI_n0.mp c1
    refine EvF.gop 13 (go_if_ne_t 13 d_Mod_width_4 (by decide) (c1)) rfl ?_
    refine EvF.gop 14 (go_iload_n d_Mod_width_13 rfl 2 rfl) rfl ?_
    refine EvF.gop 15 (go_iconst (v := 1) d_Mod_width_14 (by decide)) rfl ?_
    refine EvF.gop 18 (go_icmp_lt_f 24 d_Mod_width_15 (by decide) (Int32.not_lt.mpr hy1)) rfl ?_
    refine EvF.gop 19 (go_iload_n d_Mod_width_18 rfl 2 rfl) rfl ?_
    refine EvF.gop 21 (go_bipush (v := 20) d_Mod_width_19 (by decide)) rfl ?_
    refine EvF.gop 26 (go_icmp_le_t 26 d_Mod_width_21 (by decide) (hy2)) rfl ?_
    refine EvF.gop 27 (go_aload_n d_Mod_width_26 rfl 0 rfl) rfl ?_
    refine EvF.gop 30 (go_get f_Mod_13 d_Mod_width_27 (hA) rfl) rfl ?_
    refine EvF.gop 31 (go_iload_n d_Mod_width_30 rfl 1 rfl) rfl ?_
    refine EvF.gop 32 (go_iload_n d_Mod_width_31 rfl 2 rfl) rfl ?_
    refine EvF.gop 33 (go_iast (j := x.toNatClampNeg) d_Mod_width_32 (m2) (hix.1) (hix.2) (by omega)) rfl ?_
    refine EvF.gop 34 (go_iconst (v := 0) d_Mod_width_33 (by decide)) rfl ?_
    exact EvF.ri d_Mod_width_34 rfl (rfl) (rfl)
theorem e_Mod_par0 (G : gG) (M : gM) (A : Nat) (a : Nat → Nat) (s : Nat → Int32) (c : Int64) (PP : Nat → Int32) (y : Int32) (hI : InjA A a) (hA : gRd M A = some (.inr (11, oMod a s c))) (m3 : gRd M (a 3) = some (aI G 5 PP)) (h1 : 10 ≤ y) (h2 : y ≤ 400) : Ev G 0 m_Mod_parameter [.ref A, .int 0, .int y] M (some (.int 0)) (gWr M (a 3) (aI G 5 (upd PP 0 y))) := by
  refine Ev.of (Nat.le_of_ble_eq_true rfl) ?_
  show EvF G 0 m_Mod_parameter (0, [(0, .ref A), (1, .int 0), (2, .int y)], [], M) _ _
  refine EvF.gop 1 (go_iload_n d_Mod_parameter_0 rfl 1 rfl) rfl ?_
  refine EvF.gop 4 (go_if_lt_f 9 d_Mod_parameter_1 (by decide) (by decide)) rfl ?_
  refine EvF.gop 5 (go_iload_n d_Mod_parameter_4 rfl 1 rfl) rfl ?_
  refine EvF.gop 6 (go_iconst (v := 4) d_Mod_parameter_5 (by decide)) rfl ?_
  refine EvF.gop 11 (go_icmp_le_t 11 d_Mod_parameter_6 (by decide) (by decide)) rfl ?_
  refine EvF.gop 12 (go_iload_n d_Mod_parameter_11 rfl 1 rfl) rfl ?_
  refine EvF.gop 15 (go_if_ne_f 20 d_Mod_parameter_12 (by decide) (by decide)) rfl ?_
  refine EvF.gop 17 (go_bipush (v := 10) d_Mod_parameter_15 (by decide)) rfl ?_
  refine EvF.gop 21 (go_goto 21 d_Mod_parameter_17 (by decide)) rfl ?_
  refine EvF.gop 22 (go_istore_n [(3, .int 10), (0, .ref A), (1, .int 0), (2, .int y)] d_Mod_parameter_21 rfl (by decide) rfl) rfl ?_
  refine EvF.go (go_pick [1, 2, 3, 0] [(0, .ref A), (1, .int 0), (2, .int y), (3, .int 10)] rfl) ?_
  refine EvF.gop 23 (go_iload_n d_Mod_parameter_22 rfl 1 rfl) rfl ?_
  refine EvF.gop 26 (go_if_ne_f 32 d_Mod_parameter_23 (by decide) (by decide)) rfl ?_
  refine EvF.gop 29 (go_sipush (v := 400) d_Mod_parameter_26 (by decide)) rfl ?_
  refine EvF.gop 56 (go_goto 56 d_Mod_parameter_29 (by decide)) rfl ?_
  refine EvF.gop 58 (go_istore [(4, .int 400), (0, .ref A), (1, .int 0), (2, .int y), (3, .int 10)] d_Mod_parameter_56 (by decide) rfl) rfl ?_
  refine EvF.go (go_pick [1, 2, 3, 4, 0] [(0, .ref A), (1, .int 0), (2, .int y), (3, .int 10), (4, .int 400)] rfl) ?_
  refine EvF.gop 59 (go_iload_n d_Mod_parameter_58 rfl 2 rfl) rfl ?_
  refine EvF.gop 60 (go_iload_n d_Mod_parameter_59 rfl 3 rfl) rfl ?_
  refine EvF.gop 63 (go_icmp_lt_f 69 d_Mod_parameter_60 (by decide) (Int32.not_lt.mpr h1)) rfl ?_
  refine EvF.gop 64 (go_iload_n d_Mod_parameter_63 rfl 2 rfl) rfl ?_
  refine EvF.gop 66 (go_iload d_Mod_parameter_64 4 rfl) rfl ?_
  refine EvF.gop 71 (go_icmp_le_t 71 d_Mod_parameter_66 (by decide) (h2)) rfl ?_
  refine EvF.gop 72 (go_aload_n d_Mod_parameter_71 rfl 0 rfl) rfl ?_
  refine EvF.gop 75 (go_get f_Mod_16 d_Mod_parameter_72 (hA) rfl) rfl ?_
  refine EvF.gop 76 (go_iload_n d_Mod_parameter_75 rfl 1 rfl) rfl ?_
  refine EvF.gop 77 (go_iload_n d_Mod_parameter_76 rfl 2 rfl) rfl ?_
  refine EvF.gop 78 (go_iast (j := 0) d_Mod_parameter_77 (m3) (rfl) (by decide) (by decide)) rfl ?_
  refine EvF.gop 79 (go_iconst (v := 0) d_Mod_parameter_78 (by decide)) rfl ?_
  exact EvF.ri d_Mod_parameter_79 rfl (rfl) (rfl)
theorem e_Mod_par0R (G : gG) (M : gM) (A : Nat) (a : Nat → Nat) (s : Nat → Int32) (c : Int64) (y : Int32) (hI : InjA A a) (hA : gRd M A = some (.inr (11, oMod a s c))) (h1 : ¬ (10 ≤ y ∧ y ≤ 400)) : Ev G 0 m_Mod_parameter [.ref A, .int 0, .int y] M (some (.int (-1))) M := by
  refine Ev.of (Nat.le_of_ble_eq_true rfl) ?_
  show EvF G 0 m_Mod_parameter (0, [(0, .ref A), (1, .int 0), (2, .int y)], [], M) _ _
  refine EvF.gop 1 (go_iload_n d_Mod_parameter_0 rfl 1 rfl) rfl ?_
  refine EvF.gop 4 (go_if_lt_f 9 d_Mod_parameter_1 (by decide) (by decide)) rfl ?_
  refine EvF.gop 5 (go_iload_n d_Mod_parameter_4 rfl 1 rfl) rfl ?_
  refine EvF.gop 6 (go_iconst (v := 4) d_Mod_parameter_5 (by decide)) rfl ?_
  refine EvF.gop 11 (go_icmp_le_t 11 d_Mod_parameter_6 (by decide) (by decide)) rfl ?_
  refine EvF.gop 12 (go_iload_n d_Mod_parameter_11 rfl 1 rfl) rfl ?_
  refine EvF.gop 15 (go_if_ne_f 20 d_Mod_parameter_12 (by decide) (by decide)) rfl ?_
  refine EvF.gop 17 (go_bipush (v := 10) d_Mod_parameter_15 (by decide)) rfl ?_
  refine EvF.gop 21 (go_goto 21 d_Mod_parameter_17 (by decide)) rfl ?_
  refine EvF.gop 22 (go_istore_n [(3, .int 10), (0, .ref A), (1, .int 0), (2, .int y)] d_Mod_parameter_21 rfl (by decide) rfl) rfl ?_
  refine EvF.go (go_pick [1, 2, 3, 0] [(0, .ref A), (1, .int 0), (2, .int y), (3, .int 10)] rfl) ?_
  refine EvF.gop 23 (go_iload_n d_Mod_parameter_22 rfl 1 rfl) rfl ?_
  refine EvF.gop 26 (go_if_ne_f 32 d_Mod_parameter_23 (by decide) (by decide)) rfl ?_
  refine EvF.gop 29 (go_sipush (v := 400) d_Mod_parameter_26 (by decide)) rfl ?_
  refine EvF.gop 56 (go_goto 56 d_Mod_parameter_29 (by decide)) rfl ?_
  refine EvF.gop 58 (go_istore [(4, .int 400), (0, .ref A), (1, .int 0), (2, .int y), (3, .int 10)] d_Mod_parameter_56 (by decide) rfl) rfl ?_
  refine EvF.go (go_pick [1, 2, 3, 4, 0] [(0, .ref A), (1, .int 0), (2, .int y), (3, .int 10), (4, .int 400)] rfl) ?_
  refine EvF.gop 59 (go_iload_n d_Mod_parameter_58 rfl 2 rfl) rfl ?_
  refine EvF.gop 60 (go_iload_n d_Mod_parameter_59 rfl 3 rfl) rfl ?_
  by_cases c1 : y < 10
  · have c1x : ¬ 10 ≤ y := Int32.not_le.mpr c1
    refine EvF.gop 69 (go_icmp_lt_t 69 d_Mod_parameter_60 (by decide) (c1)) rfl ?_
    refine EvF.gop 70 (go_iconst (v := (-1)) d_Mod_parameter_69 (by decide)) rfl ?_
    exact EvF.ri d_Mod_parameter_70 rfl (rfl) (rfl)
  · have c1x : 10 ≤ y := Int32.not_lt.mp c1
    refine EvF.gop 63 (go_icmp_lt_f 69 d_Mod_parameter_60 (by decide) (c1)) rfl ?_
    refine EvF.gop 64 (go_iload_n d_Mod_parameter_63 rfl 2 rfl) rfl ?_
    refine EvF.gop 66 (go_iload d_Mod_parameter_64 4 rfl) rfl ?_
    by_cases c2 : y ≤ 400
    · have c2x : ¬ 400 < y := Int32.not_lt.mpr c2
      refine EvF.gop 71 (go_icmp_le_t 71 d_Mod_parameter_66 (by decide) (c2)) rfl ?_
      exact absurd ⟨by assumption, by assumption⟩ h1
    · have c2x : 400 < y := Int32.not_le.mp c2
      refine EvF.gop 69 (go_icmp_le_f 71 d_Mod_parameter_66 (by decide) (c2)) rfl ?_
      refine EvF.gop 70 (go_iconst (v := (-1)) d_Mod_parameter_69 (by decide)) rfl ?_
      exact EvF.ri d_Mod_parameter_70 rfl (rfl) (rfl)
theorem e_Mod_par1 (G : gG) (M : gM) (A : Nat) (a : Nat → Nat) (s : Nat → Int32) (c : Int64) (PP : Nat → Int32) (y : Int32) (hI : InjA A a) (hA : gRd M A = some (.inr (11, oMod a s c))) (m3 : gRd M (a 3) = some (aI G 5 PP)) (h1 : 0 ≤ y) (h2 : y ≤ 10000) : Ev G 0 m_Mod_parameter [.ref A, .int 1, .int y] M (some (.int 0)) (gWr M (a 3) (aI G 5 (upd PP 1 y))) := by
  refine Ev.of (Nat.le_of_ble_eq_true rfl) ?_
  show EvF G 0 m_Mod_parameter (0, [(0, .ref A), (1, .int 1), (2, .int y)], [], M) _ _
  refine EvF.gop 1 (go_iload_n d_Mod_parameter_0 rfl 1 rfl) rfl ?_
  refine EvF.gop 4 (go_if_lt_f 9 d_Mod_parameter_1 (by decide) (by decide)) rfl ?_
  refine EvF.gop 5 (go_iload_n d_Mod_parameter_4 rfl 1 rfl) rfl ?_
  refine EvF.gop 6 (go_iconst (v := 4) d_Mod_parameter_5 (by decide)) rfl ?_
  refine EvF.gop 11 (go_icmp_le_t 11 d_Mod_parameter_6 (by decide) (by decide)) rfl ?_
  refine EvF.gop 12 (go_iload_n d_Mod_parameter_11 rfl 1 rfl) rfl ?_
  refine EvF.gop 20 (go_if_ne_t 20 d_Mod_parameter_12 (by decide) (by decide)) rfl ?_
  refine EvF.gop 21 (go_iconst (v := 0) d_Mod_parameter_20 (by decide)) rfl ?_
  refine EvF.gop 22 (go_istore_n [(3, .int 0), (0, .ref A), (1, .int 1), (2, .int y)] d_Mod_parameter_21 rfl (by decide) rfl) rfl ?_
  refine EvF.go (go_pick [1, 2, 3, 0] [(0, .ref A), (1, .int 1), (2, .int y), (3, .int 0)] rfl) ?_
  refine EvF.gop 23 (go_iload_n d_Mod_parameter_22 rfl 1 rfl) rfl ?_
  refine EvF.gop 32 (go_if_ne_t 32 d_Mod_parameter_23 (by decide) (by decide)) rfl ?_
  refine EvF.gop 33 (go_iload_n d_Mod_parameter_32 rfl 1 rfl) rfl ?_
  refine EvF.gop 34 (go_iconst (v := 2) d_Mod_parameter_33 (by decide)) rfl ?_
  refine EvF.gop 42 (go_icmp_ne_t 42 d_Mod_parameter_34 (by decide) (by decide)) rfl ?_
  refine EvF.gop 43 (go_iload_n d_Mod_parameter_42 rfl 1 rfl) rfl ?_
  refine EvF.gop 44 (go_iconst (v := 3) d_Mod_parameter_43 (by decide)) rfl ?_
  refine EvF.gop 53 (go_icmp_ne_t 53 d_Mod_parameter_44 (by decide) (by decide)) rfl ?_
  refine EvF.gop 56 (go_sipush (v := 10000) d_Mod_parameter_53 (by decide)) rfl ?_
  refine EvF.gop 58 (go_istore [(4, .int 10000), (0, .ref A), (1, .int 1), (2, .int y), (3, .int 0)] d_Mod_parameter_56 (by decide) rfl) rfl ?_
  refine EvF.go (go_pick [1, 2, 3, 4, 0] [(0, .ref A), (1, .int 1), (2, .int y), (3, .int 0), (4, .int 10000)] rfl) ?_
  refine EvF.gop 59 (go_iload_n d_Mod_parameter_58 rfl 2 rfl) rfl ?_
  refine EvF.gop 60 (go_iload_n d_Mod_parameter_59 rfl 3 rfl) rfl ?_
  refine EvF.gop 63 (go_icmp_lt_f 69 d_Mod_parameter_60 (by decide) (Int32.not_lt.mpr h1)) rfl ?_
  refine EvF.gop 64 (go_iload_n d_Mod_parameter_63 rfl 2 rfl) rfl ?_
  refine EvF.gop 66 (go_iload d_Mod_parameter_64 4 rfl) rfl ?_
  refine EvF.gop 71 (go_icmp_le_t 71 d_Mod_parameter_66 (by decide) (h2)) rfl ?_
  refine EvF.gop 72 (go_aload_n d_Mod_parameter_71 rfl 0 rfl) rfl ?_
  refine EvF.gop 75 (go_get f_Mod_16 d_Mod_parameter_72 (hA) rfl) rfl ?_
  refine EvF.gop 76 (go_iload_n d_Mod_parameter_75 rfl 1 rfl) rfl ?_
  refine EvF.gop 77 (go_iload_n d_Mod_parameter_76 rfl 2 rfl) rfl ?_
  refine EvF.gop 78 (go_iast (j := 1) d_Mod_parameter_77 (m3) (rfl) (by decide) (by decide)) rfl ?_
  refine EvF.gop 79 (go_iconst (v := 0) d_Mod_parameter_78 (by decide)) rfl ?_
  exact EvF.ri d_Mod_parameter_79 rfl (rfl) (rfl)
theorem e_Mod_par1R (G : gG) (M : gM) (A : Nat) (a : Nat → Nat) (s : Nat → Int32) (c : Int64) (y : Int32) (hI : InjA A a) (hA : gRd M A = some (.inr (11, oMod a s c))) (h1 : ¬ (0 ≤ y ∧ y ≤ 10000)) : Ev G 0 m_Mod_parameter [.ref A, .int 1, .int y] M (some (.int (-1))) M := by
  refine Ev.of (Nat.le_of_ble_eq_true rfl) ?_
  show EvF G 0 m_Mod_parameter (0, [(0, .ref A), (1, .int 1), (2, .int y)], [], M) _ _
  refine EvF.gop 1 (go_iload_n d_Mod_parameter_0 rfl 1 rfl) rfl ?_
  refine EvF.gop 4 (go_if_lt_f 9 d_Mod_parameter_1 (by decide) (by decide)) rfl ?_
  refine EvF.gop 5 (go_iload_n d_Mod_parameter_4 rfl 1 rfl) rfl ?_
  refine EvF.gop 6 (go_iconst (v := 4) d_Mod_parameter_5 (by decide)) rfl ?_
  refine EvF.gop 11 (go_icmp_le_t 11 d_Mod_parameter_6 (by decide) (by decide)) rfl ?_
  refine EvF.gop 12 (go_iload_n d_Mod_parameter_11 rfl 1 rfl) rfl ?_
  refine EvF.gop 20 (go_if_ne_t 20 d_Mod_parameter_12 (by decide) (by decide)) rfl ?_
  refine EvF.gop 21 (go_iconst (v := 0) d_Mod_parameter_20 (by decide)) rfl ?_
  refine EvF.gop 22 (go_istore_n [(3, .int 0), (0, .ref A), (1, .int 1), (2, .int y)] d_Mod_parameter_21 rfl (by decide) rfl) rfl ?_
  refine EvF.go (go_pick [1, 2, 3, 0] [(0, .ref A), (1, .int 1), (2, .int y), (3, .int 0)] rfl) ?_
  refine EvF.gop 23 (go_iload_n d_Mod_parameter_22 rfl 1 rfl) rfl ?_
  refine EvF.gop 32 (go_if_ne_t 32 d_Mod_parameter_23 (by decide) (by decide)) rfl ?_
  refine EvF.gop 33 (go_iload_n d_Mod_parameter_32 rfl 1 rfl) rfl ?_
  refine EvF.gop 34 (go_iconst (v := 2) d_Mod_parameter_33 (by decide)) rfl ?_
  refine EvF.gop 42 (go_icmp_ne_t 42 d_Mod_parameter_34 (by decide) (by decide)) rfl ?_
  refine EvF.gop 43 (go_iload_n d_Mod_parameter_42 rfl 1 rfl) rfl ?_
  refine EvF.gop 44 (go_iconst (v := 3) d_Mod_parameter_43 (by decide)) rfl ?_
  refine EvF.gop 53 (go_icmp_ne_t 53 d_Mod_parameter_44 (by decide) (by decide)) rfl ?_
  refine EvF.gop 56 (go_sipush (v := 10000) d_Mod_parameter_53 (by decide)) rfl ?_
  refine EvF.gop 58 (go_istore [(4, .int 10000), (0, .ref A), (1, .int 1), (2, .int y), (3, .int 0)] d_Mod_parameter_56 (by decide) rfl) rfl ?_
  refine EvF.go (go_pick [1, 2, 3, 4, 0] [(0, .ref A), (1, .int 1), (2, .int y), (3, .int 0), (4, .int 10000)] rfl) ?_
  refine EvF.gop 59 (go_iload_n d_Mod_parameter_58 rfl 2 rfl) rfl ?_
  refine EvF.gop 60 (go_iload_n d_Mod_parameter_59 rfl 3 rfl) rfl ?_
  by_cases c1 : y < 0
  · have c1x : ¬ 0 ≤ y := Int32.not_le.mpr c1
    refine EvF.gop 69 (go_icmp_lt_t 69 d_Mod_parameter_60 (by decide) (c1)) rfl ?_
    refine EvF.gop 70 (go_iconst (v := (-1)) d_Mod_parameter_69 (by decide)) rfl ?_
    exact EvF.ri d_Mod_parameter_70 rfl (rfl) (rfl)
  · have c1x : 0 ≤ y := Int32.not_lt.mp c1
    refine EvF.gop 63 (go_icmp_lt_f 69 d_Mod_parameter_60 (by decide) (c1)) rfl ?_
    refine EvF.gop 64 (go_iload_n d_Mod_parameter_63 rfl 2 rfl) rfl ?_
    refine EvF.gop 66 (go_iload d_Mod_parameter_64 4 rfl) rfl ?_
    by_cases c2 : y ≤ 10000
    · have c2x : ¬ 10000 < y := Int32.not_lt.mpr c2
      refine EvF.gop 71 (go_icmp_le_t 71 d_Mod_parameter_66 (by decide) (c2)) rfl ?_
      exact absurd ⟨by assumption, by assumption⟩ h1
    · have c2x : 10000 < y := Int32.not_le.mp c2
      refine EvF.gop 69 (go_icmp_le_f 71 d_Mod_parameter_66 (by decide) (c2)) rfl ?_
      refine EvF.gop 70 (go_iconst (v := (-1)) d_Mod_parameter_69 (by decide)) rfl ?_
      exact EvF.ri d_Mod_parameter_70 rfl (rfl) (rfl)
theorem e_Mod_par2 (G : gG) (M : gM) (A : Nat) (a : Nat → Nat) (s : Nat → Int32) (c : Int64) (PP : Nat → Int32) (y : Int32) (hI : InjA A a) (hA : gRd M A = some (.inr (11, oMod a s c))) (m3 : gRd M (a 3) = some (aI G 5 PP)) (h1 : 0 ≤ y) (h2 : y ≤ 100) : Ev G 0 m_Mod_parameter [.ref A, .int 2, .int y] M (some (.int 0)) (gWr M (a 3) (aI G 5 (upd PP 2 y))) := by
  refine Ev.of (Nat.le_of_ble_eq_true rfl) ?_
  show EvF G 0 m_Mod_parameter (0, [(0, .ref A), (1, .int 2), (2, .int y)], [], M) _ _
  refine EvF.gop 1 (go_iload_n d_Mod_parameter_0 rfl 1 rfl) rfl ?_
  refine EvF.gop 4 (go_if_lt_f 9 d_Mod_parameter_1 (by decide) (by decide)) rfl ?_
  refine EvF.gop 5 (go_iload_n d_Mod_parameter_4 rfl 1 rfl) rfl ?_
  refine EvF.gop 6 (go_iconst (v := 4) d_Mod_parameter_5 (by decide)) rfl ?_
  refine EvF.gop 11 (go_icmp_le_t 11 d_Mod_parameter_6 (by decide) (by decide)) rfl ?_
  refine EvF.gop 12 (go_iload_n d_Mod_parameter_11 rfl 1 rfl) rfl ?_
  refine EvF.gop 20 (go_if_ne_t 20 d_Mod_parameter_12 (by decide) (by decide)) rfl ?_
  refine EvF.gop 21 (go_iconst (v := 0) d_Mod_parameter_20 (by decide)) rfl ?_
  refine EvF.gop 22 (go_istore_n [(3, .int 0), (0, .ref A), (1, .int 2), (2, .int y)] d_Mod_parameter_21 rfl (by decide) rfl) rfl ?_
  refine EvF.go (go_pick [1, 2, 3, 0] [(0, .ref A), (1, .int 2), (2, .int y), (3, .int 0)] rfl) ?_
  refine EvF.gop 23 (go_iload_n d_Mod_parameter_22 rfl 1 rfl) rfl ?_
  refine EvF.gop 32 (go_if_ne_t 32 d_Mod_parameter_23 (by decide) (by decide)) rfl ?_
  refine EvF.gop 33 (go_iload_n d_Mod_parameter_32 rfl 1 rfl) rfl ?_
  refine EvF.gop 34 (go_iconst (v := 2) d_Mod_parameter_33 (by decide)) rfl ?_
  refine EvF.gop 37 (go_icmp_ne_f 42 d_Mod_parameter_34 (by decide) (by decide)) rfl ?_
  refine EvF.gop 39 (go_bipush (v := 100) d_Mod_parameter_37 (by decide)) rfl ?_
  refine EvF.gop 56 (go_goto 56 d_Mod_parameter_39 (by decide)) rfl ?_
  refine EvF.gop 58 (go_istore [(4, .int 100), (0, .ref A), (1, .int 2), (2, .int y), (3, .int 0)] d_Mod_parameter_56 (by decide) rfl) rfl ?_
  refine EvF.go (go_pick [1, 2, 3, 4, 0] [(0, .ref A), (1, .int 2), (2, .int y), (3, .int 0), (4, .int 100)] rfl) ?_
  refine EvF.gop 59 (go_iload_n d_Mod_parameter_58 rfl 2 rfl) rfl ?_
  refine EvF.gop 60 (go_iload_n d_Mod_parameter_59 rfl 3 rfl) rfl ?_
  refine EvF.gop 63 (go_icmp_lt_f 69 d_Mod_parameter_60 (by decide) (Int32.not_lt.mpr h1)) rfl ?_
  refine EvF.gop 64 (go_iload_n d_Mod_parameter_63 rfl 2 rfl) rfl ?_
  refine EvF.gop 66 (go_iload d_Mod_parameter_64 4 rfl) rfl ?_
  refine EvF.gop 71 (go_icmp_le_t 71 d_Mod_parameter_66 (by decide) (h2)) rfl ?_
  refine EvF.gop 72 (go_aload_n d_Mod_parameter_71 rfl 0 rfl) rfl ?_
  refine EvF.gop 75 (go_get f_Mod_16 d_Mod_parameter_72 (hA) rfl) rfl ?_
  refine EvF.gop 76 (go_iload_n d_Mod_parameter_75 rfl 1 rfl) rfl ?_
  refine EvF.gop 77 (go_iload_n d_Mod_parameter_76 rfl 2 rfl) rfl ?_
  refine EvF.gop 78 (go_iast (j := 2) d_Mod_parameter_77 (m3) (rfl) (by decide) (by decide)) rfl ?_
  refine EvF.gop 79 (go_iconst (v := 0) d_Mod_parameter_78 (by decide)) rfl ?_
  exact EvF.ri d_Mod_parameter_79 rfl (rfl) (rfl)
theorem e_Mod_par2R (G : gG) (M : gM) (A : Nat) (a : Nat → Nat) (s : Nat → Int32) (c : Int64) (y : Int32) (hI : InjA A a) (hA : gRd M A = some (.inr (11, oMod a s c))) (h1 : ¬ (0 ≤ y ∧ y ≤ 100)) : Ev G 0 m_Mod_parameter [.ref A, .int 2, .int y] M (some (.int (-1))) M := by
  refine Ev.of (Nat.le_of_ble_eq_true rfl) ?_
  show EvF G 0 m_Mod_parameter (0, [(0, .ref A), (1, .int 2), (2, .int y)], [], M) _ _
  refine EvF.gop 1 (go_iload_n d_Mod_parameter_0 rfl 1 rfl) rfl ?_
  refine EvF.gop 4 (go_if_lt_f 9 d_Mod_parameter_1 (by decide) (by decide)) rfl ?_
  refine EvF.gop 5 (go_iload_n d_Mod_parameter_4 rfl 1 rfl) rfl ?_
  refine EvF.gop 6 (go_iconst (v := 4) d_Mod_parameter_5 (by decide)) rfl ?_
  refine EvF.gop 11 (go_icmp_le_t 11 d_Mod_parameter_6 (by decide) (by decide)) rfl ?_
  refine EvF.gop 12 (go_iload_n d_Mod_parameter_11 rfl 1 rfl) rfl ?_
  refine EvF.gop 20 (go_if_ne_t 20 d_Mod_parameter_12 (by decide) (by decide)) rfl ?_
  refine EvF.gop 21 (go_iconst (v := 0) d_Mod_parameter_20 (by decide)) rfl ?_
  refine EvF.gop 22 (go_istore_n [(3, .int 0), (0, .ref A), (1, .int 2), (2, .int y)] d_Mod_parameter_21 rfl (by decide) rfl) rfl ?_
  refine EvF.go (go_pick [1, 2, 3, 0] [(0, .ref A), (1, .int 2), (2, .int y), (3, .int 0)] rfl) ?_
  refine EvF.gop 23 (go_iload_n d_Mod_parameter_22 rfl 1 rfl) rfl ?_
  refine EvF.gop 32 (go_if_ne_t 32 d_Mod_parameter_23 (by decide) (by decide)) rfl ?_
  refine EvF.gop 33 (go_iload_n d_Mod_parameter_32 rfl 1 rfl) rfl ?_
  refine EvF.gop 34 (go_iconst (v := 2) d_Mod_parameter_33 (by decide)) rfl ?_
  refine EvF.gop 37 (go_icmp_ne_f 42 d_Mod_parameter_34 (by decide) (by decide)) rfl ?_
  refine EvF.gop 39 (go_bipush (v := 100) d_Mod_parameter_37 (by decide)) rfl ?_
  refine EvF.gop 56 (go_goto 56 d_Mod_parameter_39 (by decide)) rfl ?_
  refine EvF.gop 58 (go_istore [(4, .int 100), (0, .ref A), (1, .int 2), (2, .int y), (3, .int 0)] d_Mod_parameter_56 (by decide) rfl) rfl ?_
  refine EvF.go (go_pick [1, 2, 3, 4, 0] [(0, .ref A), (1, .int 2), (2, .int y), (3, .int 0), (4, .int 100)] rfl) ?_
  refine EvF.gop 59 (go_iload_n d_Mod_parameter_58 rfl 2 rfl) rfl ?_
  refine EvF.gop 60 (go_iload_n d_Mod_parameter_59 rfl 3 rfl) rfl ?_
  by_cases c1 : y < 0
  · have c1x : ¬ 0 ≤ y := Int32.not_le.mpr c1
    refine EvF.gop 69 (go_icmp_lt_t 69 d_Mod_parameter_60 (by decide) (c1)) rfl ?_
    refine EvF.gop 70 (go_iconst (v := (-1)) d_Mod_parameter_69 (by decide)) rfl ?_
    exact EvF.ri d_Mod_parameter_70 rfl (rfl) (rfl)
  · have c1x : 0 ≤ y := Int32.not_lt.mp c1
    refine EvF.gop 63 (go_icmp_lt_f 69 d_Mod_parameter_60 (by decide) (c1)) rfl ?_
    refine EvF.gop 64 (go_iload_n d_Mod_parameter_63 rfl 2 rfl) rfl ?_
    refine EvF.gop 66 (go_iload d_Mod_parameter_64 4 rfl) rfl ?_
    by_cases c2 : y ≤ 100
    · have c2x : ¬ 100 < y := Int32.not_lt.mpr c2
      refine EvF.gop 71 (go_icmp_le_t 71 d_Mod_parameter_66 (by decide) (c2)) rfl ?_
      exact absurd ⟨by assumption, by assumption⟩ h1
    · have c2x : 100 < y := Int32.not_le.mp c2
      refine EvF.gop 69 (go_icmp_le_f 71 d_Mod_parameter_66 (by decide) (c2)) rfl ?_
      refine EvF.gop 70 (go_iconst (v := (-1)) d_Mod_parameter_69 (by decide)) rfl ?_
      exact EvF.ri d_Mod_parameter_70 rfl (rfl) (rfl)
theorem e_Mod_par3 (G : gG) (M : gM) (A : Nat) (a : Nat → Nat) (s : Nat → Int32) (c : Int64) (PP : Nat → Int32) (y : Int32) (hI : InjA A a) (hA : gRd M A = some (.inr (11, oMod a s c))) (m3 : gRd M (a 3) = some (aI G 5 PP)) (h1 : 0 ≤ y) (h2 : y ≤ 200) : Ev G 0 m_Mod_parameter [.ref A, .int 3, .int y] M (some (.int 0)) (gWr M (a 3) (aI G 5 (upd PP 3 y))) := by
  refine Ev.of (Nat.le_of_ble_eq_true rfl) ?_
  show EvF G 0 m_Mod_parameter (0, [(0, .ref A), (1, .int 3), (2, .int y)], [], M) _ _
  refine EvF.gop 1 (go_iload_n d_Mod_parameter_0 rfl 1 rfl) rfl ?_
  refine EvF.gop 4 (go_if_lt_f 9 d_Mod_parameter_1 (by decide) (by decide)) rfl ?_
  refine EvF.gop 5 (go_iload_n d_Mod_parameter_4 rfl 1 rfl) rfl ?_
  refine EvF.gop 6 (go_iconst (v := 4) d_Mod_parameter_5 (by decide)) rfl ?_
  refine EvF.gop 11 (go_icmp_le_t 11 d_Mod_parameter_6 (by decide) (by decide)) rfl ?_
  refine EvF.gop 12 (go_iload_n d_Mod_parameter_11 rfl 1 rfl) rfl ?_
  refine EvF.gop 20 (go_if_ne_t 20 d_Mod_parameter_12 (by decide) (by decide)) rfl ?_
  refine EvF.gop 21 (go_iconst (v := 0) d_Mod_parameter_20 (by decide)) rfl ?_
  refine EvF.gop 22 (go_istore_n [(3, .int 0), (0, .ref A), (1, .int 3), (2, .int y)] d_Mod_parameter_21 rfl (by decide) rfl) rfl ?_
  refine EvF.go (go_pick [1, 2, 3, 0] [(0, .ref A), (1, .int 3), (2, .int y), (3, .int 0)] rfl) ?_
  refine EvF.gop 23 (go_iload_n d_Mod_parameter_22 rfl 1 rfl) rfl ?_
  refine EvF.gop 32 (go_if_ne_t 32 d_Mod_parameter_23 (by decide) (by decide)) rfl ?_
  refine EvF.gop 33 (go_iload_n d_Mod_parameter_32 rfl 1 rfl) rfl ?_
  refine EvF.gop 34 (go_iconst (v := 2) d_Mod_parameter_33 (by decide)) rfl ?_
  refine EvF.gop 42 (go_icmp_ne_t 42 d_Mod_parameter_34 (by decide) (by decide)) rfl ?_
  refine EvF.gop 43 (go_iload_n d_Mod_parameter_42 rfl 1 rfl) rfl ?_
  refine EvF.gop 44 (go_iconst (v := 3) d_Mod_parameter_43 (by decide)) rfl ?_
  refine EvF.gop 47 (go_icmp_ne_f 53 d_Mod_parameter_44 (by decide) (by decide)) rfl ?_
  refine EvF.gop 50 (go_sipush (v := 200) d_Mod_parameter_47 (by decide)) rfl ?_
  refine EvF.gop 56 (go_goto 56 d_Mod_parameter_50 (by decide)) rfl ?_
  refine EvF.gop 58 (go_istore [(4, .int 200), (0, .ref A), (1, .int 3), (2, .int y), (3, .int 0)] d_Mod_parameter_56 (by decide) rfl) rfl ?_
  refine EvF.go (go_pick [1, 2, 3, 4, 0] [(0, .ref A), (1, .int 3), (2, .int y), (3, .int 0), (4, .int 200)] rfl) ?_
  refine EvF.gop 59 (go_iload_n d_Mod_parameter_58 rfl 2 rfl) rfl ?_
  refine EvF.gop 60 (go_iload_n d_Mod_parameter_59 rfl 3 rfl) rfl ?_
  refine EvF.gop 63 (go_icmp_lt_f 69 d_Mod_parameter_60 (by decide) (Int32.not_lt.mpr h1)) rfl ?_
  refine EvF.gop 64 (go_iload_n d_Mod_parameter_63 rfl 2 rfl) rfl ?_
  refine EvF.gop 66 (go_iload d_Mod_parameter_64 4 rfl) rfl ?_
  refine EvF.gop 71 (go_icmp_le_t 71 d_Mod_parameter_66 (by decide) (h2)) rfl ?_
  refine EvF.gop 72 (go_aload_n d_Mod_parameter_71 rfl 0 rfl) rfl ?_
  refine EvF.gop 75 (go_get f_Mod_16 d_Mod_parameter_72 (hA) rfl) rfl ?_
  refine EvF.gop 76 (go_iload_n d_Mod_parameter_75 rfl 1 rfl) rfl ?_
  refine EvF.gop 77 (go_iload_n d_Mod_parameter_76 rfl 2 rfl) rfl ?_
  refine EvF.gop 78 (go_iast (j := 3) d_Mod_parameter_77 (m3) (rfl) (by decide) (by decide)) rfl ?_
  refine EvF.gop 79 (go_iconst (v := 0) d_Mod_parameter_78 (by decide)) rfl ?_
  exact EvF.ri d_Mod_parameter_79 rfl (rfl) (rfl)
theorem e_Mod_par3R (G : gG) (M : gM) (A : Nat) (a : Nat → Nat) (s : Nat → Int32) (c : Int64) (y : Int32) (hI : InjA A a) (hA : gRd M A = some (.inr (11, oMod a s c))) (h1 : ¬ (0 ≤ y ∧ y ≤ 200)) : Ev G 0 m_Mod_parameter [.ref A, .int 3, .int y] M (some (.int (-1))) M := by
  refine Ev.of (Nat.le_of_ble_eq_true rfl) ?_
  show EvF G 0 m_Mod_parameter (0, [(0, .ref A), (1, .int 3), (2, .int y)], [], M) _ _
  refine EvF.gop 1 (go_iload_n d_Mod_parameter_0 rfl 1 rfl) rfl ?_
  refine EvF.gop 4 (go_if_lt_f 9 d_Mod_parameter_1 (by decide) (by decide)) rfl ?_
  refine EvF.gop 5 (go_iload_n d_Mod_parameter_4 rfl 1 rfl) rfl ?_
  refine EvF.gop 6 (go_iconst (v := 4) d_Mod_parameter_5 (by decide)) rfl ?_
  refine EvF.gop 11 (go_icmp_le_t 11 d_Mod_parameter_6 (by decide) (by decide)) rfl ?_
  refine EvF.gop 12 (go_iload_n d_Mod_parameter_11 rfl 1 rfl) rfl ?_
  refine EvF.gop 20 (go_if_ne_t 20 d_Mod_parameter_12 (by decide) (by decide)) rfl ?_
  refine EvF.gop 21 (go_iconst (v := 0) d_Mod_parameter_20 (by decide)) rfl ?_
  refine EvF.gop 22 (go_istore_n [(3, .int 0), (0, .ref A), (1, .int 3), (2, .int y)] d_Mod_parameter_21 rfl (by decide) rfl) rfl ?_
  refine EvF.go (go_pick [1, 2, 3, 0] [(0, .ref A), (1, .int 3), (2, .int y), (3, .int 0)] rfl) ?_
  refine EvF.gop 23 (go_iload_n d_Mod_parameter_22 rfl 1 rfl) rfl ?_
  refine EvF.gop 32 (go_if_ne_t 32 d_Mod_parameter_23 (by decide) (by decide)) rfl ?_
  refine EvF.gop 33 (go_iload_n d_Mod_parameter_32 rfl 1 rfl) rfl ?_
  refine EvF.gop 34 (go_iconst (v := 2) d_Mod_parameter_33 (by decide)) rfl ?_
  refine EvF.gop 42 (go_icmp_ne_t 42 d_Mod_parameter_34 (by decide) (by decide)) rfl ?_
  refine EvF.gop 43 (go_iload_n d_Mod_parameter_42 rfl 1 rfl) rfl ?_
  refine EvF.gop 44 (go_iconst (v := 3) d_Mod_parameter_43 (by decide)) rfl ?_
  refine EvF.gop 47 (go_icmp_ne_f 53 d_Mod_parameter_44 (by decide) (by decide)) rfl ?_
  refine EvF.gop 50 (go_sipush (v := 200) d_Mod_parameter_47 (by decide)) rfl ?_
  refine EvF.gop 56 (go_goto 56 d_Mod_parameter_50 (by decide)) rfl ?_
  refine EvF.gop 58 (go_istore [(4, .int 200), (0, .ref A), (1, .int 3), (2, .int y), (3, .int 0)] d_Mod_parameter_56 (by decide) rfl) rfl ?_
  refine EvF.go (go_pick [1, 2, 3, 4, 0] [(0, .ref A), (1, .int 3), (2, .int y), (3, .int 0), (4, .int 200)] rfl) ?_
  refine EvF.gop 59 (go_iload_n d_Mod_parameter_58 rfl 2 rfl) rfl ?_
  refine EvF.gop 60 (go_iload_n d_Mod_parameter_59 rfl 3 rfl) rfl ?_
  by_cases c1 : y < 0
  · have c1x : ¬ 0 ≤ y := Int32.not_le.mpr c1
    refine EvF.gop 69 (go_icmp_lt_t 69 d_Mod_parameter_60 (by decide) (c1)) rfl ?_
    refine EvF.gop 70 (go_iconst (v := (-1)) d_Mod_parameter_69 (by decide)) rfl ?_
    exact EvF.ri d_Mod_parameter_70 rfl (rfl) (rfl)
  · have c1x : 0 ≤ y := Int32.not_lt.mp c1
    refine EvF.gop 63 (go_icmp_lt_f 69 d_Mod_parameter_60 (by decide) (c1)) rfl ?_
    refine EvF.gop 64 (go_iload_n d_Mod_parameter_63 rfl 2 rfl) rfl ?_
    refine EvF.gop 66 (go_iload d_Mod_parameter_64 4 rfl) rfl ?_
    by_cases c2 : y ≤ 200
    · have c2x : ¬ 200 < y := Int32.not_lt.mpr c2
      refine EvF.gop 71 (go_icmp_le_t 71 d_Mod_parameter_66 (by decide) (c2)) rfl ?_
      exact absurd ⟨by assumption, by assumption⟩ h1
    · have c2x : 200 < y := Int32.not_le.mp c2
      refine EvF.gop 69 (go_icmp_le_f 71 d_Mod_parameter_66 (by decide) (c2)) rfl ?_
      refine EvF.gop 70 (go_iconst (v := (-1)) d_Mod_parameter_69 (by decide)) rfl ?_
      exact EvF.ri d_Mod_parameter_70 rfl (rfl) (rfl)
theorem e_Mod_par4 (G : gG) (M : gM) (A : Nat) (a : Nat → Nat) (s : Nat → Int32) (c : Int64) (PP : Nat → Int32) (y : Int32) (hI : InjA A a) (hA : gRd M A = some (.inr (11, oMod a s c))) (m3 : gRd M (a 3) = some (aI G 5 PP)) (h1 : 0 ≤ y) (h2 : y ≤ 10000) : Ev G 0 m_Mod_parameter [.ref A, .int 4, .int y] M (some (.int 0)) (gWr M (a 3) (aI G 5 (upd PP 4 y))) := by
  refine Ev.of (Nat.le_of_ble_eq_true rfl) ?_
  show EvF G 0 m_Mod_parameter (0, [(0, .ref A), (1, .int 4), (2, .int y)], [], M) _ _
  refine EvF.gop 1 (go_iload_n d_Mod_parameter_0 rfl 1 rfl) rfl ?_
  refine EvF.gop 4 (go_if_lt_f 9 d_Mod_parameter_1 (by decide) (by decide)) rfl ?_
  refine EvF.gop 5 (go_iload_n d_Mod_parameter_4 rfl 1 rfl) rfl ?_
  refine EvF.gop 6 (go_iconst (v := 4) d_Mod_parameter_5 (by decide)) rfl ?_
  refine EvF.gop 11 (go_icmp_le_t 11 d_Mod_parameter_6 (by decide) (by decide)) rfl ?_
  refine EvF.gop 12 (go_iload_n d_Mod_parameter_11 rfl 1 rfl) rfl ?_
  refine EvF.gop 20 (go_if_ne_t 20 d_Mod_parameter_12 (by decide) (by decide)) rfl ?_
  refine EvF.gop 21 (go_iconst (v := 0) d_Mod_parameter_20 (by decide)) rfl ?_
  refine EvF.gop 22 (go_istore_n [(3, .int 0), (0, .ref A), (1, .int 4), (2, .int y)] d_Mod_parameter_21 rfl (by decide) rfl) rfl ?_
  refine EvF.go (go_pick [1, 2, 3, 0] [(0, .ref A), (1, .int 4), (2, .int y), (3, .int 0)] rfl) ?_
  refine EvF.gop 23 (go_iload_n d_Mod_parameter_22 rfl 1 rfl) rfl ?_
  refine EvF.gop 32 (go_if_ne_t 32 d_Mod_parameter_23 (by decide) (by decide)) rfl ?_
  refine EvF.gop 33 (go_iload_n d_Mod_parameter_32 rfl 1 rfl) rfl ?_
  refine EvF.gop 34 (go_iconst (v := 2) d_Mod_parameter_33 (by decide)) rfl ?_
  refine EvF.gop 42 (go_icmp_ne_t 42 d_Mod_parameter_34 (by decide) (by decide)) rfl ?_
  refine EvF.gop 43 (go_iload_n d_Mod_parameter_42 rfl 1 rfl) rfl ?_
  refine EvF.gop 44 (go_iconst (v := 3) d_Mod_parameter_43 (by decide)) rfl ?_
  refine EvF.gop 53 (go_icmp_ne_t 53 d_Mod_parameter_44 (by decide) (by decide)) rfl ?_
  refine EvF.gop 56 (go_sipush (v := 10000) d_Mod_parameter_53 (by decide)) rfl ?_
  refine EvF.gop 58 (go_istore [(4, .int 10000), (0, .ref A), (1, .int 4), (2, .int y), (3, .int 0)] d_Mod_parameter_56 (by decide) rfl) rfl ?_
  refine EvF.go (go_pick [1, 2, 3, 4, 0] [(0, .ref A), (1, .int 4), (2, .int y), (3, .int 0), (4, .int 10000)] rfl) ?_
  refine EvF.gop 59 (go_iload_n d_Mod_parameter_58 rfl 2 rfl) rfl ?_
  refine EvF.gop 60 (go_iload_n d_Mod_parameter_59 rfl 3 rfl) rfl ?_
  refine EvF.gop 63 (go_icmp_lt_f 69 d_Mod_parameter_60 (by decide) (Int32.not_lt.mpr h1)) rfl ?_
  refine EvF.gop 64 (go_iload_n d_Mod_parameter_63 rfl 2 rfl) rfl ?_
  refine EvF.gop 66 (go_iload d_Mod_parameter_64 4 rfl) rfl ?_
  refine EvF.gop 71 (go_icmp_le_t 71 d_Mod_parameter_66 (by decide) (h2)) rfl ?_
  refine EvF.gop 72 (go_aload_n d_Mod_parameter_71 rfl 0 rfl) rfl ?_
  refine EvF.gop 75 (go_get f_Mod_16 d_Mod_parameter_72 (hA) rfl) rfl ?_
  refine EvF.gop 76 (go_iload_n d_Mod_parameter_75 rfl 1 rfl) rfl ?_
  refine EvF.gop 77 (go_iload_n d_Mod_parameter_76 rfl 2 rfl) rfl ?_
  refine EvF.gop 78 (go_iast (j := 4) d_Mod_parameter_77 (m3) (rfl) (by decide) (by decide)) rfl ?_
  refine EvF.gop 79 (go_iconst (v := 0) d_Mod_parameter_78 (by decide)) rfl ?_
  exact EvF.ri d_Mod_parameter_79 rfl (rfl) (rfl)
theorem e_Mod_par4R (G : gG) (M : gM) (A : Nat) (a : Nat → Nat) (s : Nat → Int32) (c : Int64) (y : Int32) (hI : InjA A a) (hA : gRd M A = some (.inr (11, oMod a s c))) (h1 : ¬ (0 ≤ y ∧ y ≤ 10000)) : Ev G 0 m_Mod_parameter [.ref A, .int 4, .int y] M (some (.int (-1))) M := by
  refine Ev.of (Nat.le_of_ble_eq_true rfl) ?_
  show EvF G 0 m_Mod_parameter (0, [(0, .ref A), (1, .int 4), (2, .int y)], [], M) _ _
  refine EvF.gop 1 (go_iload_n d_Mod_parameter_0 rfl 1 rfl) rfl ?_
  refine EvF.gop 4 (go_if_lt_f 9 d_Mod_parameter_1 (by decide) (by decide)) rfl ?_
  refine EvF.gop 5 (go_iload_n d_Mod_parameter_4 rfl 1 rfl) rfl ?_
  refine EvF.gop 6 (go_iconst (v := 4) d_Mod_parameter_5 (by decide)) rfl ?_
  refine EvF.gop 11 (go_icmp_le_t 11 d_Mod_parameter_6 (by decide) (by decide)) rfl ?_
  refine EvF.gop 12 (go_iload_n d_Mod_parameter_11 rfl 1 rfl) rfl ?_
  refine EvF.gop 20 (go_if_ne_t 20 d_Mod_parameter_12 (by decide) (by decide)) rfl ?_
  refine EvF.gop 21 (go_iconst (v := 0) d_Mod_parameter_20 (by decide)) rfl ?_
  refine EvF.gop 22 (go_istore_n [(3, .int 0), (0, .ref A), (1, .int 4), (2, .int y)] d_Mod_parameter_21 rfl (by decide) rfl) rfl ?_
  refine EvF.go (go_pick [1, 2, 3, 0] [(0, .ref A), (1, .int 4), (2, .int y), (3, .int 0)] rfl) ?_
  refine EvF.gop 23 (go_iload_n d_Mod_parameter_22 rfl 1 rfl) rfl ?_
  refine EvF.gop 32 (go_if_ne_t 32 d_Mod_parameter_23 (by decide) (by decide)) rfl ?_
  refine EvF.gop 33 (go_iload_n d_Mod_parameter_32 rfl 1 rfl) rfl ?_
  refine EvF.gop 34 (go_iconst (v := 2) d_Mod_parameter_33 (by decide)) rfl ?_
  refine EvF.gop 42 (go_icmp_ne_t 42 d_Mod_parameter_34 (by decide) (by decide)) rfl ?_
  refine EvF.gop 43 (go_iload_n d_Mod_parameter_42 rfl 1 rfl) rfl ?_
  refine EvF.gop 44 (go_iconst (v := 3) d_Mod_parameter_43 (by decide)) rfl ?_
  refine EvF.gop 53 (go_icmp_ne_t 53 d_Mod_parameter_44 (by decide) (by decide)) rfl ?_
  refine EvF.gop 56 (go_sipush (v := 10000) d_Mod_parameter_53 (by decide)) rfl ?_
  refine EvF.gop 58 (go_istore [(4, .int 10000), (0, .ref A), (1, .int 4), (2, .int y), (3, .int 0)] d_Mod_parameter_56 (by decide) rfl) rfl ?_
  refine EvF.go (go_pick [1, 2, 3, 4, 0] [(0, .ref A), (1, .int 4), (2, .int y), (3, .int 0), (4, .int 10000)] rfl) ?_
  refine EvF.gop 59 (go_iload_n d_Mod_parameter_58 rfl 2 rfl) rfl ?_
  refine EvF.gop 60 (go_iload_n d_Mod_parameter_59 rfl 3 rfl) rfl ?_
  by_cases c1 : y < 0
  · have c1x : ¬ 0 ≤ y := Int32.not_le.mpr c1
    refine EvF.gop 69 (go_icmp_lt_t 69 d_Mod_parameter_60 (by decide) (c1)) rfl ?_
    refine EvF.gop 70 (go_iconst (v := (-1)) d_Mod_parameter_69 (by decide)) rfl ?_
    exact EvF.ri d_Mod_parameter_70 rfl (rfl) (rfl)
  · have c1x : 0 ≤ y := Int32.not_lt.mp c1
    refine EvF.gop 63 (go_icmp_lt_f 69 d_Mod_parameter_60 (by decide) (c1)) rfl ?_
    refine EvF.gop 64 (go_iload_n d_Mod_parameter_63 rfl 2 rfl) rfl ?_
    refine EvF.gop 66 (go_iload d_Mod_parameter_64 4 rfl) rfl ?_
    by_cases c2 : y ≤ 10000
    · have c2x : ¬ 10000 < y := Int32.not_lt.mpr c2
      refine EvF.gop 71 (go_icmp_le_t 71 d_Mod_parameter_66 (by decide) (c2)) rfl ?_
      exact absurd ⟨by assumption, by assumption⟩ h1
    · have c2x : 10000 < y := Int32.not_le.mp c2
      refine EvF.gop 69 (go_icmp_le_f 71 d_Mod_parameter_66 (by decide) (c2)) rfl ?_
      refine EvF.gop 70 (go_iconst (v := (-1)) d_Mod_parameter_69 (by decide)) rfl ?_
      exact EvF.ri d_Mod_parameter_70 rfl (rfl) (rfl)
theorem e_Mod_parR (G : gG) (M : gM) (A : Nat) (a : Nat → Nat) (s : Nat → Int32) (c : Int64) (x y : Int32) (hI : InjA A a) (hA : gRd M A = some (.inr (11, oMod a s c))) (h1 : x < 0 ∨ 4 < x) : Ev G 0 m_Mod_parameter [.ref A, .int x, .int y] M (some (.int (-1))) M := by
  refine Ev.of (Nat.le_of_ble_eq_true rfl) ?_
  show EvF G 0 m_Mod_parameter (0, [(0, .ref A), (1, .int x), (2, .int y)], [], M) _ _
  refine EvF.gop 1 (go_iload_n d_Mod_parameter_0 rfl 1 rfl) rfl ?_
  by_cases c1 : x < 0
  · have c1x : ¬ 0 ≤ x := Int32.not_le.mpr c1
    refine EvF.gop 9 (go_if_lt_t 9 d_Mod_parameter_1 (by decide) (c1)) rfl ?_
    refine EvF.gop 10 (go_iconst (v := (-1)) d_Mod_parameter_9 (by decide)) rfl ?_
    exact EvF.ri d_Mod_parameter_10 rfl (rfl) (rfl)
  · have c1x : 0 ≤ x := Int32.not_lt.mp c1
    refine EvF.gop 4 (go_if_lt_f 9 d_Mod_parameter_1 (by decide) (c1)) rfl ?_
    refine EvF.gop 5 (go_iload_n d_Mod_parameter_4 rfl 1 rfl) rfl ?_
    refine EvF.gop 6 (go_iconst (v := 4) d_Mod_parameter_5 (by decide)) rfl ?_
    by_cases c2 : x ≤ 4
    · have c2x : ¬ 4 < x := Int32.not_lt.mpr c2
      refine EvF.gop 11 (go_icmp_le_t 11 d_Mod_parameter_6 (by decide) (c2)) rfl ?_
      exact absurd h1 (by rintro (q | q) <;> first | exact absurd q (by assumption) | exact absurd q (Int32.not_lt.mpr (by assumption)))
    · have c2x : 4 < x := Int32.not_le.mp c2
      refine EvF.gop 9 (go_icmp_le_f 11 d_Mod_parameter_6 (by decide) (c2)) rfl ?_
      refine EvF.gop 10 (go_iconst (v := (-1)) d_Mod_parameter_9 (by decide)) rfl ?_
      exact EvF.ri d_Mod_parameter_10 rfl (rfl) (rfl)
