theorem kl_Stg_86 : Cond.constantLong R_Stg 86 (-1) ∈ gTB := gTB_t (gIn3 (List.mem_of_getElem? (i := 77) (by decide +kernel))) (by decide +kernel)
theorem kl_Stg_101 : Cond.constantLong R_Stg 101 (100) ∈ gTB := gTB_t (gIn3 (List.mem_of_getElem? (i := 90) (by decide +kernel))) (by decide +kernel)
theorem kl_Cho_46 : Cond.constantLong R_Cho 46 (-1) ∈ gTB := gTB_t (gIn3 (List.mem_of_getElem? (i := 97) (by decide +kernel))) (by decide +kernel)
theorem kl_Mod_189 : Cond.constantLong R_Mod 189 (-1) ∈ gTB := gTB_t (gIn4 (List.mem_of_getElem? (i := 175) (by decide +kernel))) (by decide +kernel)
theorem kl_Mod_185 : Cond.constantLong R_Mod 185 (100) ∈ gTB := gTB_t (gIn4 (List.mem_of_getElem? (i := 180) (by decide +kernel))) (by decide +kernel)
theorem kl_Mod_187 : Cond.constantLong R_Mod 187 (-100) ∈ gTB := gTB_t (gIn4 (List.mem_of_getElem? (i := 181) (by decide +kernel))) (by decide +kernel)
/-- the cells of a setting q that its measures read: breaks (K, E, B), sums (W, ST, SH, L, DD), parameters PP, chosen ends X -/
def StgAt (G : gG) (M : gM) (a : Nat → Nat) (dw cl ln : Int32) (tt : Int64) (bn : Int32) (K E B W ST SH L DD PP X : Nat → Int32) : Prop :=
  gRd M (a 0) = some (.inr (8, [.ref (a 1), .ref (a 2), .ref (a 3), .ref (a 4), .int dw, .int cl, .ref (a 5), .int ln, .long tt])) ∧
  gRd M (a 2) = some (.inr (6, [.ref (a 6), .ref (a 7), .ref (a 8), .int bn])) ∧
  gRd M (a 6) = some (aI G 25 K) ∧ gRd M (a 7) = some (aI G 25 E) ∧ gRd M (a 8) = some (aI G 25 B) ∧
  gRd M (a 3) = some (.inr (7, [.ref (a 9), .ref (a 10), .ref (a 11), .ref (a 12), .ref (a 13)])) ∧
  gRd M (a 9) = some (aI G 121 W) ∧ gRd M (a 10) = some (aI G 121 ST) ∧ gRd M (a 11) = some (aI G 121 SH) ∧ gRd M (a 12) = some (aI G 121 L) ∧ gRd M (a 13) = some (aI G 121 DD) ∧
  gRd M (a 4) = some (aI G 5 PP) ∧ gRd M (a 5) = some (aI G 25 X)
/-- over -/
theorem e_Stg_over (G : gG) (M : gM) (a : Nat → Nat) (dw cl ln : Int32) (tt : Int64) (bn : Int32) (K E B W ST SH L DD PP X : Nat → Int32) (i j e g : Nat) (z : Nat) (f : Nat → Int32) (hq : StgAt G M a dw cl ln tt bn K E B W ST SH L DD PP X) (hi : i < 25) (hj : j < 25) (hE : E j = nI e) (hB : B i = nI g) (he : e < 121) (hg : g < 121) (hz : gRd M z = some (aI G 121 f)) : Ev G 0 m_Stg_over [.ref (a 0), .ref z, .int (nI i), .int (nI j)] M (some (.int (f e - f g))) M := by
  refine Ev.of (Nat.le_of_ble_eq_true rfl) ?_
  show EvF G 0 m_Stg_over (0, [(0, .ref (a 0)), (1, .ref z), (2, .int (nI i)), (3, .int (nI j))], [], M) _ _
  refine EvF.gop 1 (go_aload_n d_Stg_over_0 rfl 1 rfl) rfl ?_
  refine EvF.gop 2 (go_aload_n d_Stg_over_1 rfl 0 rfl) rfl ?_
  refine EvF.gop 5 (go_get f_Stg_21 d_Stg_over_2 (hq.1) rfl) rfl ?_
  refine EvF.gop 8 (go_get f_Stg_130 d_Stg_over_5 (hq.2.1) rfl) rfl ?_
  refine EvF.gop 9 (go_iload_n d_Stg_over_8 rfl 3 rfl) rfl ?_
  refine EvF.gop 10 (go_iald (j := j) d_Stg_over_9 (hq.2.2.2.1) (rfl) (hj) (by omega)) rfl ?_
  refine EvF.go (go_v (y := nI e) (hE)) ?_
  refine EvF.gop 11 (go_iald (j := e) d_Stg_over_10 (hz) (rfl) (he) (by omega)) rfl ?_
  refine EvF.gop 12 (go_aload_n d_Stg_over_11 rfl 1 rfl) rfl ?_
  refine EvF.gop 13 (go_aload_n d_Stg_over_12 rfl 0 rfl) rfl ?_
  refine EvF.gop 16 (go_get f_Stg_21 d_Stg_over_13 (hq.1) rfl) rfl ?_
  refine EvF.gop 19 (go_get f_Stg_124 d_Stg_over_16 (hq.2.1) rfl) rfl ?_
  refine EvF.gop 20 (go_iload_n d_Stg_over_19 rfl 2 rfl) rfl ?_
  refine EvF.gop 21 (go_iald (j := i) d_Stg_over_20 (hq.2.2.2.2.1) (rfl) (hi) (by omega)) rfl ?_
  refine EvF.go (go_v (y := nI g) (hB)) ?_
  refine EvF.gop 22 (go_iald (j := g) d_Stg_over_21 (hz) (rfl) (hg) (by omega)) rfl ?_
  refine EvF.gop 23 (go_isub d_Stg_over_22) rfl ?_
  exact EvF.ri d_Stg_over_23 rfl (rfl) (rfl)
/-- Stg_letters -/
theorem e_Stg_letters (G : gG) (M : gM) (a : Nat → Nat) (dw cl ln : Int32) (tt : Int64) (bn : Int32) (K E B W ST SH L DD PP X : Nat → Int32) (i j e g : Nat) (hq : StgAt G M a dw cl ln tt bn K E B W ST SH L DD PP X) (hi : i < 25) (hj : j < 25) (hE : E j = nI e) (hB : B i = nI g) (he : e < 121) (hg : g < 121) : Ev G 1 m_Stg_letters [.ref (a 0), .int (nI i), .int (nI j)] M (some (.int (L e - L g))) M := by
  refine Ev.of (Nat.le_of_ble_eq_true rfl) ?_
  show EvF G 1 m_Stg_letters (0, [(0, .ref (a 0)), (1, .int (nI i)), (2, .int (nI j))], [], M) _ _
  refine EvF.gop 1 (go_aload_n d_Stg_letters_0 rfl 0 rfl) rfl ?_
  refine EvF.gop 2 (go_aload_n d_Stg_letters_1 rfl 0 rfl) rfl ?_
  refine EvF.gop 5 (go_get f_Stg_28 d_Stg_letters_2 (hq.1) rfl) rfl ?_
  refine EvF.gop 8 (go_get f_Stg_64 d_Stg_letters_5 (hq.2.2.2.2.2.1) rfl) rfl ?_
  refine EvF.gop 9 (go_iload_n d_Stg_letters_8 rfl 1 rfl) rfl ?_
  refine EvF.gop 10 (go_iload_n d_Stg_letters_9 rfl 2 rfl) rfl ?_
  refine EvF.gop 13 (go_callV [.ref (a 12), .int (nI i), .int (nI j)] [.int (L e - L g)] c0_Stg_over im_Stg_over se_Stg_over lk_Stg_67 d_Stg_letters_10 rfl rfl (hq.1) (e_Stg_over G M a dw cl ln tt bn K E B W ST SH L DD PP X i j e g (a 12) L hq hi hj hE hB he hg hq.2.2.2.2.2.2.2.2.2.1) (by decide) rfl rfl (Nat.le_of_ble_eq_true rfl) rfl) rfl ?_
  exact EvF.ri d_Stg_letters_13 rfl (rfl) (rfl)
def naI (W K : Nat → Int32) (dw : Int32) (j e g : Nat) : Int32 := (W e - W g) + (if K j = 2 then dw else 0)
/-- Stg_natural -/
theorem e_Stg_natural (G : gG) (M : gM) (a : Nat → Nat) (dw cl ln : Int32) (tt : Int64) (bn : Int32) (K E B W ST SH L DD PP X : Nat → Int32) (i j e g : Nat) (hq : StgAt G M a dw cl ln tt bn K E B W ST SH L DD PP X) (hi : i < 25) (hj : j < 25) (hE : E j = nI e) (hB : B i = nI g) (he : e < 121) (hg : g < 121) : Ev G 1 m_Stg_natural [.ref (a 0), .int (nI i), .int (nI j)] M (some (.int (naI W K dw j e g))) M := by
  refine Ev.of (Nat.le_of_ble_eq_true rfl) ?_
  show EvF G 1 m_Stg_natural (0, [(0, .ref (a 0)), (1, .int (nI i)), (2, .int (nI j))], [], M) _ _
  refine EvF.gop 1 (go_aload_n d_Stg_natural_0 rfl 0 rfl) rfl ?_
  refine EvF.gop 2 (go_aload_n d_Stg_natural_1 rfl 0 rfl) rfl ?_
  refine EvF.gop 5 (go_get f_Stg_28 d_Stg_natural_2 (hq.1) rfl) rfl ?_
  refine EvF.gop 8 (go_get f_Stg_71 d_Stg_natural_5 (hq.2.2.2.2.2.1) rfl) rfl ?_
  refine EvF.gop 9 (go_iload_n d_Stg_natural_8 rfl 1 rfl) rfl ?_
  refine EvF.gop 10 (go_iload_n d_Stg_natural_9 rfl 2 rfl) rfl ?_
  refine EvF.gop 13 (go_callV [.ref (a 9), .int (nI i), .int (nI j)] [.int (W e - W g)] c0_Stg_over im_Stg_over se_Stg_over lk_Stg_67 d_Stg_natural_10 rfl rfl (hq.1) (e_Stg_over G M a dw cl ln tt bn K E B W ST SH L DD PP X i j e g (a 9) W hq hi hj hE hB he hg hq.2.2.2.2.2.2.1) (by decide) rfl rfl (Nat.le_of_ble_eq_true rfl) rfl) rfl ?_
  refine EvF.gop 14 (go_aload_n d_Stg_natural_13 rfl 0 rfl) rfl ?_
  refine EvF.gop 17 (go_get f_Stg_21 d_Stg_natural_14 (hq.1) rfl) rfl ?_
  refine EvF.gop 20 (go_get f_Stg_74 d_Stg_natural_17 (hq.2.1) rfl) rfl ?_
  refine EvF.gop 21 (go_iload_n d_Stg_natural_20 rfl 2 rfl) rfl ?_
  refine EvF.gop 22 (go_iald (j := j) d_Stg_natural_21 (hq.2.2.1) (rfl) (by omega) (by omega)) rfl ?_
  refine EvF.gop 23 (go_iconst (v := 2) d_Stg_natural_22 (by decide)) rfl ?_
  by_cases c1 : (K j) = 2
  · refine EvF.gop 26 (go_icmp_ne_f 33 d_Stg_natural_23 (by decide) (c1)) rfl ?_
    refine EvF.gop 27 (go_aload_n d_Stg_natural_26 rfl 0 rfl) rfl ?_
    refine EvF.gop 30 (go_get f_Stg_39 d_Stg_natural_27 (hq.1) rfl) rfl ?_
    refine EvF.gop 34 (go_goto 34 d_Stg_natural_30 (by decide)) rfl ?_
    refine EvF.gop 35 (go_iadd d_Stg_natural_34) rfl ?_
    exact EvF.ri d_Stg_natural_35 rfl (by simp [naI, *]) (rfl)
  · refine EvF.gop 33 (go_icmp_ne_t 33 d_Stg_natural_23 (by decide) (c1)) rfl ?_
    refine EvF.gop 34 (go_iconst (v := 0) d_Stg_natural_33 (by decide)) rfl ?_
    refine EvF.gop 35 (go_iadd d_Stg_natural_34) rfl ?_
    exact EvF.ri d_Stg_natural_35 rfl (by simp [naI, *]) (rfl)
/-- Stg_difference -/
theorem e_Stg_difference (G : gG) (M : gM) (a : Nat → Nat) (dw cl ln : Int32) (tt : Int64) (bn : Int32) (K E B W ST SH L DD PP X : Nat → Int32) (i j e g : Nat) (hq : StgAt G M a dw cl ln tt bn K E B W ST SH L DD PP X) (hi : i < 25) (hj : j < 25) (hE : E j = nI e) (hB : B i = nI g) (he : e < 121) (hg : g < 121) : Ev G 2 m_Stg_difference [.ref (a 0), .int (nI i), .int (nI j)] M (some (.int (PP 0 - naI W K dw j e g))) M := by
  refine Ev.of (Nat.le_of_ble_eq_true rfl) ?_
  show EvF G 2 m_Stg_difference (0, [(0, .ref (a 0)), (1, .int (nI i)), (2, .int (nI j))], [], M) _ _
  refine EvF.gop 1 (go_aload_n d_Stg_difference_0 rfl 0 rfl) rfl ?_
  refine EvF.gop 4 (go_get f_Stg_36 d_Stg_difference_1 (hq.1) rfl) rfl ?_
  refine EvF.gop 5 (go_iconst (v := 0) d_Stg_difference_4 (by decide)) rfl ?_
  refine EvF.gop 6 (go_iald (j := 0) d_Stg_difference_5 (hq.2.2.2.2.2.2.2.2.2.2.2.1) (rfl) (by omega) (by omega)) rfl ?_
  refine EvF.gop 7 (go_aload_n d_Stg_difference_6 rfl 0 rfl) rfl ?_
  refine EvF.gop 8 (go_iload_n d_Stg_difference_7 rfl 1 rfl) rfl ?_
  refine EvF.gop 9 (go_iload_n d_Stg_difference_8 rfl 2 rfl) rfl ?_
  refine EvF.gop 12 (go_callV [.int (nI i), .int (nI j)] [.int (naI W K dw j e g), .int (PP 0)] c0_Stg_natural im_Stg_natural se_Stg_natural lk_Stg_77 d_Stg_difference_9 rfl rfl (hq.1) (e_Stg_natural G M a dw cl ln tt bn K E B W ST SH L DD PP X i j e g hq hi hj hE hB he hg) (by decide) rfl rfl (Nat.le_of_ble_eq_true rfl) rfl) rfl ?_
  refine EvF.gop 13 (go_isub d_Stg_difference_12) rfl ?_
  exact EvF.ri d_Stg_difference_13 rfl (rfl) (rfl)
def loI (K : Nat → Int32) (d : Int32) (j : Nat) : Bool := decide (0 < d) && (decide (K j = 3) || decide (K j = 4))
/-- isLoose -/
theorem e_Stg_isLoose (G : gG) (M : gM) (a : Nat → Nat) (dw cl ln : Int32) (tt : Int64) (bn : Int32) (K E B W ST SH L DD PP X : Nat → Int32) (d : Int32) (j : Nat) (hq : StgAt G M a dw cl ln tt bn K E B W ST SH L DD PP X) (hj : j < 25) : Ev G 0 m_Stg_isLoose [.ref (a 0), .int d, .int (nI j)] M (some (.int (bI (loI K d j)))) M := by
  refine Ev.of (Nat.le_of_ble_eq_true rfl) ?_
  show EvF G 0 m_Stg_isLoose (0, [(0, .ref (a 0)), (1, .int d), (2, .int (nI j))], [], M) _ _
  refine EvF.gop 1 (go_iload_n d_Stg_isLoose_0 rfl 1 rfl) rfl ?_
  by_cases c1 : d ≤ 0
  · have c1x : ¬ 0 < d := Int32.not_lt.mpr c1
    refine EvF.gop 34 (go_if_le_t 34 d_Stg_isLoose_1 (by decide) (c1)) rfl ?_
    refine EvF.gop 35 (go_iconst (v := 0) d_Stg_isLoose_34 (by decide)) rfl ?_
    exact EvF.rz d_Stg_isLoose_35 rfl (by decide) (by simp [bI, loI, *]) (rfl)
  · have c1x : 0 < d := Int32.not_le.mp c1
    refine EvF.gop 4 (go_if_le_f 34 d_Stg_isLoose_1 (by decide) (c1)) rfl ?_
    refine EvF.gop 5 (go_aload_n d_Stg_isLoose_4 rfl 0 rfl) rfl ?_
    refine EvF.gop 8 (go_get f_Stg_21 d_Stg_isLoose_5 (hq.1) rfl) rfl ?_
    refine EvF.gop 11 (go_get f_Stg_74 d_Stg_isLoose_8 (hq.2.1) rfl) rfl ?_
    refine EvF.gop 12 (go_iload_n d_Stg_isLoose_11 rfl 2 rfl) rfl ?_
    refine EvF.gop 13 (go_iald (j := j) d_Stg_isLoose_12 (hq.2.2.1) (rfl) (by omega) (by omega)) rfl ?_
    refine EvF.gop 14 (go_iconst (v := 3) d_Stg_isLoose_13 (by decide)) rfl ?_
    by_cases c2 : (K j) = 3
    · refine EvF.gop 30 (go_icmp_eq_t 30 d_Stg_isLoose_14 (by decide) (c2)) rfl ?_
      refine EvF.gop 31 (go_iconst (v := 1) d_Stg_isLoose_30 (by decide)) rfl ?_
      refine EvF.gop 35 (go_goto 35 d_Stg_isLoose_31 (by decide)) rfl ?_
      exact EvF.rz d_Stg_isLoose_35 rfl (by decide) (by simp [bI, loI, *]) (rfl)
    · refine EvF.gop 17 (go_icmp_eq_f 30 d_Stg_isLoose_14 (by decide) (c2)) rfl ?_
      refine EvF.gop 18 (go_aload_n d_Stg_isLoose_17 rfl 0 rfl) rfl ?_
      refine EvF.gop 21 (go_get f_Stg_21 d_Stg_isLoose_18 (hq.1) rfl) rfl ?_
      refine EvF.gop 24 (go_get f_Stg_74 d_Stg_isLoose_21 (hq.2.1) rfl) rfl ?_
      refine EvF.gop 25 (go_iload_n d_Stg_isLoose_24 rfl 2 rfl) rfl ?_
      refine EvF.gop 26 (go_iald (j := j) d_Stg_isLoose_25 (hq.2.2.1) (rfl) (by omega) (by omega)) rfl ?_
      refine EvF.gop 27 (go_iconst (v := 4) d_Stg_isLoose_26 (by decide)) rfl ?_
      by_cases c3 : (K j) = 4
      · refine EvF.gop 30 (go_icmp_ne_f 34 d_Stg_isLoose_27 (by decide) (c3)) rfl ?_
        refine EvF.gop 31 (go_iconst (v := 1) d_Stg_isLoose_30 (by decide)) rfl ?_
        refine EvF.gop 35 (go_goto 35 d_Stg_isLoose_31 (by decide)) rfl ?_
        exact EvF.rz d_Stg_isLoose_35 rfl (by decide) (by simp [bI, loI, *]) (rfl)
      · refine EvF.gop 34 (go_icmp_ne_t 34 d_Stg_isLoose_27 (by decide) (c3)) rfl ?_
        refine EvF.gop 35 (go_iconst (v := 0) d_Stg_isLoose_34 (by decide)) rfl ?_
        exact EvF.rz d_Stg_isLoose_35 rfl (by decide) (by simp [bI, loI, *]) (rfl)
/-- cube -/
theorem e_Stg_cube (G : gG) (M : gM) (x : Int64) : Ev G 0 m_Stg_cube [.long x] M (some (.long (x * x * x))) M := by
  refine Ev.of (Nat.le_of_ble_eq_true rfl) ?_
  show EvF G 0 m_Stg_cube (0, [(0, .long x)], [], M) _ _
  refine EvF.gop 1 (go_lload_n d_Stg_cube_0 rfl 0 rfl) rfl ?_
  refine EvF.gop 2 (go_lload_n d_Stg_cube_1 rfl 0 rfl) rfl ?_
  refine EvF.gop 3 (go_lmul d_Stg_cube_2) rfl ?_
  refine EvF.gop 4 (go_lload_n d_Stg_cube_3 rfl 0 rfl) rfl ?_
  refine EvF.gop 5 (go_lmul d_Stg_cube_4) rfl ?_
  exact EvF.rl d_Stg_cube_5 rfl (rfl) (rfl)
/-- square -/
theorem e_Stg_square (G : gG) (M : gM) (x : Int64) : Ev G 0 m_Stg_square [.long x] M (some (.long (x * x))) M := by
  refine Ev.of (Nat.le_of_ble_eq_true rfl) ?_
  show EvF G 0 m_Stg_square (0, [(0, .long x)], [], M) _ _
  refine EvF.gop 1 (go_lload_n d_Stg_square_0 rfl 0 rfl) rfl ?_
  refine EvF.gop 2 (go_lload_n d_Stg_square_1 rfl 0 rfl) rfl ?_
  refine EvF.gop 3 (go_lmul d_Stg_square_2) rfl ?_
  exact EvF.rl d_Stg_square_3 rfl (rfl) (rfl)
def abI (x : Int32) : Int32 := if 0 ≤ x then x else -x
/-- the badness of a line, or -1 -/
def bdI (lt ds d : Int32) (lo : Bool) (st sh tol : Int32) : Int64 :=
  if lt + ds = 0 then -1 else if d = 0 then 0 else if lo = true then 0 else
  if (if 0 < d then st else sh) = 0 then -1 else if -d ≤ (if 0 < d then st else sh) then
    (if 0 < lg_cmp (100 * ((abI d).toInt64 * (abI d).toInt64 * (abI d).toInt64) / ((if 0 < d then st else sh).toInt64 * (if 0 < d then st else sh).toInt64 * (if 0 < d then st else sh).toInt64)) tol.toInt64 then -1 else 100 * ((abI d).toInt64 * (abI d).toInt64 * (abI d).toInt64) / ((if 0 < d then st else sh).toInt64 * (if 0 < d then st else sh).toInt64 * (if 0 < d then st else sh).toInt64))
  else -1
def dfI (W K PP : Nat → Int32) (dw : Int32) (j e g : Nat) : Int32 := PP 0 - naI W K dw j e g
/-- Stg_badness -/
theorem e_Stg_badness (G : gG) (M : gM) (a : Nat → Nat) (dw cl ln : Int32) (tt : Int64) (bn : Int32) (K E B W ST SH L DD PP X : Nat → Int32) (i j e g : Nat) (hq : StgAt G M a dw cl ln tt bn K E B W ST SH L DD PP X) (hi : i < 25) (hj : j < 25) (hE : E j = nI e) (hB : B i = nI g) (he : e < 121) (hg : g < 121) (hz : ∀ x : Int32, (x = ST e - ST g ∨ x = SH e - SH g) → ¬ x = 0 → ¬ x.toInt64 * x.toInt64 * x.toInt64 = 0) : Ev G 3 m_Stg_badness [.ref (a 0), .int (nI i), .int (nI j)] M (some (.long (bdI (L e - L g) (DD e - DD g) (dfI W K PP dw j e g) (loI K (dfI W K PP dw j e g) j) (ST e - ST g) (SH e - SH g) (PP 1)))) M := by
  refine Ev.of (Nat.le_of_ble_eq_true rfl) ?_
  show EvF G 3 m_Stg_badness (0, [(0, .ref (a 0)), (1, .int (nI i)), (2, .int (nI j))], [], M) _ _
  refine EvF.gop 1 (go_aload_n d_Stg_badness_0 rfl 0 rfl) rfl ?_
  refine EvF.gop 2 (go_iload_n d_Stg_badness_1 rfl 1 rfl) rfl ?_
  refine EvF.gop 3 (go_iload_n d_Stg_badness_2 rfl 2 rfl) rfl ?_
  refine EvF.gop 6 (go_callV [.int (nI i), .int (nI j)] [.int (L e - L g)] c0_Stg_letters im_Stg_letters se_Stg_letters lk_Stg_81 d_Stg_badness_3 rfl rfl (hq.1) (e_Stg_letters G M a dw cl ln tt bn K E B W ST SH L DD PP X i j e g hq hi hj hE hB he hg) (by decide) rfl rfl (Nat.le_of_ble_eq_true rfl) rfl) rfl ?_
  refine EvF.gop 7 (go_aload_n d_Stg_badness_6 rfl 0 rfl) rfl ?_
  refine EvF.gop 8 (go_aload_n d_Stg_badness_7 rfl 0 rfl) rfl ?_
  refine EvF.gop 11 (go_get f_Stg_28 d_Stg_badness_8 (hq.1) rfl) rfl ?_
  refine EvF.gop 14 (go_get f_Stg_83 d_Stg_badness_11 (hq.2.2.2.2.2.1) rfl) rfl ?_
  refine EvF.gop 15 (go_iload_n d_Stg_badness_14 rfl 1 rfl) rfl ?_
  refine EvF.gop 16 (go_iload_n d_Stg_badness_15 rfl 2 rfl) rfl ?_
  refine EvF.gop 19 (go_callV [.ref (a 13), .int (nI i), .int (nI j)] [.int (DD e - DD g), .int (L e - L g)] c0_Stg_over im_Stg_over se_Stg_over lk_Stg_67 d_Stg_badness_16 rfl rfl (hq.1) (e_Stg_over G M a dw cl ln tt bn K E B W ST SH L DD PP X i j e g (a 13) DD hq hi hj hE hB he hg hq.2.2.2.2.2.2.2.2.2.2.1) (by decide) rfl rfl (Nat.le_of_ble_eq_true rfl) rfl) rfl ?_
  refine EvF.gop 20 (go_iadd d_Stg_badness_19) rfl ?_
  by_cases c1 : ((L e - L g) + (DD e - DD g)) = 0
  · refine EvF.gop 23 (go_if_ne_f 27 d_Stg_badness_20 (by decide) (c1)) rfl ?_
    refine EvF.gop 26 (go_ldc2 (v := (-1)) d_Stg_badness_23 kl_Stg_86) rfl ?_
    exact EvF.rl d_Stg_badness_26 rfl (by simp [bdI, *]) (rfl)
  · refine EvF.gop 27 (go_if_ne_t 27 d_Stg_badness_20 (by decide) (c1)) rfl ?_
    refine EvF.gop 28 (go_aload_n d_Stg_badness_27 rfl 0 rfl) rfl ?_
    refine EvF.gop 29 (go_iload_n d_Stg_badness_28 rfl 1 rfl) rfl ?_
    refine EvF.gop 30 (go_iload_n d_Stg_badness_29 rfl 2 rfl) rfl ?_
    refine EvF.gop 33 (go_callV [.int (nI i), .int (nI j)] [.int (dfI W K PP dw j e g)] c0_Stg_difference im_Stg_difference se_Stg_difference lk_Stg_88 d_Stg_badness_30 rfl rfl (hq.1) (e_Stg_difference G M a dw cl ln tt bn K E B W ST SH L DD PP X i j e g hq hi hj hE hB he hg) (by decide) rfl rfl (Nat.le_of_ble_eq_true rfl) rfl) rfl ?_
    refine EvF.gop 34 (go_istore_n [(3, .int (dfI W K PP dw j e g)), (0, .ref (a 0)), (1, .int (nI i)), (2, .int (nI j))] d_Stg_badness_33 rfl (by decide) rfl) rfl ?_
    refine EvF.go (go_pick [1, 2, 3, 0] [(0, .ref (a 0)), (1, .int (nI i)), (2, .int (nI j)), (3, .int (dfI W K PP dw j e g))] rfl) ?_
    refine EvF.gop 35 (go_iload_n d_Stg_badness_34 rfl 3 rfl) rfl ?_
    by_cases c2 : (dfI W K PP dw j e g) = 0
    · refine EvF.gop 47 (go_if_eq_t 47 d_Stg_badness_35 (by decide) (c2)) rfl ?_
      refine EvF.gop 48 (go_lconst (v := 0) d_Stg_badness_47 (by decide)) rfl ?_
      exact EvF.rl d_Stg_badness_48 rfl (by simp [bdI, *]) (rfl)
    · refine EvF.gop 38 (go_if_eq_f 47 d_Stg_badness_35 (by decide) (c2)) rfl ?_
      refine EvF.gop 39 (go_aload_n d_Stg_badness_38 rfl 0 rfl) rfl ?_
      refine EvF.gop 40 (go_iload_n d_Stg_badness_39 rfl 3 rfl) rfl ?_
      refine EvF.gop 41 (go_iload_n d_Stg_badness_40 rfl 2 rfl) rfl ?_
      refine EvF.gop 44 (go_callV [.int (dfI W K PP dw j e g), .int (nI j)] [.int (bI (loI K (dfI W K PP dw j e g) j))] c0_Stg_isLoose im_Stg_isLoose se_Stg_isLoose lk_Stg_91 d_Stg_badness_41 rfl rfl (hq.1) (e_Stg_isLoose G M a dw cl ln tt bn K E B W ST SH L DD PP X (dfI W K PP dw j e g) j hq hj) (by decide) rfl rfl (Nat.le_of_ble_eq_true rfl) rfl) rfl ?_
      by_cases c3 : (bI (loI K (dfI W K PP dw j e g) j)) = 0
      · have c3x : (loI K (dfI W K PP dw j e g) j) = false := bI_0.mp c3
        refine EvF.gop 49 (go_if_eq_t 49 d_Stg_badness_44 (by decide) (c3)) rfl ?_
        refine EvF.gop 50 (go_aload_n d_Stg_badness_49 rfl 0 rfl) rfl ?_
        refine EvF.gop 51 (go_iload_n d_Stg_badness_50 rfl 3 rfl) rfl ?_
        by_cases c4 : (dfI W K PP dw j e g) ≤ 0
        · have c4x : ¬ 0 < (dfI W K PP dw j e g) := Int32.not_lt.mpr c4
          refine EvF.gop 64 (go_if_le_t 64 d_Stg_badness_51 (by decide) (c4)) rfl ?_
          refine EvF.gop 65 (go_aload_n d_Stg_badness_64 rfl 0 rfl) rfl ?_
          refine EvF.gop 68 (go_get f_Stg_28 d_Stg_badness_65 (hq.1) rfl) rfl ?_
          refine EvF.gop 71 (go_get f_Stg_98 d_Stg_badness_68 (hq.2.2.2.2.2.1) rfl) rfl ?_
          refine EvF.gop 72 (go_iload_n d_Stg_badness_71 rfl 1 rfl) rfl ?_
          refine EvF.gop 73 (go_iload_n d_Stg_badness_72 rfl 2 rfl) rfl ?_
          refine EvF.gop 76 (go_callV [.ref (a 11), .int (nI i), .int (nI j)] [.int (SH e - SH g)] c0_Stg_over im_Stg_over se_Stg_over lk_Stg_67 d_Stg_badness_73 rfl rfl (hq.1) (e_Stg_over G M a dw cl ln tt bn K E B W ST SH L DD PP X i j e g (a 11) SH hq hi hj hE hB he hg hq.2.2.2.2.2.2.2.2.1) (by decide) rfl rfl (Nat.le_of_ble_eq_true rfl) rfl) rfl ?_
          refine EvF.gop 78 (go_istore [(4, .int (SH e - SH g)), (0, .ref (a 0)), (1, .int (nI i)), (2, .int (nI j)), (3, .int (dfI W K PP dw j e g))] d_Stg_badness_76 (by decide) rfl) rfl ?_
          refine EvF.go (go_pick [1, 2, 3, 4, 0] [(0, .ref (a 0)), (1, .int (nI i)), (2, .int (nI j)), (3, .int (dfI W K PP dw j e g)), (4, .int (SH e - SH g))] rfl) ?_
          refine EvF.gop 80 (go_iload d_Stg_badness_78 4 rfl) rfl ?_
          by_cases c5 : (SH e - SH g) = 0
          · refine EvF.gop 90 (go_if_eq_t 90 d_Stg_badness_80 (by decide) (c5)) rfl ?_
            refine EvF.gop 93 (go_ldc2 (v := (-1)) d_Stg_badness_90 kl_Stg_86) rfl ?_
            exact EvF.rl d_Stg_badness_93 rfl (by simp [bdI, *]) (rfl)
          · refine EvF.gop 83 (go_if_eq_f 90 d_Stg_badness_80 (by decide) (c5)) rfl ?_
            refine EvF.gop 84 (go_iload_n d_Stg_badness_83 rfl 3 rfl) rfl ?_
            refine EvF.gop 85 (go_ineg d_Stg_badness_84) rfl ?_
            refine EvF.gop 87 (go_iload d_Stg_badness_85 4 rfl) rfl ?_
            by_cases c6 : (-(dfI W K PP dw j e g)) ≤ (SH e - SH g)
            · have c6x : ¬ (SH e - SH g) < (-(dfI W K PP dw j e g)) := Int32.not_lt.mpr c6
              refine EvF.gop 94 (go_icmp_le_t 94 d_Stg_badness_87 (by decide) (c6)) rfl ?_
              refine EvF.gop 97 (go_ldc2 (v := 100) d_Stg_badness_94 kl_Stg_101) rfl ?_
              refine EvF.gop 98 (go_iload_n d_Stg_badness_97 rfl 3 rfl) rfl ?_
              refine EvF.gop 101 (go_callS [.int (dfI W K PP dw j e g)] [.int (abI (dfI W K PP dw j e g)), .long 100] c0_Math_abs sm_Math_abs lk_Stg_103 d_Stg_badness_98 (e_Math_abs G M (dfI W K PP dw j e g)) (by decide) rfl rfl (Nat.le_of_ble_eq_true rfl) rfl) rfl ?_
              refine EvF.gop 102 (go_i2l d_Stg_badness_101) rfl ?_
              refine EvF.gop 105 (go_callS [.long ((abI (dfI W K PP dw j e g)).toInt64)] [.long ((abI (dfI W K PP dw j e g)).toInt64 * (abI (dfI W K PP dw j e g)).toInt64 * (abI (dfI W K PP dw j e g)).toInt64), .long 100] c0_Stg_cube sm_Stg_cube lk_Stg_108 d_Stg_badness_102 (e_Stg_cube G M (abI (dfI W K PP dw j e g)).toInt64) (by decide) rfl rfl (Nat.le_of_ble_eq_true rfl) rfl) rfl ?_
              refine EvF.gop 106 (go_lmul d_Stg_badness_105) rfl ?_
              refine EvF.gop 108 (go_iload d_Stg_badness_106 4 rfl) rfl ?_
              refine EvF.gop 109 (go_i2l d_Stg_badness_108) rfl ?_
              refine EvF.gop 112 (go_callS [.long ((SH e - SH g).toInt64)] [.long ((SH e - SH g).toInt64 * (SH e - SH g).toInt64 * (SH e - SH g).toInt64), .long (100 * ((abI (dfI W K PP dw j e g)).toInt64 * (abI (dfI W K PP dw j e g)).toInt64 * (abI (dfI W K PP dw j e g)).toInt64))] c0_Stg_cube sm_Stg_cube lk_Stg_108 d_Stg_badness_109 (e_Stg_cube G M (SH e - SH g).toInt64) (by decide) rfl rfl (Nat.le_of_ble_eq_true rfl) rfl) rfl ?_
              refine EvF.gop 113 (go_ldiv d_Stg_badness_112 (hz _ (by simp) (by assumption))) rfl ?_
              refine EvF.gop 115 (go_lstore [(5, .long ((100 * ((abI (dfI W K PP dw j e g)).toInt64 * (abI (dfI W K PP dw j e g)).toInt64 * (abI (dfI W K PP dw j e g)).toInt64)) / ((SH e - SH g).toInt64 * (SH e - SH g).toInt64 * (SH e - SH g).toInt64))), (0, .ref (a 0)), (1, .int (nI i)), (2, .int (nI j)), (3, .int (dfI W K PP dw j e g)), (4, .int (SH e - SH g))] d_Stg_badness_113 (by decide) rfl) rfl ?_
              refine EvF.go (go_pick [1, 2, 3, 4, 5, 0] [(0, .ref (a 0)), (1, .int (nI i)), (2, .int (nI j)), (3, .int (dfI W K PP dw j e g)), (4, .int (SH e - SH g)), (5, .long ((100 * ((abI (dfI W K PP dw j e g)).toInt64 * (abI (dfI W K PP dw j e g)).toInt64 * (abI (dfI W K PP dw j e g)).toInt64)) / ((SH e - SH g).toInt64 * (SH e - SH g).toInt64 * (SH e - SH g).toInt64)))] rfl) ?_
              refine EvF.gop 117 (go_lload d_Stg_badness_115 5 rfl) rfl ?_
              refine EvF.gop 118 (go_aload_n d_Stg_badness_117 rfl 0 rfl) rfl ?_
              refine EvF.gop 121 (go_get f_Stg_36 d_Stg_badness_118 (hq.1) rfl) rfl ?_
              refine EvF.gop 122 (go_iconst (v := 1) d_Stg_badness_121 (by decide)) rfl ?_
              refine EvF.gop 123 (go_iald (j := 1) d_Stg_badness_122 (hq.2.2.2.2.2.2.2.2.2.2.2.1) (rfl) (by omega) (by omega)) rfl ?_
              refine EvF.gop 124 (go_i2l d_Stg_badness_123) rfl ?_
              refine EvF.gop 125 (go_lcmp d_Stg_badness_124) rfl ?_
              by_cases c7 : (lg_cmp ((100 * ((abI (dfI W K PP dw j e g)).toInt64 * (abI (dfI W K PP dw j e g)).toInt64 * (abI (dfI W K PP dw j e g)).toInt64)) / ((SH e - SH g).toInt64 * (SH e - SH g).toInt64 * (SH e - SH g).toInt64)) ((PP 1).toInt64)) ≤ 0
              · have c7x : ¬ 0 < (lg_cmp ((100 * ((abI (dfI W K PP dw j e g)).toInt64 * (abI (dfI W K PP dw j e g)).toInt64 * (abI (dfI W K PP dw j e g)).toInt64)) / ((SH e - SH g).toInt64 * (SH e - SH g).toInt64 * (SH e - SH g).toInt64)) ((PP 1).toInt64)) := Int32.not_lt.mpr c7
                refine EvF.gop 134 (go_if_le_t 134 d_Stg_badness_125 (by decide) (c7)) rfl ?_
                refine EvF.gop 136 (go_lload d_Stg_badness_134 5 rfl) rfl ?_
                exact EvF.rl d_Stg_badness_136 rfl (by simp [bdI, *]) (rfl)
              · have c7x : 0 < (lg_cmp ((100 * ((abI (dfI W K PP dw j e g)).toInt64 * (abI (dfI W K PP dw j e g)).toInt64 * (abI (dfI W K PP dw j e g)).toInt64)) / ((SH e - SH g).toInt64 * (SH e - SH g).toInt64 * (SH e - SH g).toInt64)) ((PP 1).toInt64)) := Int32.not_le.mp c7
                refine EvF.gop 128 (go_if_le_f 134 d_Stg_badness_125 (by decide) (c7)) rfl ?_
                refine EvF.gop 131 (go_ldc2 (v := (-1)) d_Stg_badness_128 kl_Stg_86) rfl ?_
                refine EvF.gop 136 (go_goto 136 d_Stg_badness_131 (by decide)) rfl ?_
                exact EvF.rl d_Stg_badness_136 rfl (by simp [bdI, *]) (rfl)
            · have c6x : (SH e - SH g) < (-(dfI W K PP dw j e g)) := Int32.not_le.mp c6
              refine EvF.gop 90 (go_icmp_le_f 94 d_Stg_badness_87 (by decide) (c6)) rfl ?_
              refine EvF.gop 93 (go_ldc2 (v := (-1)) d_Stg_badness_90 kl_Stg_86) rfl ?_
              exact EvF.rl d_Stg_badness_93 rfl (by simp [bdI, *]) (rfl)
        · have c4x : 0 < (dfI W K PP dw j e g) := Int32.not_le.mp c4
          refine EvF.gop 54 (go_if_le_f 64 d_Stg_badness_51 (by decide) (c4)) rfl ?_
          refine EvF.gop 55 (go_aload_n d_Stg_badness_54 rfl 0 rfl) rfl ?_
          refine EvF.gop 58 (go_get f_Stg_28 d_Stg_badness_55 (hq.1) rfl) rfl ?_
          refine EvF.gop 61 (go_get f_Stg_95 d_Stg_badness_58 (hq.2.2.2.2.2.1) rfl) rfl ?_
          refine EvF.gop 71 (go_goto 71 d_Stg_badness_61 (by decide)) rfl ?_
          refine EvF.gop 72 (go_iload_n d_Stg_badness_71 rfl 1 rfl) rfl ?_
          refine EvF.gop 73 (go_iload_n d_Stg_badness_72 rfl 2 rfl) rfl ?_
          refine EvF.gop 76 (go_callV [.ref (a 10), .int (nI i), .int (nI j)] [.int (ST e - ST g)] c0_Stg_over im_Stg_over se_Stg_over lk_Stg_67 d_Stg_badness_73 rfl rfl (hq.1) (e_Stg_over G M a dw cl ln tt bn K E B W ST SH L DD PP X i j e g (a 10) ST hq hi hj hE hB he hg hq.2.2.2.2.2.2.2.1) (by decide) rfl rfl (Nat.le_of_ble_eq_true rfl) rfl) rfl ?_
          refine EvF.gop 78 (go_istore [(4, .int (ST e - ST g)), (0, .ref (a 0)), (1, .int (nI i)), (2, .int (nI j)), (3, .int (dfI W K PP dw j e g))] d_Stg_badness_76 (by decide) rfl) rfl ?_
          refine EvF.go (go_pick [1, 2, 3, 4, 0] [(0, .ref (a 0)), (1, .int (nI i)), (2, .int (nI j)), (3, .int (dfI W K PP dw j e g)), (4, .int (ST e - ST g))] rfl) ?_
          refine EvF.gop 80 (go_iload d_Stg_badness_78 4 rfl) rfl ?_
          by_cases c8 : (ST e - ST g) = 0
          · refine EvF.gop 90 (go_if_eq_t 90 d_Stg_badness_80 (by decide) (c8)) rfl ?_
            refine EvF.gop 93 (go_ldc2 (v := (-1)) d_Stg_badness_90 kl_Stg_86) rfl ?_
            exact EvF.rl d_Stg_badness_93 rfl (by simp [bdI, *]) (rfl)
          · refine EvF.gop 83 (go_if_eq_f 90 d_Stg_badness_80 (by decide) (c8)) rfl ?_
            refine EvF.gop 84 (go_iload_n d_Stg_badness_83 rfl 3 rfl) rfl ?_
            refine EvF.gop 85 (go_ineg d_Stg_badness_84) rfl ?_
            refine EvF.gop 87 (go_iload d_Stg_badness_85 4 rfl) rfl ?_
            by_cases c9 : (-(dfI W K PP dw j e g)) ≤ (ST e - ST g)
            · have c9x : ¬ (ST e - ST g) < (-(dfI W K PP dw j e g)) := Int32.not_lt.mpr c9
              refine EvF.gop 94 (go_icmp_le_t 94 d_Stg_badness_87 (by decide) (c9)) rfl ?_
              refine EvF.gop 97 (go_ldc2 (v := 100) d_Stg_badness_94 kl_Stg_101) rfl ?_
              refine EvF.gop 98 (go_iload_n d_Stg_badness_97 rfl 3 rfl) rfl ?_
              refine EvF.gop 101 (go_callS [.int (dfI W K PP dw j e g)] [.int (abI (dfI W K PP dw j e g)), .long 100] c0_Math_abs sm_Math_abs lk_Stg_103 d_Stg_badness_98 (e_Math_abs G M (dfI W K PP dw j e g)) (by decide) rfl rfl (Nat.le_of_ble_eq_true rfl) rfl) rfl ?_
              refine EvF.gop 102 (go_i2l d_Stg_badness_101) rfl ?_
              refine EvF.gop 105 (go_callS [.long ((abI (dfI W K PP dw j e g)).toInt64)] [.long ((abI (dfI W K PP dw j e g)).toInt64 * (abI (dfI W K PP dw j e g)).toInt64 * (abI (dfI W K PP dw j e g)).toInt64), .long 100] c0_Stg_cube sm_Stg_cube lk_Stg_108 d_Stg_badness_102 (e_Stg_cube G M (abI (dfI W K PP dw j e g)).toInt64) (by decide) rfl rfl (Nat.le_of_ble_eq_true rfl) rfl) rfl ?_
              refine EvF.gop 106 (go_lmul d_Stg_badness_105) rfl ?_
              refine EvF.gop 108 (go_iload d_Stg_badness_106 4 rfl) rfl ?_
              refine EvF.gop 109 (go_i2l d_Stg_badness_108) rfl ?_
              refine EvF.gop 112 (go_callS [.long ((ST e - ST g).toInt64)] [.long ((ST e - ST g).toInt64 * (ST e - ST g).toInt64 * (ST e - ST g).toInt64), .long (100 * ((abI (dfI W K PP dw j e g)).toInt64 * (abI (dfI W K PP dw j e g)).toInt64 * (abI (dfI W K PP dw j e g)).toInt64))] c0_Stg_cube sm_Stg_cube lk_Stg_108 d_Stg_badness_109 (e_Stg_cube G M (ST e - ST g).toInt64) (by decide) rfl rfl (Nat.le_of_ble_eq_true rfl) rfl) rfl ?_
              refine EvF.gop 113 (go_ldiv d_Stg_badness_112 (hz _ (by simp) (by assumption))) rfl ?_
              refine EvF.gop 115 (go_lstore [(5, .long ((100 * ((abI (dfI W K PP dw j e g)).toInt64 * (abI (dfI W K PP dw j e g)).toInt64 * (abI (dfI W K PP dw j e g)).toInt64)) / ((ST e - ST g).toInt64 * (ST e - ST g).toInt64 * (ST e - ST g).toInt64))), (0, .ref (a 0)), (1, .int (nI i)), (2, .int (nI j)), (3, .int (dfI W K PP dw j e g)), (4, .int (ST e - ST g))] d_Stg_badness_113 (by decide) rfl) rfl ?_
              refine EvF.go (go_pick [1, 2, 3, 4, 5, 0] [(0, .ref (a 0)), (1, .int (nI i)), (2, .int (nI j)), (3, .int (dfI W K PP dw j e g)), (4, .int (ST e - ST g)), (5, .long ((100 * ((abI (dfI W K PP dw j e g)).toInt64 * (abI (dfI W K PP dw j e g)).toInt64 * (abI (dfI W K PP dw j e g)).toInt64)) / ((ST e - ST g).toInt64 * (ST e - ST g).toInt64 * (ST e - ST g).toInt64)))] rfl) ?_
              refine EvF.gop 117 (go_lload d_Stg_badness_115 5 rfl) rfl ?_
              refine EvF.gop 118 (go_aload_n d_Stg_badness_117 rfl 0 rfl) rfl ?_
              refine EvF.gop 121 (go_get f_Stg_36 d_Stg_badness_118 (hq.1) rfl) rfl ?_
              refine EvF.gop 122 (go_iconst (v := 1) d_Stg_badness_121 (by decide)) rfl ?_
              refine EvF.gop 123 (go_iald (j := 1) d_Stg_badness_122 (hq.2.2.2.2.2.2.2.2.2.2.2.1) (rfl) (by omega) (by omega)) rfl ?_
              refine EvF.gop 124 (go_i2l d_Stg_badness_123) rfl ?_
              refine EvF.gop 125 (go_lcmp d_Stg_badness_124) rfl ?_
              by_cases c10 : (lg_cmp ((100 * ((abI (dfI W K PP dw j e g)).toInt64 * (abI (dfI W K PP dw j e g)).toInt64 * (abI (dfI W K PP dw j e g)).toInt64)) / ((ST e - ST g).toInt64 * (ST e - ST g).toInt64 * (ST e - ST g).toInt64)) ((PP 1).toInt64)) ≤ 0
              · have c10x : ¬ 0 < (lg_cmp ((100 * ((abI (dfI W K PP dw j e g)).toInt64 * (abI (dfI W K PP dw j e g)).toInt64 * (abI (dfI W K PP dw j e g)).toInt64)) / ((ST e - ST g).toInt64 * (ST e - ST g).toInt64 * (ST e - ST g).toInt64)) ((PP 1).toInt64)) := Int32.not_lt.mpr c10
                refine EvF.gop 134 (go_if_le_t 134 d_Stg_badness_125 (by decide) (c10)) rfl ?_
                refine EvF.gop 136 (go_lload d_Stg_badness_134 5 rfl) rfl ?_
                exact EvF.rl d_Stg_badness_136 rfl (by simp [bdI, *]) (rfl)
              · have c10x : 0 < (lg_cmp ((100 * ((abI (dfI W K PP dw j e g)).toInt64 * (abI (dfI W K PP dw j e g)).toInt64 * (abI (dfI W K PP dw j e g)).toInt64)) / ((ST e - ST g).toInt64 * (ST e - ST g).toInt64 * (ST e - ST g).toInt64)) ((PP 1).toInt64)) := Int32.not_le.mp c10
                refine EvF.gop 128 (go_if_le_f 134 d_Stg_badness_125 (by decide) (c10)) rfl ?_
                refine EvF.gop 131 (go_ldc2 (v := (-1)) d_Stg_badness_128 kl_Stg_86) rfl ?_
                refine EvF.gop 136 (go_goto 136 d_Stg_badness_131 (by decide)) rfl ?_
                exact EvF.rl d_Stg_badness_136 rfl (by simp [bdI, *]) (rfl)
            · have c9x : (ST e - ST g) < (-(dfI W K PP dw j e g)) := Int32.not_le.mp c9
              refine EvF.gop 90 (go_icmp_le_f 94 d_Stg_badness_87 (by decide) (c9)) rfl ?_
              refine EvF.gop 93 (go_ldc2 (v := (-1)) d_Stg_badness_90 kl_Stg_86) rfl ?_
              exact EvF.rl d_Stg_badness_93 rfl (by simp [bdI, *]) (rfl)
      · have c3x : (loI K (dfI W K PP dw j e g) j) = true := bI_n0.mp c3
        refine EvF.gop 47 (go_if_eq_f 49 d_Stg_badness_44 (by decide) (c3)) rfl ?_
        refine EvF.gop 48 (go_lconst (v := 0) d_Stg_badness_47 (by decide)) rfl ?_
        exact EvF.rl d_Stg_badness_48 rfl (by simp [bdI, *]) (rfl)
def prI (PP K : Nat → Int32) (i j : Nat) (w : Int64) : Int64 :=
  if K j = 2 then (if K i = 2 then ((PP 2).toInt64 + w) * ((PP 2).toInt64 + w) + (PP 3).toInt64 * (PP 3).toInt64 + (PP 4).toInt64 else ((PP 2).toInt64 + w) * ((PP 2).toInt64 + w) + (PP 3).toInt64 * (PP 3).toInt64)
  else ((PP 2).toInt64 + w) * ((PP 2).toInt64 + w)
/-- price -/
theorem e_Stg_price (G : gG) (M : gM) (a : Nat → Nat) (dw cl ln : Int32) (tt : Int64) (bn : Int32) (K E B W ST SH L DD PP X : Nat → Int32) (i j : Nat) (w : Int64) (hq : StgAt G M a dw cl ln tt bn K E B W ST SH L DD PP X) (hi : i < 25) (hj : j < 25) : Ev G 1 m_Stg_price [.ref (a 0), .int (nI i), .int (nI j), .long w] M (some (.long (prI PP K i j w))) M := by
  refine Ev.of (Nat.le_of_ble_eq_true rfl) ?_
  show EvF G 1 m_Stg_price (0, [(0, .ref (a 0)), (1, .int (nI i)), (2, .int (nI j)), (3, .long w)], [], M) _ _
  refine EvF.gop 1 (go_aload_n d_Stg_price_0 rfl 0 rfl) rfl ?_
  refine EvF.gop 4 (go_get f_Stg_36 d_Stg_price_1 (hq.1) rfl) rfl ?_
  refine EvF.gop 5 (go_iconst (v := 2) d_Stg_price_4 (by decide)) rfl ?_
  refine EvF.gop 6 (go_iald (j := 2) d_Stg_price_5 (hq.2.2.2.2.2.2.2.2.2.2.2.1) (rfl) (by omega) (by omega)) rfl ?_
  refine EvF.gop 7 (go_i2l d_Stg_price_6) rfl ?_
  refine EvF.gop 8 (go_lload_n d_Stg_price_7 rfl 3 rfl) rfl ?_
  refine EvF.gop 9 (go_ladd d_Stg_price_8) rfl ?_
  refine EvF.gop 12 (go_callS [.long (((PP 2).toInt64) + w)] [.long (((PP 2).toInt64 + w) * ((PP 2).toInt64 + w))] c0_Stg_square sm_Stg_square lk_Stg_112 d_Stg_price_9 (e_Stg_square G M ((PP 2).toInt64 + w)) (by decide) rfl rfl (Nat.le_of_ble_eq_true rfl) rfl) rfl ?_
  refine EvF.gop 14 (go_lstore [(5, .long (((PP 2).toInt64 + w) * ((PP 2).toInt64 + w))), (0, .ref (a 0)), (1, .int (nI i)), (2, .int (nI j)), (3, .long w)] d_Stg_price_12 (by decide) rfl) rfl ?_
  refine EvF.go (go_pick [1, 2, 3, 4, 0] [(0, .ref (a 0)), (1, .int (nI i)), (2, .int (nI j)), (3, .long w), (5, .long (((PP 2).toInt64 + w) * ((PP 2).toInt64 + w)))] rfl) ?_
  refine EvF.gop 15 (go_aload_n d_Stg_price_14 rfl 0 rfl) rfl ?_
  refine EvF.gop 18 (go_get f_Stg_21 d_Stg_price_15 (hq.1) rfl) rfl ?_
  refine EvF.gop 21 (go_get f_Stg_74 d_Stg_price_18 (hq.2.1) rfl) rfl ?_
  refine EvF.gop 22 (go_iload_n d_Stg_price_21 rfl 2 rfl) rfl ?_
  refine EvF.gop 23 (go_iald (j := j) d_Stg_price_22 (hq.2.2.1) (rfl) (by omega) (by omega)) rfl ?_
  refine EvF.gop 24 (go_iconst (v := 2) d_Stg_price_23 (by decide)) rfl ?_
  by_cases c1 : (K j) = 2
  · refine EvF.gop 27 (go_icmp_ne_f 67 d_Stg_price_24 (by decide) (c1)) rfl ?_
    refine EvF.gop 29 (go_lload d_Stg_price_27 4 rfl) rfl ?_
    refine EvF.gop 30 (go_aload_n d_Stg_price_29 rfl 0 rfl) rfl ?_
    refine EvF.gop 33 (go_get f_Stg_36 d_Stg_price_30 (hq.1) rfl) rfl ?_
    refine EvF.gop 34 (go_iconst (v := 3) d_Stg_price_33 (by decide)) rfl ?_
    refine EvF.gop 35 (go_iald (j := 3) d_Stg_price_34 (hq.2.2.2.2.2.2.2.2.2.2.2.1) (rfl) (by omega) (by omega)) rfl ?_
    refine EvF.gop 36 (go_i2l d_Stg_price_35) rfl ?_
    refine EvF.gop 39 (go_callS [.long ((PP 3).toInt64)] [.long ((PP 3).toInt64 * (PP 3).toInt64), .long (((PP 2).toInt64 + w) * ((PP 2).toInt64 + w))] c0_Stg_square sm_Stg_square lk_Stg_112 d_Stg_price_36 (e_Stg_square G M (PP 3).toInt64) (by decide) rfl rfl (Nat.le_of_ble_eq_true rfl) rfl) rfl ?_
    refine EvF.gop 40 (go_ladd d_Stg_price_39) rfl ?_
    refine EvF.gop 42 (go_lstore [(5, .long ((((PP 2).toInt64 + w) * ((PP 2).toInt64 + w)) + ((PP 3).toInt64 * (PP 3).toInt64))), (0, .ref (a 0)), (1, .int (nI i)), (2, .int (nI j)), (3, .long w)] d_Stg_price_40 (by decide) rfl) rfl ?_
    refine EvF.go (go_pick [1, 2, 3, 4, 0] [(0, .ref (a 0)), (1, .int (nI i)), (2, .int (nI j)), (3, .long w), (5, .long ((((PP 2).toInt64 + w) * ((PP 2).toInt64 + w)) + ((PP 3).toInt64 * (PP 3).toInt64)))] rfl) ?_
    refine EvF.gop 43 (go_aload_n d_Stg_price_42 rfl 0 rfl) rfl ?_
    refine EvF.gop 46 (go_get f_Stg_21 d_Stg_price_43 (hq.1) rfl) rfl ?_
    refine EvF.gop 49 (go_get f_Stg_74 d_Stg_price_46 (hq.2.1) rfl) rfl ?_
    refine EvF.gop 50 (go_iload_n d_Stg_price_49 rfl 1 rfl) rfl ?_
    refine EvF.gop 51 (go_iald (j := i) d_Stg_price_50 (hq.2.2.1) (rfl) (by omega) (by omega)) rfl ?_
    refine EvF.gop 52 (go_iconst (v := 2) d_Stg_price_51 (by decide)) rfl ?_
    by_cases c2 : (K i) = 2
    · refine EvF.gop 55 (go_icmp_ne_f 67 d_Stg_price_52 (by decide) (c2)) rfl ?_
      refine EvF.gop 57 (go_lload d_Stg_price_55 4 rfl) rfl ?_
      refine EvF.gop 58 (go_aload_n d_Stg_price_57 rfl 0 rfl) rfl ?_
      refine EvF.gop 61 (go_get f_Stg_36 d_Stg_price_58 (hq.1) rfl) rfl ?_
      refine EvF.gop 62 (go_iconst (v := 4) d_Stg_price_61 (by decide)) rfl ?_
      refine EvF.gop 63 (go_iald (j := 4) d_Stg_price_62 (hq.2.2.2.2.2.2.2.2.2.2.2.1) (rfl) (by omega) (by omega)) rfl ?_
      refine EvF.gop 64 (go_i2l d_Stg_price_63) rfl ?_
      refine EvF.gop 65 (go_ladd d_Stg_price_64) rfl ?_
      refine EvF.gop 67 (go_lstore [(5, .long (((((PP 2).toInt64 + w) * ((PP 2).toInt64 + w)) + ((PP 3).toInt64 * (PP 3).toInt64)) + ((PP 4).toInt64))), (0, .ref (a 0)), (1, .int (nI i)), (2, .int (nI j)), (3, .long w)] d_Stg_price_65 (by decide) rfl) rfl ?_
      refine EvF.go (go_pick [1, 2, 3, 4, 0] [(0, .ref (a 0)), (1, .int (nI i)), (2, .int (nI j)), (3, .long w), (5, .long (((((PP 2).toInt64 + w) * ((PP 2).toInt64 + w)) + ((PP 3).toInt64 * (PP 3).toInt64)) + ((PP 4).toInt64)))] rfl) ?_
      refine EvF.gop 69 (go_lload d_Stg_price_67 4 rfl) rfl ?_
      exact EvF.rl d_Stg_price_69 rfl (by simp [prI, *]) (rfl)
    · refine EvF.gop 67 (go_icmp_ne_t 67 d_Stg_price_52 (by decide) (c2)) rfl ?_
      refine EvF.gop 69 (go_lload d_Stg_price_67 4 rfl) rfl ?_
      exact EvF.rl d_Stg_price_69 rfl (by simp [prI, *]) (rfl)
  · refine EvF.gop 67 (go_icmp_ne_t 67 d_Stg_price_24 (by decide) (c1)) rfl ?_
    refine EvF.gop 69 (go_lload d_Stg_price_67 4 rfl) rfl ?_
    exact EvF.rl d_Stg_price_69 rfl (by simp [prI, *]) (rfl)
/-- hasLine -/
theorem e_Stg_hasLine (G : gG) (M : gM) (a : Nat → Nat) (dw cl ln : Int32) (tt : Int64) (bn : Int32) (K E B W ST SH L DD PP X : Nat → Int32) (i : Int32) (hq : StgAt G M a dw cl ln tt bn K E B W ST SH L DD PP X) : Ev G 0 m_Stg_hasLine [.ref (a 0), .int i] M (some (.int (bI (decide (0 ≤ i) && decide (i < ln))))) M := by
  refine Ev.of (Nat.le_of_ble_eq_true rfl) ?_
  show EvF G 0 m_Stg_hasLine (0, [(0, .ref (a 0)), (1, .int i)], [], M) _ _
  refine EvF.gop 1 (go_iload_n d_Stg_hasLine_0 rfl 1 rfl) rfl ?_
  by_cases c1 : i < 0
  · have c1x : ¬ 0 ≤ i := Int32.not_le.mpr c1
    refine EvF.gop 16 (go_if_lt_t 16 d_Stg_hasLine_1 (by decide) (c1)) rfl ?_
    refine EvF.gop 17 (go_iconst (v := 0) d_Stg_hasLine_16 (by decide)) rfl ?_
    exact EvF.rz d_Stg_hasLine_17 rfl (by decide) (by simp [bI, *]) (rfl)
  · have c1x : 0 ≤ i := Int32.not_lt.mp c1
    refine EvF.gop 4 (go_if_lt_f 16 d_Stg_hasLine_1 (by decide) (c1)) rfl ?_
    refine EvF.gop 5 (go_iload_n d_Stg_hasLine_4 rfl 1 rfl) rfl ?_
    refine EvF.gop 6 (go_aload_n d_Stg_hasLine_5 rfl 0 rfl) rfl ?_
    refine EvF.gop 9 (go_get f_Stg_49 d_Stg_hasLine_6 (hq.1) rfl) rfl ?_
    by_cases c2 : ln ≤ i
    · have c2x : ¬ i < ln := Int32.not_lt.mpr c2
      refine EvF.gop 16 (go_icmp_ge_t 16 d_Stg_hasLine_9 (by decide) (c2)) rfl ?_
      refine EvF.gop 17 (go_iconst (v := 0) d_Stg_hasLine_16 (by decide)) rfl ?_
      exact EvF.rz d_Stg_hasLine_17 rfl (by decide) (by simp [bI, *]) (rfl)
    · have c2x : i < ln := Int32.not_le.mp c2
      refine EvF.gop 12 (go_icmp_ge_f 16 d_Stg_hasLine_9 (by decide) (c2)) rfl ?_
      refine EvF.gop 13 (go_iconst (v := 1) d_Stg_hasLine_12 (by decide)) rfl ?_
      refine EvF.gop 17 (go_goto 17 d_Stg_hasLine_13 (by decide)) rfl ?_
      exact EvF.rz d_Stg_hasLine_17 rfl (by decide) (by simp [bI, *]) (rfl)
/-- items -/
theorem e_Stg_items (G : gG) (M : gM) (a : Nat → Nat) (dw cl ln : Int32) (tt : Int64) (bn : Int32) (K E B W ST SH L DD PP X : Nat → Int32) (i x0 x1 e g : Nat) (hq : StgAt G M a dw cl ln tt bn K E B W ST SH L DD PP X) (hi : i < 24) (hX0 : X i = nI x0) (hX1 : X (i + 1) = nI x1) (h0 : x0 < 25) (h1 : x1 < 25) (hE : E x1 = nI e) (hB : B x0 = nI g) (he : e < 121) (hg : g < 121) (hge : g ≤ e) : Ev G 0 m_Stg_items [.ref (a 0), .int (nI i)] M (some (.int (nI (e - g)))) M := by
  refine Ev.of (Nat.le_of_ble_eq_true rfl) ?_
  show EvF G 0 m_Stg_items (0, [(0, .ref (a 0)), (1, .int (nI i))], [], M) _ _
  refine EvF.gop 1 (go_aload_n d_Stg_items_0 rfl 0 rfl) rfl ?_
  refine EvF.gop 4 (go_get f_Stg_21 d_Stg_items_1 (hq.1) rfl) rfl ?_
  refine EvF.gop 7 (go_get f_Stg_130 d_Stg_items_4 (hq.2.1) rfl) rfl ?_
  refine EvF.gop 8 (go_aload_n d_Stg_items_7 rfl 0 rfl) rfl ?_
  refine EvF.gop 11 (go_get f_Stg_46 d_Stg_items_8 (hq.1) rfl) rfl ?_
  refine EvF.gop 12 (go_iload_n d_Stg_items_11 rfl 1 rfl) rfl ?_
  refine EvF.gop 13 (go_iconst (v := 1) d_Stg_items_12 (by decide)) rfl ?_
  refine EvF.gop 14 (go_iadd d_Stg_items_13) rfl ?_
  refine EvF.go (go_v (y := nI (i + 1)) (nI_1 i)) ?_
  refine EvF.gop 15 (go_iald (j := (i + 1)) d_Stg_items_14 (hq.2.2.2.2.2.2.2.2.2.2.2.2) (rfl) (by omega) (by omega)) rfl ?_
  refine EvF.go (go_v (y := nI x1) (hX1)) ?_
  refine EvF.gop 16 (go_iald (j := x1) d_Stg_items_15 (hq.2.2.2.1) (rfl) (h1) (by omega)) rfl ?_
  refine EvF.go (go_v (y := nI e) (hE)) ?_
  refine EvF.gop 17 (go_aload_n d_Stg_items_16 rfl 0 rfl) rfl ?_
  refine EvF.gop 20 (go_get f_Stg_21 d_Stg_items_17 (hq.1) rfl) rfl ?_
  refine EvF.gop 23 (go_get f_Stg_124 d_Stg_items_20 (hq.2.1) rfl) rfl ?_
  refine EvF.gop 24 (go_aload_n d_Stg_items_23 rfl 0 rfl) rfl ?_
  refine EvF.gop 27 (go_get f_Stg_46 d_Stg_items_24 (hq.1) rfl) rfl ?_
  refine EvF.gop 28 (go_iload_n d_Stg_items_27 rfl 1 rfl) rfl ?_
  refine EvF.gop 29 (go_iald (j := i) d_Stg_items_28 (hq.2.2.2.2.2.2.2.2.2.2.2.2) (rfl) (by omega) (by omega)) rfl ?_
  refine EvF.go (go_v (y := nI x0) (hX0)) ?_
  refine EvF.gop 30 (go_iald (j := x0) d_Stg_items_29 (hq.2.2.2.2.1) (rfl) (h0) (by omega)) rfl ?_
  refine EvF.go (go_v (y := nI g) (hB)) ?_
  refine EvF.gop 31 (go_isub d_Stg_items_30) rfl ?_
  refine EvF.go (go_v (y := nI (e - g)) (pk_sub hge)) ?_
  exact EvF.ri d_Stg_items_31 rfl (rfl) (rfl)
def lenN (K : Nat → Int32) (x1 e g : Nat) : Nat := (e - g) + (if K x1 = 2 then 1 else 0)
theorem lenN_le (K : Nat → Int32) (x1 e g : Nat) : lenN K x1 e g ≤ e + 1 := by unfold lenN; split <;> omega
/-- length -/
theorem e_Stg_length (G : gG) (M : gM) (a : Nat → Nat) (dw cl ln : Int32) (tt : Int64) (bn : Int32) (K E B W ST SH L DD PP X : Nat → Int32) (i x0 x1 e g : Nat) (hq : StgAt G M a dw cl ln tt bn K E B W ST SH L DD PP X) (hi : i < 24) (hX0 : X i = nI x0) (hX1 : X (i + 1) = nI x1) (h0 : x0 < 25) (h1 : x1 < 25) (hE : E x1 = nI e) (hB : B x0 = nI g) (he : e < 121) (hg : g < 121) (hge : g ≤ e) : Ev G 1 m_Stg_length [.ref (a 0), .int (nI i)] M (some (.int (nI (lenN K x1 e g)))) M := by
  refine Ev.of (Nat.le_of_ble_eq_true rfl) ?_
  show EvF G 1 m_Stg_length (0, [(0, .ref (a 0)), (1, .int (nI i))], [], M) _ _
  refine EvF.gop 1 (go_aload_n d_Stg_length_0 rfl 0 rfl) rfl ?_
  refine EvF.gop 2 (go_iload_n d_Stg_length_1 rfl 1 rfl) rfl ?_
  refine EvF.gop 5 (go_callV [.int (nI i)] [.int (nI (e - g))] c0_Stg_items im_Stg_items se_Stg_items lk_Stg_115 d_Stg_length_2 rfl rfl (hq.1) (e_Stg_items G M a dw cl ln tt bn K E B W ST SH L DD PP X i x0 x1 e g hq hi hX0 hX1 h0 h1 hE hB he hg hge) (by decide) rfl rfl (Nat.le_of_ble_eq_true rfl) rfl) rfl ?_
  refine EvF.gop 6 (go_aload_n d_Stg_length_5 rfl 0 rfl) rfl ?_
  refine EvF.gop 9 (go_get f_Stg_21 d_Stg_length_6 (hq.1) rfl) rfl ?_
  refine EvF.gop 12 (go_get f_Stg_74 d_Stg_length_9 (hq.2.1) rfl) rfl ?_
  refine EvF.gop 13 (go_aload_n d_Stg_length_12 rfl 0 rfl) rfl ?_
  refine EvF.gop 16 (go_get f_Stg_46 d_Stg_length_13 (hq.1) rfl) rfl ?_
  refine EvF.gop 17 (go_iload_n d_Stg_length_16 rfl 1 rfl) rfl ?_
  refine EvF.gop 18 (go_iconst (v := 1) d_Stg_length_17 (by decide)) rfl ?_
  refine EvF.gop 19 (go_iadd d_Stg_length_18) rfl ?_
  refine EvF.go (go_v (y := nI (i + 1)) (nI_1 i)) ?_
  refine EvF.gop 20 (go_iald (j := (i + 1)) d_Stg_length_19 (hq.2.2.2.2.2.2.2.2.2.2.2.2) (rfl) (by omega) (by omega)) rfl ?_
  refine EvF.go (go_v (y := nI x1) (hX1)) ?_
  refine EvF.gop 21 (go_iald (j := x1) d_Stg_length_20 (hq.2.2.1) (rfl) (h1) (by omega)) rfl ?_
  refine EvF.gop 22 (go_iconst (v := 2) d_Stg_length_21 (by decide)) rfl ?_
  by_cases c1 : (K x1) = 2
  · refine EvF.gop 25 (go_icmp_ne_f 29 d_Stg_length_22 (by decide) (c1)) rfl ?_
    refine EvF.gop 26 (go_iconst (v := nI 1) d_Stg_length_25 (rfl)) rfl ?_
    refine EvF.gop 30 (go_goto 30 d_Stg_length_26 (by decide)) rfl ?_
    refine EvF.gop 31 (go_iadd d_Stg_length_30) rfl ?_
    refine EvF.go (go_v (y := nI (e - g + 1)) (nI_add _ _)) ?_
    exact EvF.ri d_Stg_length_31 rfl (by simp [lenN, *]) (rfl)
  · refine EvF.gop 29 (go_icmp_ne_t 29 d_Stg_length_22 (by decide) (c1)) rfl ?_
    refine EvF.gop 30 (go_iconst (v := nI 0) d_Stg_length_29 (rfl)) rfl ?_
    refine EvF.gop 31 (go_iadd d_Stg_length_30) rfl ?_
    refine EvF.go (go_v (y := nI (e - g + 0)) (nI_add _ _)) ?_
    exact EvF.ri d_Stg_length_31 rfl (by simp [lenN, *]) (rfl)
