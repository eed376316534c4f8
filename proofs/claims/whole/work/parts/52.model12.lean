def pmF (PP K : Nat → Int32) (i j : Nat) (b : Int32) : Int64 :=
  (PP 2 + b).toInt64 * (PP 2 + b).toInt64 + (if K j = 2 then (PP 3).toInt64 * (PP 3).toInt64 + (if i = 0 then 0 else if K i = 2 then PP 4 else 0 : Int32).toInt64 else 0)
theorem e_Mod_price (G : gG) (M : gM) (A : Nat) (a : Nat → Nat) (s : Nat → Int32) (c : Int64) (PP K : Nat → Int32) (i j : Nat) (hI : InjA A a) (hA : gRd M A = some (.inr (11, oMod a s c))) (m3 : gRd M (a 3) = some (aI G 5 PP)) (m25 : gRd M (a 25) = some (aI G 26 K)) (hi : i ≤ 24) (hj : j ≤ 24) : Ev G 0 m_Mod_price [.ref A, .int (nI i), .int (nI j)] M (some (.long (pmF PP K i j (s 37)))) M := by
  refine Ev.of (Nat.le_of_ble_eq_true rfl) ?_
  show EvF G 0 m_Mod_price (0, [(0, .ref A), (1, .int (nI i)), (2, .int (nI j))], [], M) _ _
  refine EvF.gop 1 (go_aload_n d_Mod_price_0 rfl 0 rfl) rfl ?_
  refine EvF.gop 4 (go_get f_Mod_16 d_Mod_price_1 (hA) rfl) rfl ?_
  refine EvF.gop 5 (go_iconst (v := 2) d_Mod_price_4 (by decide)) rfl ?_
  refine EvF.gop 6 (go_iald (j := 2) d_Mod_price_5 (m3) (rfl) (by omega) (by omega)) rfl ?_
  refine EvF.gop 7 (go_aload_n d_Mod_price_6 rfl 0 rfl) rfl ?_
  refine EvF.gop 10 (go_get f_Mod_176 d_Mod_price_7 (hA) rfl) rfl ?_
  refine EvF.gop 11 (go_iadd d_Mod_price_10) rfl ?_
  refine EvF.gop 12 (go_i2l d_Mod_price_11) rfl ?_
  refine EvF.gop 13 (go_lstore_n [(3, .long (((PP 2) + (s 37)).toInt64)), (0, .ref A), (1, .int (nI i)), (2, .int (nI j))] d_Mod_price_12 rfl (by decide) rfl) rfl ?_
  refine EvF.go (go_pick [1, 2, 3, 0] [(0, .ref A), (1, .int (nI i)), (2, .int (nI j)), (3, .long (((PP 2) + (s 37)).toInt64))] rfl) ?_
  refine EvF.gop 14 (go_aload_n d_Mod_price_13 rfl 0 rfl) rfl ?_
  refine EvF.gop 17 (go_get f_Mod_16 d_Mod_price_14 (hA) rfl) rfl ?_
  refine EvF.gop 18 (go_iconst (v := 3) d_Mod_price_17 (by decide)) rfl ?_
  refine EvF.gop 19 (go_iald (j := 3) d_Mod_price_18 (m3) (rfl) (by omega) (by omega)) rfl ?_
  refine EvF.gop 20 (go_i2l d_Mod_price_19) rfl ?_
  refine EvF.gop 22 (go_lstore [(5, .long ((PP 3).toInt64)), (0, .ref A), (1, .int (nI i)), (2, .int (nI j)), (3, .long (((PP 2) + (s 37)).toInt64))] d_Mod_price_20 (by decide) rfl) rfl ?_
  refine EvF.go (go_pick [1, 2, 3, 4, 0] [(0, .ref A), (1, .int (nI i)), (2, .int (nI j)), (3, .long (((PP 2) + (s 37)).toInt64)), (5, .long ((PP 3).toInt64))] rfl) ?_
  refine EvF.gop 23 (go_lload_n d_Mod_price_22 rfl 3 rfl) rfl ?_
  refine EvF.gop 24 (go_lload_n d_Mod_price_23 rfl 3 rfl) rfl ?_
  refine EvF.gop 25 (go_lmul d_Mod_price_24) rfl ?_
  refine EvF.gop 26 (go_aload_n d_Mod_price_25 rfl 0 rfl) rfl ?_
  refine EvF.gop 29 (go_get f_Mod_65 d_Mod_price_26 (hA) rfl) rfl ?_
  refine EvF.gop 30 (go_iload_n d_Mod_price_29 rfl 2 rfl) rfl ?_
  refine EvF.gop 31 (go_iald (j := j) d_Mod_price_30 (m25) (rfl) (by omega) (by omega)) rfl ?_
  refine EvF.gop 32 (go_iconst (v := 2) d_Mod_price_31 (by decide)) rfl ?_
  by_cases c1 : (K j) = 2
  · refine EvF.gop 35 (go_icmp_ne_f 69 d_Mod_price_32 (by decide) (c1)) rfl ?_
    refine EvF.gop 37 (go_lload d_Mod_price_35 4 rfl) rfl ?_
    refine EvF.gop 39 (go_lload d_Mod_price_37 4 rfl) rfl ?_
    refine EvF.gop 40 (go_lmul d_Mod_price_39) rfl ?_
    refine EvF.gop 41 (go_iload_n d_Mod_price_40 rfl 1 rfl) rfl ?_
    by_cases c2 : (nI i) ≤ 0
    · have c2x : i ≤ 0 := (nI_leI (a := i) (b := 0) (by omega) (by decide)).mp c2
      have c2y : ¬ 0 < i := by omega
      refine EvF.gop 63 (go_if_le_t 63 d_Mod_price_41 (by decide) (c2)) rfl ?_
      refine EvF.gop 64 (go_iconst (v := 0) d_Mod_price_63 (by decide)) rfl ?_
      refine EvF.gop 65 (go_i2l d_Mod_price_64) rfl ?_
      refine EvF.gop 66 (go_ladd d_Mod_price_65) rfl ?_
      refine EvF.gop 70 (go_goto 70 d_Mod_price_66 (by decide)) rfl ?_
      refine EvF.gop 71 (go_ladd d_Mod_price_70) rfl ?_
      exact EvF.rl d_Mod_price_71 rfl (by unfold pmF; rw [if_pos c1, if_pos (show i = 0 by omega)]) (rfl)
    · have c2x : 0 < i := Nat.lt_of_not_le (fun q9 => c2 ((nI_leI (a := i) (b := 0) (by omega) (by decide)).mpr q9))
      have c2y : ¬ i ≤ 0 := by omega
      refine EvF.gop 44 (go_if_le_f 63 d_Mod_price_41 (by decide) (c2)) rfl ?_
      refine EvF.gop 45 (go_aload_n d_Mod_price_44 rfl 0 rfl) rfl ?_
      refine EvF.gop 48 (go_get f_Mod_65 d_Mod_price_45 (hA) rfl) rfl ?_
      refine EvF.gop 49 (go_iload_n d_Mod_price_48 rfl 1 rfl) rfl ?_
      refine EvF.gop 50 (go_iald (j := i) d_Mod_price_49 (m25) (rfl) (by omega) (by omega)) rfl ?_
      refine EvF.gop 51 (go_iconst (v := 2) d_Mod_price_50 (by decide)) rfl ?_
      by_cases c3 : (K i) = 2
      · refine EvF.gop 54 (go_icmp_ne_f 63 d_Mod_price_51 (by decide) (c3)) rfl ?_
        refine EvF.gop 55 (go_aload_n d_Mod_price_54 rfl 0 rfl) rfl ?_
        refine EvF.gop 58 (go_get f_Mod_16 d_Mod_price_55 (hA) rfl) rfl ?_
        refine EvF.gop 59 (go_iconst (v := 4) d_Mod_price_58 (by decide)) rfl ?_
        refine EvF.gop 60 (go_iald (j := 4) d_Mod_price_59 (m3) (rfl) (by omega) (by omega)) rfl ?_
        refine EvF.gop 64 (go_goto 64 d_Mod_price_60 (by decide)) rfl ?_
        refine EvF.gop 65 (go_i2l d_Mod_price_64) rfl ?_
        refine EvF.gop 66 (go_ladd d_Mod_price_65) rfl ?_
        refine EvF.gop 70 (go_goto 70 d_Mod_price_66 (by decide)) rfl ?_
        refine EvF.gop 71 (go_ladd d_Mod_price_70) rfl ?_
        exact EvF.rl d_Mod_price_71 rfl (by unfold pmF; rw [if_pos c1, if_neg (show ¬ i = 0 by omega), if_pos c3]) (rfl)
      · refine EvF.gop 63 (go_icmp_ne_t 63 d_Mod_price_51 (by decide) (c3)) rfl ?_
        refine EvF.gop 64 (go_iconst (v := 0) d_Mod_price_63 (by decide)) rfl ?_
        refine EvF.gop 65 (go_i2l d_Mod_price_64) rfl ?_
        refine EvF.gop 66 (go_ladd d_Mod_price_65) rfl ?_
        refine EvF.gop 70 (go_goto 70 d_Mod_price_66 (by decide)) rfl ?_
        refine EvF.gop 71 (go_ladd d_Mod_price_70) rfl ?_
        exact EvF.rl d_Mod_price_71 rfl (by unfold pmF; rw [if_pos c1, if_neg (show ¬ i = 0 by omega), if_neg c3]) (rfl)
  · refine EvF.gop 69 (go_icmp_ne_t 69 d_Mod_price_32 (by decide) (c1)) rfl ?_
    refine EvF.gop 70 (go_lconst (v := 0) d_Mod_price_69 (by decide)) rfl ?_
    refine EvF.gop 71 (go_ladd d_Mod_price_70) rfl ?_
    exact EvF.rl d_Mod_price_71 rfl (by unfold pmF; rw [if_neg c1]) (rfl)
def btM (C : cS) (i j : Nat) (w : Int64) : Bool := decide (lg_cmp (C.1 i) 0 < 0) || (decide (lg_cmp w (C.1 i) < 0) || (decide (lg_cmp w (C.1 i) = 0) && decide (C.2.1 j + 1 < C.2.1 i)))
def sbF (i j : Nat) (w : Int64) (C : cS) : cS := if btM C i j w = true then (vp_updL C.1 i w, upd C.2.1 i (C.2.1 j + 1), upd C.2.2 i (nI j)) else C
def siF (me : Nat → mV → Bool × mV) (pr : Nat → Int32 → Int64) (i : Nat) : Nat → Nat → cS × mV → cS × mV
  | 0, _, X => X
  | r + 1, j, X => siF me pr i r (j + 1) (if lg_cmp (X.1.1 j) 0 < 0 then X else if (me j X.2).1 = true then (sbF i j (pr j (me j X.2).2.2.2.2.2 + X.1.1 j) X.1, (me j X.2).2) else (X.1, (me j X.2).2))
def slF (n : Nat) (me : Nat → Nat → mV → Bool × mV) (pr : Nat → Nat → Int32 → Int64) : Nat → cS × mV → cS × mV
  | 0, X => X
  | k + 1, X => slF n me pr k (siF (me k) (pr k) k (n - k) (k + 1) ((vp_updL X.1.1 k (-1), X.1.2.1, X.1.2.2), X.2))
def msT (wt ci si K : Nat → Int32) (j e g : Nat) : Int32 × Bool × Int32 × Int32 := msF wt ci si (e - fsF ci (e - g) g) (fsF ci (e - g) g) ((if K j = 2 then wt 45 else 0), false, 0, 0)
def LnM (nb n : Nat) (eN gN : Nat → Nat) (wt ci si K E B : Nat → Int32) : Prop := nb ≤ 24 ∧ n ≤ 120 ∧ (∀ j, 1 ≤ j → j ≤ nb → E j = nI (eN j) ∧ eN j ≤ n) ∧ (∀ i, i < nb → B i = nI (gN i) ∧ gN i ≤ 120) ∧
  (∀ k, k < n → ci k = nI (ci k).toNatClampNeg ∧ (ci k).toNatClampNeg < 128) ∧
  ∀ i j, i < j → j ≤ nb → ∀ x : Int32, (x = (msT wt ci si K j (eN j) (gN i)).2.2.1 ∨ x = (msT wt ci si K j (eN j) (gN i)).2.2.2) → ¬ x = 0 → ¬ x.toInt64 * x.toInt64 * x.toInt64 = 0
theorem g_Mod_so1 (G : gG) (M : gM) (A : Nat) (a : Nat → Nat) (s : Nat → Int32) (c : Int64) (wt PP ci si K E B : Nat → Int32) (nb n : Nat) (eN gN : Nat → Nat) (hI : InjA A a) (m2 : gRd M (a 2) = some (aI G 128 wt)) (m3 : gRd M (a 3) = some (aI G 5 PP)) (m17 : gRd M (a 17) = some (aI G 120 ci)) (m18 : gRd M (a 18) = some (aI G 120 si)) (m25 : gRd M (a 25) = some (aI G 26 K)) (m26 : gRd M (a 26) = some (aI G 26 E)) (m27 : gRd M (a 27) = some (aI G 26 B)) (hL : LnM nb n eN gN wt ci si K E B) (h28 : s 28 = nI nb) (i : Nat) (hi : i < nb) : ∀ (r j : Nat) (X : cS × mV), j + r = nb + 1 → i < j → Go G m_Mod_solve 1 (44, [(0, .ref A), (1, .int (nI i)), (2, .int (nI j))], [], (gWr (gWr (gWr (gWr M (a 30) (aL G 26 X.1.1)) (a 31) (aI G 26 X.1.2.1)) (a 32) (aI G 26 X.1.2.2)) A (.inr (11, oMod a (upd (upd (upd (upd (upd s 33 X.2.1) 34 X.2.2.1) 35 X.2.2.2.1) 36 X.2.2.2.2.1) 37 X.2.2.2.2.2) c)))) (188, [(0, .ref A), (1, .int (nI i))], [], (gWr (gWr (gWr (gWr M (a 30) (aL G 26 ((siF (fun j => meF wt PP ci si K i j (eN j) (gN i)) (fun j => pmF PP K i j) i r j X).1.1))) (a 31) (aI G 26 ((siF (fun j => meF wt PP ci si K i j (eN j) (gN i)) (fun j => pmF PP K i j) i r j X).1.2.1))) (a 32) (aI G 26 ((siF (fun j => meF wt PP ci si K i j (eN j) (gN i)) (fun j => pmF PP K i j) i r j X).1.2.2))) A (.inr (11, oMod a (upd (upd (upd (upd (upd s 33 ((siF (fun j => meF wt PP ci si K i j (eN j) (gN i)) (fun j => pmF PP K i j) i r j X).2.1)) 34 ((siF (fun j => meF wt PP ci si K i j (eN j) (gN i)) (fun j => pmF PP K i j) i r j X).2.2.1)) 35 ((siF (fun j => meF wt PP ci si K i j (eN j) (gN i)) (fun j => pmF PP K i j) i r j X).2.2.2.1)) 36 ((siF (fun j => meF wt PP ci si K i j (eN j) (gN i)) (fun j => pmF PP K i j) i r j X).2.2.2.2.1)) 37 ((siF (fun j => meF wt PP ci si K i j (eN j) (gN i)) (fun j => pmF PP K i j) i r j X).2.2.2.2.2)) c)))) := by
  obtain ⟨hnb, hn, hE, hB, hc, hz⟩ := id hL
  have hBi := hB i hi
  intro r
  induction r with
  | zero =>
    intro j X hr hij
    refine Go.trp 45 (go_iload_n d_Mod_solve_44 rfl 2 rfl) rfl ?_
    refine Go.trp 46 (go_aload_n d_Mod_solve_45 rfl 0 rfl) rfl ?_
    refine Go.trp 49 (go_get f_Mod_163 d_Mod_solve_46 (gRd_s _ _ _) rfl) rfl ?_
    refine Go.trp 188 (go_icmp_gt_t 188 d_Mod_solve_49 (by decide) (show s 28 < nI j from by rw [h28]; exact nI_lt (by omega) (by omega))) rfl ?_
    refine (go_pick [0, 1] [(0, .ref A), (1, .int (nI i))] rfl).tr ?_
    exact Go.rf
  | succ r ih =>
    intro j X hr hij
    have hEj := hE j (by omega) (by omega)
    refine Go.trp 45 (go_iload_n d_Mod_solve_44 rfl 2 rfl) rfl ?_
    refine Go.trp 46 (go_aload_n d_Mod_solve_45 rfl 0 rfl) rfl ?_
    refine Go.trp 49 (go_get f_Mod_163 d_Mod_solve_46 (gRd_s _ _ _) rfl) rfl ?_
    refine Go.trp 52 (go_icmp_gt_f 188 d_Mod_solve_49 (by decide) (show ¬ s 28 < nI j from by rw [h28]; exact nI_nlt (by omega) (by omega))) rfl ?_
    refine Go.trp 53 (go_aload_n d_Mod_solve_52 rfl 0 rfl) rfl ?_
    refine Go.trp 56 (go_get f_Mod_74 d_Mod_solve_53 (gRd_s _ _ _) rfl) rfl ?_
    refine Go.trp 57 (go_iload_n d_Mod_solve_56 rfl 2 rfl) rfl ?_
    refine Go.trp 58 (go_lald (j := j) d_Mod_solve_57 ((gRd_n _ _ (Ne.symm (hI.2 30))).trans ((gRd_n _ _ (hI.n (i := 30) (j := 32) (by decide))).trans ((gRd_n _ _ (hI.n (i := 30) (j := 31) (by decide))).trans (gRd_s _ _ _)))) (rfl) (by omega) (by omega)) rfl ?_
    refine Go.trp 59 (go_lconst (v := 0) d_Mod_solve_58 (by decide)) rfl ?_
    refine Go.trp 60 (go_lcmp d_Mod_solve_59) rfl ?_
    by_cases c1 : (lg_cmp (X.1.1 j) 0) < 0
    · have c1x : ¬ 0 ≤ (lg_cmp (X.1.1 j) 0) := Int32.not_le.mpr c1
      refine Go.trp 182 (go_if_lt_t 182 d_Mod_solve_60 (by decide) (c1)) rfl ?_
      refine Go.trp 185 (go_inc1 (n0 := 2) (x := j) [(2, .int (nI (j + 1))), (0, .ref A), (1, .int (nI i))] d_Mod_solve_182 rfl (by decide) rfl) rfl ?_
      refine (go_pick [1, 2, 0] [(0, .ref A), (1, .int (nI i)), (2, .int (nI (j + 1)))] rfl).tr ?_
      refine Go.trp 44 (go_goto 44 d_Mod_solve_185 (by decide)) rfl ?_
      have eX : (siF (fun j => meF wt PP ci si K i j (eN j) (gN i)) (fun j => pmF PP K i j) i (r + 1) j X) = (siF (fun j => meF wt PP ci si K i j (eN j) (gN i)) (fun j => pmF PP K i j) i r (j + 1) ((if lg_cmp (X.1.1 j) 0 < 0 then X else if (meF wt PP ci si K i j (eN j) (gN i) X.2).1 = true then (sbF i j (pmF PP K i j (meF wt PP ci si K i j (eN j) (gN i) X.2).2.2.2.2.2 + X.1.1 j) X.1, (meF wt PP ci si K i j (eN j) (gN i) X.2).2) else (X.1, (meF wt PP ci si K i j (eN j) (gN i) X.2).2)))) := rfl
      refine (go_pick [0, 1, 2] [(0, .ref A), (1, .int (nI i)), (2, .int (nI (j + 1)))] rfl).tr ?_
      rw [eX, show (if lg_cmp (X.1.1 j) 0 < 0 then X else if (meF wt PP ci si K i j (eN j) (gN i) X.2).1 = true then (sbF i j (pmF PP K i j (meF wt PP ci si K i j (eN j) (gN i) X.2).2.2.2.2.2 + X.1.1 j) X.1, (meF wt PP ci si K i j (eN j) (gN i) X.2).2) else (X.1, (meF wt PP ci si K i j (eN j) (gN i) X.2).2)) = X from if_pos (by assumption)]
      exact ih (j + 1) X (by omega) (by omega)
    · have c1x : 0 ≤ (lg_cmp (X.1.1 j) 0) := Int32.not_lt.mp c1
      refine Go.trp 63 (go_if_lt_f 182 d_Mod_solve_60 (by decide) (c1)) rfl ?_
      refine Go.trp 64 (go_aload_n d_Mod_solve_63 rfl 0 rfl) rfl ?_
      refine Go.trp 65 (go_iload_n d_Mod_solve_64 rfl 1 rfl) rfl ?_
      refine Go.trp 66 (go_iload_n d_Mod_solve_65 rfl 2 rfl) rfl ?_
      refine Go.trp 69 (go_callV [.int (nI i), .int (nI j)] [.int (bI (meF wt PP ci si K i j (eN j) (gN i) X.2).1)] c0_Mod_measure im_Mod_measure se_Mod_measure lk_Mod_191 d_Mod_solve_66 rfl rfl (gRd_s _ _ _) (e_Mod_measure G (gWr (gWr (gWr M (a 30) (aL G 26 X.1.1)) (a 31) (aI G 26 X.1.2.1)) (a 32) (aI G 26 X.1.2.2)) A a s c wt PP ci si K E B i j (eN j) (gN i) n hI ((gRd_n _ _ (hI.n (i := 2) (j := 32) (by decide))).trans ((gRd_n _ _ (hI.n (i := 2) (j := 31) (by decide))).trans ((gRd_n _ _ (hI.n (i := 2) (j := 30) (by decide))).trans (m2)))) ((gRd_n _ _ (hI.n (i := 3) (j := 32) (by decide))).trans ((gRd_n _ _ (hI.n (i := 3) (j := 31) (by decide))).trans ((gRd_n _ _ (hI.n (i := 3) (j := 30) (by decide))).trans (m3)))) ((gRd_n _ _ (hI.n (i := 17) (j := 32) (by decide))).trans ((gRd_n _ _ (hI.n (i := 17) (j := 31) (by decide))).trans ((gRd_n _ _ (hI.n (i := 17) (j := 30) (by decide))).trans (m17)))) ((gRd_n _ _ (hI.n (i := 18) (j := 32) (by decide))).trans ((gRd_n _ _ (hI.n (i := 18) (j := 31) (by decide))).trans ((gRd_n _ _ (hI.n (i := 18) (j := 30) (by decide))).trans (m18)))) ((gRd_n _ _ (hI.n (i := 25) (j := 32) (by decide))).trans ((gRd_n _ _ (hI.n (i := 25) (j := 31) (by decide))).trans ((gRd_n _ _ (hI.n (i := 25) (j := 30) (by decide))).trans (m25)))) ((gRd_n _ _ (hI.n (i := 26) (j := 32) (by decide))).trans ((gRd_n _ _ (hI.n (i := 26) (j := 31) (by decide))).trans ((gRd_n _ _ (hI.n (i := 26) (j := 30) (by decide))).trans (m26)))) ((gRd_n _ _ (hI.n (i := 27) (j := 32) (by decide))).trans ((gRd_n _ _ (hI.n (i := 27) (j := 31) (by decide))).trans ((gRd_n _ _ (hI.n (i := 27) (j := 30) (by decide))).trans (m27)))) hij (by omega) hEj.1 hBi.1 hEj.2 hBi.2 hn hc (hz i j hij (by omega)) X.2) (by decide) rfl rfl (Nat.le_of_ble_eq_true rfl) rfl) rfl ?_
      by_cases c2 : (bI (meF wt PP ci si K i j (eN j) (gN i) X.2).1) = 0
      · have c2x : (meF wt PP ci si K i j (eN j) (gN i) X.2).1 = false := bI_0.mp c2
        refine Go.trp 72 (go_if_ne_f 75 d_Mod_solve_69 (by decide) (c2)) rfl ?_
        refine Go.trp 182 (go_goto 182 d_Mod_solve_72 (by decide)) rfl ?_
        refine Go.trp 185 (go_inc1 (n0 := 2) (x := j) [(2, .int (nI (j + 1))), (0, .ref A), (1, .int (nI i))] d_Mod_solve_182 rfl (by decide) rfl) rfl ?_
        refine (go_pick [1, 2, 0] [(0, .ref A), (1, .int (nI i)), (2, .int (nI (j + 1)))] rfl).tr ?_
        refine Go.trp 44 (go_goto 44 d_Mod_solve_185 (by decide)) rfl ?_
        have eX : (siF (fun j => meF wt PP ci si K i j (eN j) (gN i)) (fun j => pmF PP K i j) i (r + 1) j X) = (siF (fun j => meF wt PP ci si K i j (eN j) (gN i)) (fun j => pmF PP K i j) i r (j + 1) ((if lg_cmp (X.1.1 j) 0 < 0 then X else if (meF wt PP ci si K i j (eN j) (gN i) X.2).1 = true then (sbF i j (pmF PP K i j (meF wt PP ci si K i j (eN j) (gN i) X.2).2.2.2.2.2 + X.1.1 j) X.1, (meF wt PP ci si K i j (eN j) (gN i) X.2).2) else (X.1, (meF wt PP ci si K i j (eN j) (gN i) X.2).2)))) := rfl
        refine (go_pick [0, 1, 2] [(0, .ref A), (1, .int (nI i)), (2, .int (nI (j + 1)))] rfl).tr ?_
        rw [eX, show (if lg_cmp (X.1.1 j) 0 < 0 then X else if (meF wt PP ci si K i j (eN j) (gN i) X.2).1 = true then (sbF i j (pmF PP K i j (meF wt PP ci si K i j (eN j) (gN i) X.2).2.2.2.2.2 + X.1.1 j) X.1, (meF wt PP ci si K i j (eN j) (gN i) X.2).2) else (X.1, (meF wt PP ci si K i j (eN j) (gN i) X.2).2)) = (X.1, (meF wt PP ci si K i j (eN j) (gN i) X.2).2) from (if_neg (by assumption)).trans (if_neg (by rw [‹(meF wt PP ci si K i j (eN j) (gN i) X.2).1 = false›]; decide))]
        exact ih (j + 1) (X.1, (meF wt PP ci si K i j (eN j) (gN i) X.2).2) (by omega) (by omega)
      · have c2x : (meF wt PP ci si K i j (eN j) (gN i) X.2).1 = true := bI_n0.mp c2
        refine Go.trp 75 (go_if_ne_t 75 d_Mod_solve_69 (by decide) (c2)) rfl ?_
        refine Go.trp 76 (go_aload_n d_Mod_solve_75 rfl 0 rfl) rfl ?_
        refine Go.trp 77 (go_iload_n d_Mod_solve_76 rfl 1 rfl) rfl ?_
        refine Go.trp 78 (go_iload_n d_Mod_solve_77 rfl 2 rfl) rfl ?_
        refine Go.trp 81 (go_callV [.int (nI i), .int (nI j)] [.long (pmF PP K i j (meF wt PP ci si K i j (eN j) (gN i) X.2).2.2.2.2.2)] c0_Mod_price im_Mod_price se_Mod_price lk_Mod_195 d_Mod_solve_78 rfl rfl (gRd_s _ _ _) (e_Mod_price G _ A a (upd (upd (upd (upd (upd s 33 ((meF wt PP ci si K i j (eN j) (gN i) X.2).2.1)) 34 ((meF wt PP ci si K i j (eN j) (gN i) X.2).2.2.1)) 35 ((meF wt PP ci si K i j (eN j) (gN i) X.2).2.2.2.1)) 36 ((meF wt PP ci si K i j (eN j) (gN i) X.2).2.2.2.2.1)) 37 ((meF wt PP ci si K i j (eN j) (gN i) X.2).2.2.2.2.2)) c PP K i j hI (gRd_s _ _ _) ((gRd_n _ _ (Ne.symm (hI.2 3))).trans ((gRd_n _ _ (hI.n (i := 3) (j := 32) (by decide))).trans ((gRd_n _ _ (hI.n (i := 3) (j := 31) (by decide))).trans ((gRd_n _ _ (hI.n (i := 3) (j := 30) (by decide))).trans (m3))))) ((gRd_n _ _ (Ne.symm (hI.2 25))).trans ((gRd_n _ _ (hI.n (i := 25) (j := 32) (by decide))).trans ((gRd_n _ _ (hI.n (i := 25) (j := 31) (by decide))).trans ((gRd_n _ _ (hI.n (i := 25) (j := 30) (by decide))).trans (m25))))) (by omega) (by omega)) (by decide) rfl rfl (Nat.le_of_ble_eq_true rfl) rfl) rfl ?_
        refine Go.trp 82 (go_aload_n d_Mod_solve_81 rfl 0 rfl) rfl ?_
        refine Go.trp 85 (go_get f_Mod_74 d_Mod_solve_82 (gRd_s _ _ _) rfl) rfl ?_
        refine Go.trp 86 (go_iload_n d_Mod_solve_85 rfl 2 rfl) rfl ?_
        refine Go.trp 87 (go_lald (j := j) d_Mod_solve_86 ((gRd_n _ _ (Ne.symm (hI.2 30))).trans ((gRd_n _ _ (hI.n (i := 30) (j := 32) (by decide))).trans ((gRd_n _ _ (hI.n (i := 30) (j := 31) (by decide))).trans (gRd_s _ _ _)))) (rfl) (by omega) (by omega)) rfl ?_
        refine Go.trp 88 (go_ladd d_Mod_solve_87) rfl ?_
        refine Go.trp 89 (go_lstore_n [(3, .long ((pmF PP K i j (meF wt PP ci si K i j (eN j) (gN i) X.2).2.2.2.2.2) + (X.1.1 j))), (0, .ref A), (1, .int (nI i)), (2, .int (nI j))] d_Mod_solve_88 rfl (by decide) rfl) rfl ?_
        refine (go_pick [1, 2, 3, 0] [(0, .ref A), (1, .int (nI i)), (2, .int (nI j)), (3, .long ((pmF PP K i j (meF wt PP ci si K i j (eN j) (gN i) X.2).2.2.2.2.2) + (X.1.1 j)))] rfl).tr ?_
        refine Go.trp 90 (go_aload_n d_Mod_solve_89 rfl 0 rfl) rfl ?_
        refine Go.trp 93 (go_get f_Mod_74 d_Mod_solve_90 (gRd_s _ _ _) rfl) rfl ?_
        refine Go.trp 94 (go_iload_n d_Mod_solve_93 rfl 1 rfl) rfl ?_
        refine Go.trp 95 (go_lald (j := i) d_Mod_solve_94 ((gRd_n _ _ (Ne.symm (hI.2 30))).trans ((gRd_n _ _ (hI.n (i := 30) (j := 32) (by decide))).trans ((gRd_n _ _ (hI.n (i := 30) (j := 31) (by decide))).trans (gRd_s _ _ _)))) (rfl) (by omega) (by omega)) rfl ?_
        refine Go.trp 96 (go_lconst (v := 0) d_Mod_solve_95 (by decide)) rfl ?_
        refine Go.trp 97 (go_lcmp d_Mod_solve_96) rfl ?_
        by_cases c3 : (lg_cmp (X.1.1 i) 0) < 0
        · have c3x : ¬ 0 ≤ (lg_cmp (X.1.1 i) 0) := Int32.not_le.mpr c3
          refine Go.trp 139 (go_if_lt_t 139 d_Mod_solve_97 (by decide) (c3)) rfl ?_
          refine Go.trp 140 (go_iconst (v := 1) d_Mod_solve_139 (by decide)) rfl ?_
          refine Go.trp 144 (go_goto 144 d_Mod_solve_140 (by decide)) rfl ?_
          refine Go.trp 146 (go_istore [(5, .int 1), (0, .ref A), (1, .int (nI i)), (2, .int (nI j)), (3, .long ((pmF PP K i j (meF wt PP ci si K i j (eN j) (gN i) X.2).2.2.2.2.2) + (X.1.1 j)))] d_Mod_solve_144 (by decide) rfl) rfl ?_
          refine (go_pick [1, 2, 3, 4, 0] [(0, .ref A), (1, .int (nI i)), (2, .int (nI j)), (3, .long ((pmF PP K i j (meF wt PP ci si K i j (eN j) (gN i) X.2).2.2.2.2.2) + (X.1.1 j))), (5, .int 1)] rfl).tr ?_
          refine Go.trp 148 (go_iload d_Mod_solve_146 4 rfl) rfl ?_
          refine Go.trp 154 (go_if_ne_t 154 d_Mod_solve_148 (by decide) (by decide)) rfl ?_
          refine Go.trp 155 (go_aload_n d_Mod_solve_154 rfl 0 rfl) rfl ?_
          refine Go.trp 158 (go_get f_Mod_74 d_Mod_solve_155 (gRd_s _ _ _) rfl) rfl ?_
          refine Go.trp 159 (go_iload_n d_Mod_solve_158 rfl 1 rfl) rfl ?_
          refine Go.trp 160 (go_lload_n d_Mod_solve_159 rfl 3 rfl) rfl ?_
          refine Go.trp 161 (go_last (j := i) d_Mod_solve_160 ((gRd_n _ _ (Ne.symm (hI.2 30))).trans ((gRd_n _ _ (hI.n (i := 30) (j := 32) (by decide))).trans ((gRd_n _ _ (hI.n (i := 30) (j := 31) (by decide))).trans (gRd_s _ _ _)))) (rfl) (by omega) (by omega)) rfl ?_
          refine (go_m (M' := (gWr (gWr (gWr (gWr M (a 30) (aL G 26 (vp_updL X.1.1 i ((pmF PP K i j (meF wt PP ci si K i j (eN j) (gN i) X.2).2.2.2.2.2) + (X.1.1 j))))) (a 31) (aI G 26 X.1.2.1)) (a 32) (aI G 26 X.1.2.2)) A (.inr (11, oMod a (upd (upd (upd (upd (upd s 33 ((meF wt PP ci si K i j (eN j) (gN i) X.2).2.1)) 34 ((meF wt PP ci si K i j (eN j) (gN i) X.2).2.2.1)) 35 ((meF wt PP ci si K i j (eN j) (gN i) X.2).2.2.2.1)) 36 ((meF wt PP ci si K i j (eN j) (gN i) X.2).2.2.2.2.1)) 37 ((meF wt PP ci si K i j (eN j) (gN i) X.2).2.2.2.2.2)) c)))) ((gWr_cm (gWr (gWr (gWr M (a 30) (aL G 26 X.1.1)) (a 31) (aI G 26 X.1.2.1)) (a 32) (aI G 26 X.1.2.2)) (.inr (11, oMod a (upd (upd (upd (upd (upd s 33 ((meF wt PP ci si K i j (eN j) (gN i) X.2).2.1)) 34 ((meF wt PP ci si K i j (eN j) (gN i) X.2).2.2.1)) 35 ((meF wt PP ci si K i j (eN j) (gN i) X.2).2.2.2.1)) 36 ((meF wt PP ci si K i j (eN j) (gN i) X.2).2.2.2.2.1)) 37 ((meF wt PP ci si K i j (eN j) (gN i) X.2).2.2.2.2.2)) c)) (aL G 26 (vp_updL X.1.1 i ((pmF PP K i j (meF wt PP ci si K i j (eN j) (gN i) X.2).2.2.2.2.2) + (X.1.1 j)))) (hI.2 30)).trans (congrArg (fun mZ => gWr mZ A (.inr (11, oMod a (upd (upd (upd (upd (upd s 33 ((meF wt PP ci si K i j (eN j) (gN i) X.2).2.1)) 34 ((meF wt PP ci si K i j (eN j) (gN i) X.2).2.2.1)) 35 ((meF wt PP ci si K i j (eN j) (gN i) X.2).2.2.2.1)) 36 ((meF wt PP ci si K i j (eN j) (gN i) X.2).2.2.2.2.1)) 37 ((meF wt PP ci si K i j (eN j) (gN i) X.2).2.2.2.2.2)) c))) ((gWr_cm (gWr (gWr M (a 30) (aL G 26 X.1.1)) (a 31) (aI G 26 X.1.2.1)) (aI G 26 X.1.2.2) (aL G 26 (vp_updL X.1.1 i ((pmF PP K i j (meF wt PP ci si K i j (eN j) (gN i) X.2).2.2.2.2.2) + (X.1.1 j)))) (hI.n (i := 32) (j := 30) (by decide))).trans (congrArg (fun mZ => gWr mZ (a 32) (aI G 26 X.1.2.2)) ((gWr_cm (gWr M (a 30) (aL G 26 X.1.1)) (aI G 26 X.1.2.1) (aL G 26 (vp_updL X.1.1 i ((pmF PP K i j (meF wt PP ci si K i j (eN j) (gN i) X.2).2.2.2.2.2) + (X.1.1 j)))) (hI.n (i := 31) (j := 30) (by decide))).trans (congrArg (fun mZ => gWr mZ (a 31) (aI G 26 X.1.2.1)) (gWr_wr M (a 30) (aL G 26 X.1.1) (aL G 26 (vp_updL X.1.1 i ((pmF PP K i j (meF wt PP ci si K i j (eN j) (gN i) X.2).2.2.2.2.2) + (X.1.1 j)))))))))))).tr ?_
          refine Go.trp 162 (go_aload_n d_Mod_solve_161 rfl 0 rfl) rfl ?_
          refine Go.trp 165 (go_get f_Mod_78 d_Mod_solve_162 (gRd_s _ _ _) rfl) rfl ?_
          refine Go.trp 166 (go_iload_n d_Mod_solve_165 rfl 1 rfl) rfl ?_
          refine Go.trp 167 (go_aload_n d_Mod_solve_166 rfl 0 rfl) rfl ?_
          refine Go.trp 170 (go_get f_Mod_78 d_Mod_solve_167 (gRd_s _ _ _) rfl) rfl ?_
          refine Go.trp 171 (go_iload_n d_Mod_solve_170 rfl 2 rfl) rfl ?_
          refine Go.trp 172 (go_iald (j := j) d_Mod_solve_171 ((gRd_n _ _ (Ne.symm (hI.2 31))).trans ((gRd_n _ _ (hI.n (i := 31) (j := 32) (by decide))).trans (gRd_s _ _ _))) (rfl) (by omega) (by omega)) rfl ?_
          refine Go.trp 173 (go_iconst (v := 1) d_Mod_solve_172 (by decide)) rfl ?_
          refine Go.trp 174 (go_iadd d_Mod_solve_173) rfl ?_
          refine Go.trp 175 (go_iast (j := i) d_Mod_solve_174 ((gRd_n _ _ (Ne.symm (hI.2 31))).trans ((gRd_n _ _ (hI.n (i := 31) (j := 32) (by decide))).trans (gRd_s _ _ _))) (rfl) (by omega) (by omega)) rfl ?_
          refine (go_m (M' := (gWr (gWr (gWr (gWr M (a 30) (aL G 26 (vp_updL X.1.1 i ((pmF PP K i j (meF wt PP ci si K i j (eN j) (gN i) X.2).2.2.2.2.2) + (X.1.1 j))))) (a 31) (aI G 26 (upd X.1.2.1 i ((X.1.2.1 j) + 1)))) (a 32) (aI G 26 X.1.2.2)) A (.inr (11, oMod a (upd (upd (upd (upd (upd s 33 ((meF wt PP ci si K i j (eN j) (gN i) X.2).2.1)) 34 ((meF wt PP ci si K i j (eN j) (gN i) X.2).2.2.1)) 35 ((meF wt PP ci si K i j (eN j) (gN i) X.2).2.2.2.1)) 36 ((meF wt PP ci si K i j (eN j) (gN i) X.2).2.2.2.2.1)) 37 ((meF wt PP ci si K i j (eN j) (gN i) X.2).2.2.2.2.2)) c)))) ((gWr_cm (gWr (gWr (gWr M (a 30) (aL G 26 (vp_updL X.1.1 i ((pmF PP K i j (meF wt PP ci si K i j (eN j) (gN i) X.2).2.2.2.2.2) + (X.1.1 j))))) (a 31) (aI G 26 X.1.2.1)) (a 32) (aI G 26 X.1.2.2)) (.inr (11, oMod a (upd (upd (upd (upd (upd s 33 ((meF wt PP ci si K i j (eN j) (gN i) X.2).2.1)) 34 ((meF wt PP ci si K i j (eN j) (gN i) X.2).2.2.1)) 35 ((meF wt PP ci si K i j (eN j) (gN i) X.2).2.2.2.1)) 36 ((meF wt PP ci si K i j (eN j) (gN i) X.2).2.2.2.2.1)) 37 ((meF wt PP ci si K i j (eN j) (gN i) X.2).2.2.2.2.2)) c)) (aI G 26 (upd X.1.2.1 i ((X.1.2.1 j) + 1))) (hI.2 31)).trans (congrArg (fun mZ => gWr mZ A (.inr (11, oMod a (upd (upd (upd (upd (upd s 33 ((meF wt PP ci si K i j (eN j) (gN i) X.2).2.1)) 34 ((meF wt PP ci si K i j (eN j) (gN i) X.2).2.2.1)) 35 ((meF wt PP ci si K i j (eN j) (gN i) X.2).2.2.2.1)) 36 ((meF wt PP ci si K i j (eN j) (gN i) X.2).2.2.2.2.1)) 37 ((meF wt PP ci si K i j (eN j) (gN i) X.2).2.2.2.2.2)) c))) ((gWr_cm (gWr (gWr M (a 30) (aL G 26 (vp_updL X.1.1 i ((pmF PP K i j (meF wt PP ci si K i j (eN j) (gN i) X.2).2.2.2.2.2) + (X.1.1 j))))) (a 31) (aI G 26 X.1.2.1)) (aI G 26 X.1.2.2) (aI G 26 (upd X.1.2.1 i ((X.1.2.1 j) + 1))) (hI.n (i := 32) (j := 31) (by decide))).trans (congrArg (fun mZ => gWr mZ (a 32) (aI G 26 X.1.2.2)) (gWr_wr (gWr M (a 30) (aL G 26 (vp_updL X.1.1 i ((pmF PP K i j (meF wt PP ci si K i j (eN j) (gN i) X.2).2.2.2.2.2) + (X.1.1 j))))) (a 31) (aI G 26 X.1.2.1) (aI G 26 (upd X.1.2.1 i ((X.1.2.1 j) + 1))))))))).tr ?_
          refine Go.trp 176 (go_aload_n d_Mod_solve_175 rfl 0 rfl) rfl ?_
          refine Go.trp 179 (go_get f_Mod_81 d_Mod_solve_176 (gRd_s _ _ _) rfl) rfl ?_
          refine Go.trp 180 (go_iload_n d_Mod_solve_179 rfl 1 rfl) rfl ?_
          refine Go.trp 181 (go_iload_n d_Mod_solve_180 rfl 2 rfl) rfl ?_
          refine Go.trp 182 (go_iast (j := i) d_Mod_solve_181 ((gRd_n _ _ (Ne.symm (hI.2 32))).trans (gRd_s _ _ _)) (rfl) (by omega) (by omega)) rfl ?_
          refine (go_m (M' := (gWr (gWr (gWr (gWr M (a 30) (aL G 26 (vp_updL X.1.1 i ((pmF PP K i j (meF wt PP ci si K i j (eN j) (gN i) X.2).2.2.2.2.2) + (X.1.1 j))))) (a 31) (aI G 26 (upd X.1.2.1 i ((X.1.2.1 j) + 1)))) (a 32) (aI G 26 (upd X.1.2.2 i (nI j)))) A (.inr (11, oMod a (upd (upd (upd (upd (upd s 33 ((meF wt PP ci si K i j (eN j) (gN i) X.2).2.1)) 34 ((meF wt PP ci si K i j (eN j) (gN i) X.2).2.2.1)) 35 ((meF wt PP ci si K i j (eN j) (gN i) X.2).2.2.2.1)) 36 ((meF wt PP ci si K i j (eN j) (gN i) X.2).2.2.2.2.1)) 37 ((meF wt PP ci si K i j (eN j) (gN i) X.2).2.2.2.2.2)) c)))) ((gWr_cm (gWr (gWr (gWr M (a 30) (aL G 26 (vp_updL X.1.1 i ((pmF PP K i j (meF wt PP ci si K i j (eN j) (gN i) X.2).2.2.2.2.2) + (X.1.1 j))))) (a 31) (aI G 26 (upd X.1.2.1 i ((X.1.2.1 j) + 1)))) (a 32) (aI G 26 X.1.2.2)) (.inr (11, oMod a (upd (upd (upd (upd (upd s 33 ((meF wt PP ci si K i j (eN j) (gN i) X.2).2.1)) 34 ((meF wt PP ci si K i j (eN j) (gN i) X.2).2.2.1)) 35 ((meF wt PP ci si K i j (eN j) (gN i) X.2).2.2.2.1)) 36 ((meF wt PP ci si K i j (eN j) (gN i) X.2).2.2.2.2.1)) 37 ((meF wt PP ci si K i j (eN j) (gN i) X.2).2.2.2.2.2)) c)) (aI G 26 (upd X.1.2.2 i (nI j))) (hI.2 32)).trans (congrArg (fun mZ => gWr mZ A (.inr (11, oMod a (upd (upd (upd (upd (upd s 33 ((meF wt PP ci si K i j (eN j) (gN i) X.2).2.1)) 34 ((meF wt PP ci si K i j (eN j) (gN i) X.2).2.2.1)) 35 ((meF wt PP ci si K i j (eN j) (gN i) X.2).2.2.2.1)) 36 ((meF wt PP ci si K i j (eN j) (gN i) X.2).2.2.2.2.1)) 37 ((meF wt PP ci si K i j (eN j) (gN i) X.2).2.2.2.2.2)) c))) (gWr_wr (gWr (gWr M (a 30) (aL G 26 (vp_updL X.1.1 i ((pmF PP K i j (meF wt PP ci si K i j (eN j) (gN i) X.2).2.2.2.2.2) + (X.1.1 j))))) (a 31) (aI G 26 (upd X.1.2.1 i ((X.1.2.1 j) + 1)))) (a 32) (aI G 26 X.1.2.2) (aI G 26 (upd X.1.2.2 i (nI j))))))).tr ?_
          refine Go.trp 185 (go_inc1 (n0 := 2) (x := j) [(2, .int (nI (j + 1))), (0, .ref A), (1, .int (nI i)), (3, .long ((pmF PP K i j (meF wt PP ci si K i j (eN j) (gN i) X.2).2.2.2.2.2) + (X.1.1 j))), (5, .int 1)] d_Mod_solve_182 rfl (by decide) rfl) rfl ?_
          refine (go_pick [1, 2, 0, 3, 4] [(0, .ref A), (1, .int (nI i)), (2, .int (nI (j + 1))), (3, .long ((pmF PP K i j (meF wt PP ci si K i j (eN j) (gN i) X.2).2.2.2.2.2) + (X.1.1 j))), (5, .int 1)] rfl).tr ?_
          refine Go.trp 44 (go_goto 44 d_Mod_solve_185 (by decide)) rfl ?_
          have eX : (siF (fun j => meF wt PP ci si K i j (eN j) (gN i)) (fun j => pmF PP K i j) i (r + 1) j X) = (siF (fun j => meF wt PP ci si K i j (eN j) (gN i)) (fun j => pmF PP K i j) i r (j + 1) ((if lg_cmp (X.1.1 j) 0 < 0 then X else if (meF wt PP ci si K i j (eN j) (gN i) X.2).1 = true then (sbF i j (pmF PP K i j (meF wt PP ci si K i j (eN j) (gN i) X.2).2.2.2.2.2 + X.1.1 j) X.1, (meF wt PP ci si K i j (eN j) (gN i) X.2).2) else (X.1, (meF wt PP ci si K i j (eN j) (gN i) X.2).2)))) := rfl
          refine (go_pick [0, 1, 2] [(0, .ref A), (1, .int (nI i)), (2, .int (nI (j + 1)))] rfl).tr ?_
          have eb : btM X.1 i j (pmF PP K i j (meF wt PP ci si K i j (eN j) (gN i) X.2).2.2.2.2.2 + X.1.1 j) = true := by unfold btM; simp only [*, decide_true, decide_false, Bool.true_or, Bool.or_true, Bool.false_or, Bool.and_true, Bool.and_false, Bool.true_and, Bool.false_and, Bool.or_false]; try decide
          have es : sbF i j (pmF PP K i j (meF wt PP ci si K i j (eN j) (gN i) X.2).2.2.2.2.2 + X.1.1 j) X.1 = (vp_updL X.1.1 i (pmF PP K i j (meF wt PP ci si K i j (eN j) (gN i) X.2).2.2.2.2.2 + X.1.1 j), upd X.1.2.1 i (X.1.2.1 j + 1), upd X.1.2.2 i (nI j)) := if_pos eb
          rw [eX, show (if lg_cmp (X.1.1 j) 0 < 0 then X else if (meF wt PP ci si K i j (eN j) (gN i) X.2).1 = true then (sbF i j (pmF PP K i j (meF wt PP ci si K i j (eN j) (gN i) X.2).2.2.2.2.2 + X.1.1 j) X.1, (meF wt PP ci si K i j (eN j) (gN i) X.2).2) else (X.1, (meF wt PP ci si K i j (eN j) (gN i) X.2).2)) = ((vp_updL X.1.1 i (pmF PP K i j (meF wt PP ci si K i j (eN j) (gN i) X.2).2.2.2.2.2 + X.1.1 j), upd X.1.2.1 i (X.1.2.1 j + 1), upd X.1.2.2 i (nI j)), (meF wt PP ci si K i j (eN j) (gN i) X.2).2) from (if_neg (by assumption)).trans ((if_pos (by assumption)).trans (by rw [es]))]
          exact ih (j + 1) ((vp_updL X.1.1 i (pmF PP K i j (meF wt PP ci si K i j (eN j) (gN i) X.2).2.2.2.2.2 + X.1.1 j), upd X.1.2.1 i (X.1.2.1 j + 1), upd X.1.2.2 i (nI j)), (meF wt PP ci si K i j (eN j) (gN i) X.2).2) (by omega) (by omega)
        · have c3x : 0 ≤ (lg_cmp (X.1.1 i) 0) := Int32.not_lt.mp c3
          refine Go.trp 100 (go_if_lt_f 139 d_Mod_solve_97 (by decide) (c3)) rfl ?_
          refine Go.trp 101 (go_lload_n d_Mod_solve_100 rfl 3 rfl) rfl ?_
          refine Go.trp 102 (go_aload_n d_Mod_solve_101 rfl 0 rfl) rfl ?_
          refine Go.trp 105 (go_get f_Mod_74 d_Mod_solve_102 (gRd_s _ _ _) rfl) rfl ?_
          refine Go.trp 106 (go_iload_n d_Mod_solve_105 rfl 1 rfl) rfl ?_
          refine Go.trp 107 (go_lald (j := i) d_Mod_solve_106 ((gRd_n _ _ (Ne.symm (hI.2 30))).trans ((gRd_n _ _ (hI.n (i := 30) (j := 32) (by decide))).trans ((gRd_n _ _ (hI.n (i := 30) (j := 31) (by decide))).trans (gRd_s _ _ _)))) (rfl) (by omega) (by omega)) rfl ?_
          refine Go.trp 108 (go_lcmp d_Mod_solve_107) rfl ?_
          by_cases c4 : (lg_cmp ((pmF PP K i j (meF wt PP ci si K i j (eN j) (gN i) X.2).2.2.2.2.2) + (X.1.1 j)) (X.1.1 i)) < 0
          · have c4x : ¬ 0 ≤ (lg_cmp ((pmF PP K i j (meF wt PP ci si K i j (eN j) (gN i) X.2).2.2.2.2.2) + (X.1.1 j)) (X.1.1 i)) := Int32.not_le.mpr c4
            refine Go.trp 139 (go_if_lt_t 139 d_Mod_solve_108 (by decide) (c4)) rfl ?_
            refine Go.trp 140 (go_iconst (v := 1) d_Mod_solve_139 (by decide)) rfl ?_
            refine Go.trp 144 (go_goto 144 d_Mod_solve_140 (by decide)) rfl ?_
            refine Go.trp 146 (go_istore [(5, .int 1), (0, .ref A), (1, .int (nI i)), (2, .int (nI j)), (3, .long ((pmF PP K i j (meF wt PP ci si K i j (eN j) (gN i) X.2).2.2.2.2.2) + (X.1.1 j)))] d_Mod_solve_144 (by decide) rfl) rfl ?_
            refine (go_pick [1, 2, 3, 4, 0] [(0, .ref A), (1, .int (nI i)), (2, .int (nI j)), (3, .long ((pmF PP K i j (meF wt PP ci si K i j (eN j) (gN i) X.2).2.2.2.2.2) + (X.1.1 j))), (5, .int 1)] rfl).tr ?_
            refine Go.trp 148 (go_iload d_Mod_solve_146 4 rfl) rfl ?_
            refine Go.trp 154 (go_if_ne_t 154 d_Mod_solve_148 (by decide) (by decide)) rfl ?_
            refine Go.trp 155 (go_aload_n d_Mod_solve_154 rfl 0 rfl) rfl ?_
            refine Go.trp 158 (go_get f_Mod_74 d_Mod_solve_155 (gRd_s _ _ _) rfl) rfl ?_
            refine Go.trp 159 (go_iload_n d_Mod_solve_158 rfl 1 rfl) rfl ?_
            refine Go.trp 160 (go_lload_n d_Mod_solve_159 rfl 3 rfl) rfl ?_
            refine Go.trp 161 (go_last (j := i) d_Mod_solve_160 ((gRd_n _ _ (Ne.symm (hI.2 30))).trans ((gRd_n _ _ (hI.n (i := 30) (j := 32) (by decide))).trans ((gRd_n _ _ (hI.n (i := 30) (j := 31) (by decide))).trans (gRd_s _ _ _)))) (rfl) (by omega) (by omega)) rfl ?_
            refine (go_m (M' := (gWr (gWr (gWr (gWr M (a 30) (aL G 26 (vp_updL X.1.1 i ((pmF PP K i j (meF wt PP ci si K i j (eN j) (gN i) X.2).2.2.2.2.2) + (X.1.1 j))))) (a 31) (aI G 26 X.1.2.1)) (a 32) (aI G 26 X.1.2.2)) A (.inr (11, oMod a (upd (upd (upd (upd (upd s 33 ((meF wt PP ci si K i j (eN j) (gN i) X.2).2.1)) 34 ((meF wt PP ci si K i j (eN j) (gN i) X.2).2.2.1)) 35 ((meF wt PP ci si K i j (eN j) (gN i) X.2).2.2.2.1)) 36 ((meF wt PP ci si K i j (eN j) (gN i) X.2).2.2.2.2.1)) 37 ((meF wt PP ci si K i j (eN j) (gN i) X.2).2.2.2.2.2)) c)))) ((gWr_cm (gWr (gWr (gWr M (a 30) (aL G 26 X.1.1)) (a 31) (aI G 26 X.1.2.1)) (a 32) (aI G 26 X.1.2.2)) (.inr (11, oMod a (upd (upd (upd (upd (upd s 33 ((meF wt PP ci si K i j (eN j) (gN i) X.2).2.1)) 34 ((meF wt PP ci si K i j (eN j) (gN i) X.2).2.2.1)) 35 ((meF wt PP ci si K i j (eN j) (gN i) X.2).2.2.2.1)) 36 ((meF wt PP ci si K i j (eN j) (gN i) X.2).2.2.2.2.1)) 37 ((meF wt PP ci si K i j (eN j) (gN i) X.2).2.2.2.2.2)) c)) (aL G 26 (vp_updL X.1.1 i ((pmF PP K i j (meF wt PP ci si K i j (eN j) (gN i) X.2).2.2.2.2.2) + (X.1.1 j)))) (hI.2 30)).trans (congrArg (fun mZ => gWr mZ A (.inr (11, oMod a (upd (upd (upd (upd (upd s 33 ((meF wt PP ci si K i j (eN j) (gN i) X.2).2.1)) 34 ((meF wt PP ci si K i j (eN j) (gN i) X.2).2.2.1)) 35 ((meF wt PP ci si K i j (eN j) (gN i) X.2).2.2.2.1)) 36 ((meF wt PP ci si K i j (eN j) (gN i) X.2).2.2.2.2.1)) 37 ((meF wt PP ci si K i j (eN j) (gN i) X.2).2.2.2.2.2)) c))) ((gWr_cm (gWr (gWr M (a 30) (aL G 26 X.1.1)) (a 31) (aI G 26 X.1.2.1)) (aI G 26 X.1.2.2) (aL G 26 (vp_updL X.1.1 i ((pmF PP K i j (meF wt PP ci si K i j (eN j) (gN i) X.2).2.2.2.2.2) + (X.1.1 j)))) (hI.n (i := 32) (j := 30) (by decide))).trans (congrArg (fun mZ => gWr mZ (a 32) (aI G 26 X.1.2.2)) ((gWr_cm (gWr M (a 30) (aL G 26 X.1.1)) (aI G 26 X.1.2.1) (aL G 26 (vp_updL X.1.1 i ((pmF PP K i j (meF wt PP ci si K i j (eN j) (gN i) X.2).2.2.2.2.2) + (X.1.1 j)))) (hI.n (i := 31) (j := 30) (by decide))).trans (congrArg (fun mZ => gWr mZ (a 31) (aI G 26 X.1.2.1)) (gWr_wr M (a 30) (aL G 26 X.1.1) (aL G 26 (vp_updL X.1.1 i ((pmF PP K i j (meF wt PP ci si K i j (eN j) (gN i) X.2).2.2.2.2.2) + (X.1.1 j)))))))))))).tr ?_
            refine Go.trp 162 (go_aload_n d_Mod_solve_161 rfl 0 rfl) rfl ?_
            refine Go.trp 165 (go_get f_Mod_78 d_Mod_solve_162 (gRd_s _ _ _) rfl) rfl ?_
            refine Go.trp 166 (go_iload_n d_Mod_solve_165 rfl 1 rfl) rfl ?_
            refine Go.trp 167 (go_aload_n d_Mod_solve_166 rfl 0 rfl) rfl ?_
            refine Go.trp 170 (go_get f_Mod_78 d_Mod_solve_167 (gRd_s _ _ _) rfl) rfl ?_
            refine Go.trp 171 (go_iload_n d_Mod_solve_170 rfl 2 rfl) rfl ?_
            refine Go.trp 172 (go_iald (j := j) d_Mod_solve_171 ((gRd_n _ _ (Ne.symm (hI.2 31))).trans ((gRd_n _ _ (hI.n (i := 31) (j := 32) (by decide))).trans (gRd_s _ _ _))) (rfl) (by omega) (by omega)) rfl ?_
            refine Go.trp 173 (go_iconst (v := 1) d_Mod_solve_172 (by decide)) rfl ?_
            refine Go.trp 174 (go_iadd d_Mod_solve_173) rfl ?_
            refine Go.trp 175 (go_iast (j := i) d_Mod_solve_174 ((gRd_n _ _ (Ne.symm (hI.2 31))).trans ((gRd_n _ _ (hI.n (i := 31) (j := 32) (by decide))).trans (gRd_s _ _ _))) (rfl) (by omega) (by omega)) rfl ?_
            refine (go_m (M' := (gWr (gWr (gWr (gWr M (a 30) (aL G 26 (vp_updL X.1.1 i ((pmF PP K i j (meF wt PP ci si K i j (eN j) (gN i) X.2).2.2.2.2.2) + (X.1.1 j))))) (a 31) (aI G 26 (upd X.1.2.1 i ((X.1.2.1 j) + 1)))) (a 32) (aI G 26 X.1.2.2)) A (.inr (11, oMod a (upd (upd (upd (upd (upd s 33 ((meF wt PP ci si K i j (eN j) (gN i) X.2).2.1)) 34 ((meF wt PP ci si K i j (eN j) (gN i) X.2).2.2.1)) 35 ((meF wt PP ci si K i j (eN j) (gN i) X.2).2.2.2.1)) 36 ((meF wt PP ci si K i j (eN j) (gN i) X.2).2.2.2.2.1)) 37 ((meF wt PP ci si K i j (eN j) (gN i) X.2).2.2.2.2.2)) c)))) ((gWr_cm (gWr (gWr (gWr M (a 30) (aL G 26 (vp_updL X.1.1 i ((pmF PP K i j (meF wt PP ci si K i j (eN j) (gN i) X.2).2.2.2.2.2) + (X.1.1 j))))) (a 31) (aI G 26 X.1.2.1)) (a 32) (aI G 26 X.1.2.2)) (.inr (11, oMod a (upd (upd (upd (upd (upd s 33 ((meF wt PP ci si K i j (eN j) (gN i) X.2).2.1)) 34 ((meF wt PP ci si K i j (eN j) (gN i) X.2).2.2.1)) 35 ((meF wt PP ci si K i j (eN j) (gN i) X.2).2.2.2.1)) 36 ((meF wt PP ci si K i j (eN j) (gN i) X.2).2.2.2.2.1)) 37 ((meF wt PP ci si K i j (eN j) (gN i) X.2).2.2.2.2.2)) c)) (aI G 26 (upd X.1.2.1 i ((X.1.2.1 j) + 1))) (hI.2 31)).trans (congrArg (fun mZ => gWr mZ A (.inr (11, oMod a (upd (upd (upd (upd (upd s 33 ((meF wt PP ci si K i j (eN j) (gN i) X.2).2.1)) 34 ((meF wt PP ci si K i j (eN j) (gN i) X.2).2.2.1)) 35 ((meF wt PP ci si K i j (eN j) (gN i) X.2).2.2.2.1)) 36 ((meF wt PP ci si K i j (eN j) (gN i) X.2).2.2.2.2.1)) 37 ((meF wt PP ci si K i j (eN j) (gN i) X.2).2.2.2.2.2)) c))) ((gWr_cm (gWr (gWr M (a 30) (aL G 26 (vp_updL X.1.1 i ((pmF PP K i j (meF wt PP ci si K i j (eN j) (gN i) X.2).2.2.2.2.2) + (X.1.1 j))))) (a 31) (aI G 26 X.1.2.1)) (aI G 26 X.1.2.2) (aI G 26 (upd X.1.2.1 i ((X.1.2.1 j) + 1))) (hI.n (i := 32) (j := 31) (by decide))).trans (congrArg (fun mZ => gWr mZ (a 32) (aI G 26 X.1.2.2)) (gWr_wr (gWr M (a 30) (aL G 26 (vp_updL X.1.1 i ((pmF PP K i j (meF wt PP ci si K i j (eN j) (gN i) X.2).2.2.2.2.2) + (X.1.1 j))))) (a 31) (aI G 26 X.1.2.1) (aI G 26 (upd X.1.2.1 i ((X.1.2.1 j) + 1))))))))).tr ?_
            refine Go.trp 176 (go_aload_n d_Mod_solve_175 rfl 0 rfl) rfl ?_
            refine Go.trp 179 (go_get f_Mod_81 d_Mod_solve_176 (gRd_s _ _ _) rfl) rfl ?_
            refine Go.trp 180 (go_iload_n d_Mod_solve_179 rfl 1 rfl) rfl ?_
            refine Go.trp 181 (go_iload_n d_Mod_solve_180 rfl 2 rfl) rfl ?_
            refine Go.trp 182 (go_iast (j := i) d_Mod_solve_181 ((gRd_n _ _ (Ne.symm (hI.2 32))).trans (gRd_s _ _ _)) (rfl) (by omega) (by omega)) rfl ?_
            refine (go_m (M' := (gWr (gWr (gWr (gWr M (a 30) (aL G 26 (vp_updL X.1.1 i ((pmF PP K i j (meF wt PP ci si K i j (eN j) (gN i) X.2).2.2.2.2.2) + (X.1.1 j))))) (a 31) (aI G 26 (upd X.1.2.1 i ((X.1.2.1 j) + 1)))) (a 32) (aI G 26 (upd X.1.2.2 i (nI j)))) A (.inr (11, oMod a (upd (upd (upd (upd (upd s 33 ((meF wt PP ci si K i j (eN j) (gN i) X.2).2.1)) 34 ((meF wt PP ci si K i j (eN j) (gN i) X.2).2.2.1)) 35 ((meF wt PP ci si K i j (eN j) (gN i) X.2).2.2.2.1)) 36 ((meF wt PP ci si K i j (eN j) (gN i) X.2).2.2.2.2.1)) 37 ((meF wt PP ci si K i j (eN j) (gN i) X.2).2.2.2.2.2)) c)))) ((gWr_cm (gWr (gWr (gWr M (a 30) (aL G 26 (vp_updL X.1.1 i ((pmF PP K i j (meF wt PP ci si K i j (eN j) (gN i) X.2).2.2.2.2.2) + (X.1.1 j))))) (a 31) (aI G 26 (upd X.1.2.1 i ((X.1.2.1 j) + 1)))) (a 32) (aI G 26 X.1.2.2)) (.inr (11, oMod a (upd (upd (upd (upd (upd s 33 ((meF wt PP ci si K i j (eN j) (gN i) X.2).2.1)) 34 ((meF wt PP ci si K i j (eN j) (gN i) X.2).2.2.1)) 35 ((meF wt PP ci si K i j (eN j) (gN i) X.2).2.2.2.1)) 36 ((meF wt PP ci si K i j (eN j) (gN i) X.2).2.2.2.2.1)) 37 ((meF wt PP ci si K i j (eN j) (gN i) X.2).2.2.2.2.2)) c)) (aI G 26 (upd X.1.2.2 i (nI j))) (hI.2 32)).trans (congrArg (fun mZ => gWr mZ A (.inr (11, oMod a (upd (upd (upd (upd (upd s 33 ((meF wt PP ci si K i j (eN j) (gN i) X.2).2.1)) 34 ((meF wt PP ci si K i j (eN j) (gN i) X.2).2.2.1)) 35 ((meF wt PP ci si K i j (eN j) (gN i) X.2).2.2.2.1)) 36 ((meF wt PP ci si K i j (eN j) (gN i) X.2).2.2.2.2.1)) 37 ((meF wt PP ci si K i j (eN j) (gN i) X.2).2.2.2.2.2)) c))) (gWr_wr (gWr (gWr M (a 30) (aL G 26 (vp_updL X.1.1 i ((pmF PP K i j (meF wt PP ci si K i j (eN j) (gN i) X.2).2.2.2.2.2) + (X.1.1 j))))) (a 31) (aI G 26 (upd X.1.2.1 i ((X.1.2.1 j) + 1)))) (a 32) (aI G 26 X.1.2.2) (aI G 26 (upd X.1.2.2 i (nI j))))))).tr ?_
            refine Go.trp 185 (go_inc1 (n0 := 2) (x := j) [(2, .int (nI (j + 1))), (0, .ref A), (1, .int (nI i)), (3, .long ((pmF PP K i j (meF wt PP ci si K i j (eN j) (gN i) X.2).2.2.2.2.2) + (X.1.1 j))), (5, .int 1)] d_Mod_solve_182 rfl (by decide) rfl) rfl ?_
            refine (go_pick [1, 2, 0, 3, 4] [(0, .ref A), (1, .int (nI i)), (2, .int (nI (j + 1))), (3, .long ((pmF PP K i j (meF wt PP ci si K i j (eN j) (gN i) X.2).2.2.2.2.2) + (X.1.1 j))), (5, .int 1)] rfl).tr ?_
            refine Go.trp 44 (go_goto 44 d_Mod_solve_185 (by decide)) rfl ?_
            have eX : (siF (fun j => meF wt PP ci si K i j (eN j) (gN i)) (fun j => pmF PP K i j) i (r + 1) j X) = (siF (fun j => meF wt PP ci si K i j (eN j) (gN i)) (fun j => pmF PP K i j) i r (j + 1) ((if lg_cmp (X.1.1 j) 0 < 0 then X else if (meF wt PP ci si K i j (eN j) (gN i) X.2).1 = true then (sbF i j (pmF PP K i j (meF wt PP ci si K i j (eN j) (gN i) X.2).2.2.2.2.2 + X.1.1 j) X.1, (meF wt PP ci si K i j (eN j) (gN i) X.2).2) else (X.1, (meF wt PP ci si K i j (eN j) (gN i) X.2).2)))) := rfl
            refine (go_pick [0, 1, 2] [(0, .ref A), (1, .int (nI i)), (2, .int (nI (j + 1)))] rfl).tr ?_
            have eb : btM X.1 i j (pmF PP K i j (meF wt PP ci si K i j (eN j) (gN i) X.2).2.2.2.2.2 + X.1.1 j) = true := by unfold btM; simp only [*, decide_true, decide_false, Bool.true_or, Bool.or_true, Bool.false_or, Bool.and_true, Bool.and_false, Bool.true_and, Bool.false_and, Bool.or_false]; try decide
            have es : sbF i j (pmF PP K i j (meF wt PP ci si K i j (eN j) (gN i) X.2).2.2.2.2.2 + X.1.1 j) X.1 = (vp_updL X.1.1 i (pmF PP K i j (meF wt PP ci si K i j (eN j) (gN i) X.2).2.2.2.2.2 + X.1.1 j), upd X.1.2.1 i (X.1.2.1 j + 1), upd X.1.2.2 i (nI j)) := if_pos eb
            rw [eX, show (if lg_cmp (X.1.1 j) 0 < 0 then X else if (meF wt PP ci si K i j (eN j) (gN i) X.2).1 = true then (sbF i j (pmF PP K i j (meF wt PP ci si K i j (eN j) (gN i) X.2).2.2.2.2.2 + X.1.1 j) X.1, (meF wt PP ci si K i j (eN j) (gN i) X.2).2) else (X.1, (meF wt PP ci si K i j (eN j) (gN i) X.2).2)) = ((vp_updL X.1.1 i (pmF PP K i j (meF wt PP ci si K i j (eN j) (gN i) X.2).2.2.2.2.2 + X.1.1 j), upd X.1.2.1 i (X.1.2.1 j + 1), upd X.1.2.2 i (nI j)), (meF wt PP ci si K i j (eN j) (gN i) X.2).2) from (if_neg (by assumption)).trans ((if_pos (by assumption)).trans (by rw [es]))]
            exact ih (j + 1) ((vp_updL X.1.1 i (pmF PP K i j (meF wt PP ci si K i j (eN j) (gN i) X.2).2.2.2.2.2 + X.1.1 j), upd X.1.2.1 i (X.1.2.1 j + 1), upd X.1.2.2 i (nI j)), (meF wt PP ci si K i j (eN j) (gN i) X.2).2) (by omega) (by omega)
          · have c4x : 0 ≤ (lg_cmp ((pmF PP K i j (meF wt PP ci si K i j (eN j) (gN i) X.2).2.2.2.2.2) + (X.1.1 j)) (X.1.1 i)) := Int32.not_lt.mp c4
            refine Go.trp 111 (go_if_lt_f 139 d_Mod_solve_108 (by decide) (c4)) rfl ?_
            refine Go.trp 112 (go_lload_n d_Mod_solve_111 rfl 3 rfl) rfl ?_
            refine Go.trp 113 (go_aload_n d_Mod_solve_112 rfl 0 rfl) rfl ?_
            refine Go.trp 116 (go_get f_Mod_74 d_Mod_solve_113 (gRd_s _ _ _) rfl) rfl ?_
            refine Go.trp 117 (go_iload_n d_Mod_solve_116 rfl 1 rfl) rfl ?_
            refine Go.trp 118 (go_lald (j := i) d_Mod_solve_117 ((gRd_n _ _ (Ne.symm (hI.2 30))).trans ((gRd_n _ _ (hI.n (i := 30) (j := 32) (by decide))).trans ((gRd_n _ _ (hI.n (i := 30) (j := 31) (by decide))).trans (gRd_s _ _ _)))) (rfl) (by omega) (by omega)) rfl ?_
            refine Go.trp 119 (go_lcmp d_Mod_solve_118) rfl ?_
            by_cases c5 : (lg_cmp ((pmF PP K i j (meF wt PP ci si K i j (eN j) (gN i) X.2).2.2.2.2.2) + (X.1.1 j)) (X.1.1 i)) = 0
            · refine Go.trp 122 (go_if_ne_f 143 d_Mod_solve_119 (by decide) (c5)) rfl ?_
              refine Go.trp 123 (go_aload_n d_Mod_solve_122 rfl 0 rfl) rfl ?_
              refine Go.trp 126 (go_get f_Mod_78 d_Mod_solve_123 (gRd_s _ _ _) rfl) rfl ?_
              refine Go.trp 127 (go_iload_n d_Mod_solve_126 rfl 2 rfl) rfl ?_
              refine Go.trp 128 (go_iald (j := j) d_Mod_solve_127 ((gRd_n _ _ (Ne.symm (hI.2 31))).trans ((gRd_n _ _ (hI.n (i := 31) (j := 32) (by decide))).trans (gRd_s _ _ _))) (rfl) (by omega) (by omega)) rfl ?_
              refine Go.trp 129 (go_iconst (v := 1) d_Mod_solve_128 (by decide)) rfl ?_
              refine Go.trp 130 (go_iadd d_Mod_solve_129) rfl ?_
              refine Go.trp 131 (go_aload_n d_Mod_solve_130 rfl 0 rfl) rfl ?_
              refine Go.trp 134 (go_get f_Mod_78 d_Mod_solve_131 (gRd_s _ _ _) rfl) rfl ?_
              refine Go.trp 135 (go_iload_n d_Mod_solve_134 rfl 1 rfl) rfl ?_
              refine Go.trp 136 (go_iald (j := i) d_Mod_solve_135 ((gRd_n _ _ (Ne.symm (hI.2 31))).trans ((gRd_n _ _ (hI.n (i := 31) (j := 32) (by decide))).trans (gRd_s _ _ _))) (rfl) (by omega) (by omega)) rfl ?_
              by_cases c6 : (X.1.2.1 i) ≤ ((X.1.2.1 j) + 1)
              · have c6x : ¬ ((X.1.2.1 j) + 1) < (X.1.2.1 i) := Int32.not_lt.mpr c6
                refine Go.trp 143 (go_icmp_ge_t 143 d_Mod_solve_136 (by decide) (c6)) rfl ?_
                refine Go.trp 144 (go_iconst (v := 0) d_Mod_solve_143 (by decide)) rfl ?_
                refine Go.trp 146 (go_istore [(5, .int 0), (0, .ref A), (1, .int (nI i)), (2, .int (nI j)), (3, .long ((pmF PP K i j (meF wt PP ci si K i j (eN j) (gN i) X.2).2.2.2.2.2) + (X.1.1 j)))] d_Mod_solve_144 (by decide) rfl) rfl ?_
                refine (go_pick [1, 2, 3, 4, 0] [(0, .ref A), (1, .int (nI i)), (2, .int (nI j)), (3, .long ((pmF PP K i j (meF wt PP ci si K i j (eN j) (gN i) X.2).2.2.2.2.2) + (X.1.1 j))), (5, .int 0)] rfl).tr ?_
                refine Go.trp 148 (go_iload d_Mod_solve_146 4 rfl) rfl ?_
                refine Go.trp 151 (go_if_ne_f 154 d_Mod_solve_148 (by decide) (by decide)) rfl ?_
                refine Go.trp 182 (go_goto 182 d_Mod_solve_151 (by decide)) rfl ?_
                refine Go.trp 185 (go_inc1 (n0 := 2) (x := j) [(2, .int (nI (j + 1))), (0, .ref A), (1, .int (nI i)), (3, .long ((pmF PP K i j (meF wt PP ci si K i j (eN j) (gN i) X.2).2.2.2.2.2) + (X.1.1 j))), (5, .int 0)] d_Mod_solve_182 rfl (by decide) rfl) rfl ?_
                refine (go_pick [1, 2, 0, 3, 4] [(0, .ref A), (1, .int (nI i)), (2, .int (nI (j + 1))), (3, .long ((pmF PP K i j (meF wt PP ci si K i j (eN j) (gN i) X.2).2.2.2.2.2) + (X.1.1 j))), (5, .int 0)] rfl).tr ?_
                refine Go.trp 44 (go_goto 44 d_Mod_solve_185 (by decide)) rfl ?_
                have eX : (siF (fun j => meF wt PP ci si K i j (eN j) (gN i)) (fun j => pmF PP K i j) i (r + 1) j X) = (siF (fun j => meF wt PP ci si K i j (eN j) (gN i)) (fun j => pmF PP K i j) i r (j + 1) ((if lg_cmp (X.1.1 j) 0 < 0 then X else if (meF wt PP ci si K i j (eN j) (gN i) X.2).1 = true then (sbF i j (pmF PP K i j (meF wt PP ci si K i j (eN j) (gN i) X.2).2.2.2.2.2 + X.1.1 j) X.1, (meF wt PP ci si K i j (eN j) (gN i) X.2).2) else (X.1, (meF wt PP ci si K i j (eN j) (gN i) X.2).2)))) := rfl
                refine (go_pick [0, 1, 2] [(0, .ref A), (1, .int (nI i)), (2, .int (nI (j + 1)))] rfl).tr ?_
                have eb : btM X.1 i j (pmF PP K i j (meF wt PP ci si K i j (eN j) (gN i) X.2).2.2.2.2.2 + X.1.1 j) = false := by unfold btM; simp only [*, decide_true, decide_false, Bool.true_or, Bool.or_true, Bool.false_or, Bool.and_true, Bool.and_false, Bool.true_and, Bool.false_and, Bool.or_false]; try decide
                have es : sbF i j (pmF PP K i j (meF wt PP ci si K i j (eN j) (gN i) X.2).2.2.2.2.2 + X.1.1 j) X.1 = X.1 := if_neg (by rw [eb]; decide)
                rw [eX, show (if lg_cmp (X.1.1 j) 0 < 0 then X else if (meF wt PP ci si K i j (eN j) (gN i) X.2).1 = true then (sbF i j (pmF PP K i j (meF wt PP ci si K i j (eN j) (gN i) X.2).2.2.2.2.2 + X.1.1 j) X.1, (meF wt PP ci si K i j (eN j) (gN i) X.2).2) else (X.1, (meF wt PP ci si K i j (eN j) (gN i) X.2).2)) = (X.1, (meF wt PP ci si K i j (eN j) (gN i) X.2).2) from (if_neg (by assumption)).trans ((if_pos (by assumption)).trans (by rw [es]))]
                exact ih (j + 1) (X.1, (meF wt PP ci si K i j (eN j) (gN i) X.2).2) (by omega) (by omega)
              · have c6x : ((X.1.2.1 j) + 1) < (X.1.2.1 i) := Int32.not_le.mp c6
                refine Go.trp 139 (go_icmp_ge_f 143 d_Mod_solve_136 (by decide) (c6)) rfl ?_
                refine Go.trp 140 (go_iconst (v := 1) d_Mod_solve_139 (by decide)) rfl ?_
                refine Go.trp 144 (go_goto 144 d_Mod_solve_140 (by decide)) rfl ?_
                refine Go.trp 146 (go_istore [(5, .int 1), (0, .ref A), (1, .int (nI i)), (2, .int (nI j)), (3, .long ((pmF PP K i j (meF wt PP ci si K i j (eN j) (gN i) X.2).2.2.2.2.2) + (X.1.1 j)))] d_Mod_solve_144 (by decide) rfl) rfl ?_
                refine (go_pick [1, 2, 3, 4, 0] [(0, .ref A), (1, .int (nI i)), (2, .int (nI j)), (3, .long ((pmF PP K i j (meF wt PP ci si K i j (eN j) (gN i) X.2).2.2.2.2.2) + (X.1.1 j))), (5, .int 1)] rfl).tr ?_
                refine Go.trp 148 (go_iload d_Mod_solve_146 4 rfl) rfl ?_
                refine Go.trp 154 (go_if_ne_t 154 d_Mod_solve_148 (by decide) (by decide)) rfl ?_
                refine Go.trp 155 (go_aload_n d_Mod_solve_154 rfl 0 rfl) rfl ?_
                refine Go.trp 158 (go_get f_Mod_74 d_Mod_solve_155 (gRd_s _ _ _) rfl) rfl ?_
                refine Go.trp 159 (go_iload_n d_Mod_solve_158 rfl 1 rfl) rfl ?_
                refine Go.trp 160 (go_lload_n d_Mod_solve_159 rfl 3 rfl) rfl ?_
                refine Go.trp 161 (go_last (j := i) d_Mod_solve_160 ((gRd_n _ _ (Ne.symm (hI.2 30))).trans ((gRd_n _ _ (hI.n (i := 30) (j := 32) (by decide))).trans ((gRd_n _ _ (hI.n (i := 30) (j := 31) (by decide))).trans (gRd_s _ _ _)))) (rfl) (by omega) (by omega)) rfl ?_
                refine (go_m (M' := (gWr (gWr (gWr (gWr M (a 30) (aL G 26 (vp_updL X.1.1 i ((pmF PP K i j (meF wt PP ci si K i j (eN j) (gN i) X.2).2.2.2.2.2) + (X.1.1 j))))) (a 31) (aI G 26 X.1.2.1)) (a 32) (aI G 26 X.1.2.2)) A (.inr (11, oMod a (upd (upd (upd (upd (upd s 33 ((meF wt PP ci si K i j (eN j) (gN i) X.2).2.1)) 34 ((meF wt PP ci si K i j (eN j) (gN i) X.2).2.2.1)) 35 ((meF wt PP ci si K i j (eN j) (gN i) X.2).2.2.2.1)) 36 ((meF wt PP ci si K i j (eN j) (gN i) X.2).2.2.2.2.1)) 37 ((meF wt PP ci si K i j (eN j) (gN i) X.2).2.2.2.2.2)) c)))) ((gWr_cm (gWr (gWr (gWr M (a 30) (aL G 26 X.1.1)) (a 31) (aI G 26 X.1.2.1)) (a 32) (aI G 26 X.1.2.2)) (.inr (11, oMod a (upd (upd (upd (upd (upd s 33 ((meF wt PP ci si K i j (eN j) (gN i) X.2).2.1)) 34 ((meF wt PP ci si K i j (eN j) (gN i) X.2).2.2.1)) 35 ((meF wt PP ci si K i j (eN j) (gN i) X.2).2.2.2.1)) 36 ((meF wt PP ci si K i j (eN j) (gN i) X.2).2.2.2.2.1)) 37 ((meF wt PP ci si K i j (eN j) (gN i) X.2).2.2.2.2.2)) c)) (aL G 26 (vp_updL X.1.1 i ((pmF PP K i j (meF wt PP ci si K i j (eN j) (gN i) X.2).2.2.2.2.2) + (X.1.1 j)))) (hI.2 30)).trans (congrArg (fun mZ => gWr mZ A (.inr (11, oMod a (upd (upd (upd (upd (upd s 33 ((meF wt PP ci si K i j (eN j) (gN i) X.2).2.1)) 34 ((meF wt PP ci si K i j (eN j) (gN i) X.2).2.2.1)) 35 ((meF wt PP ci si K i j (eN j) (gN i) X.2).2.2.2.1)) 36 ((meF wt PP ci si K i j (eN j) (gN i) X.2).2.2.2.2.1)) 37 ((meF wt PP ci si K i j (eN j) (gN i) X.2).2.2.2.2.2)) c))) ((gWr_cm (gWr (gWr M (a 30) (aL G 26 X.1.1)) (a 31) (aI G 26 X.1.2.1)) (aI G 26 X.1.2.2) (aL G 26 (vp_updL X.1.1 i ((pmF PP K i j (meF wt PP ci si K i j (eN j) (gN i) X.2).2.2.2.2.2) + (X.1.1 j)))) (hI.n (i := 32) (j := 30) (by decide))).trans (congrArg (fun mZ => gWr mZ (a 32) (aI G 26 X.1.2.2)) ((gWr_cm (gWr M (a 30) (aL G 26 X.1.1)) (aI G 26 X.1.2.1) (aL G 26 (vp_updL X.1.1 i ((pmF PP K i j (meF wt PP ci si K i j (eN j) (gN i) X.2).2.2.2.2.2) + (X.1.1 j)))) (hI.n (i := 31) (j := 30) (by decide))).trans (congrArg (fun mZ => gWr mZ (a 31) (aI G 26 X.1.2.1)) (gWr_wr M (a 30) (aL G 26 X.1.1) (aL G 26 (vp_updL X.1.1 i ((pmF PP K i j (meF wt PP ci si K i j (eN j) (gN i) X.2).2.2.2.2.2) + (X.1.1 j)))))))))))).tr ?_
                refine Go.trp 162 (go_aload_n d_Mod_solve_161 rfl 0 rfl) rfl ?_
                refine Go.trp 165 (go_get f_Mod_78 d_Mod_solve_162 (gRd_s _ _ _) rfl) rfl ?_
                refine Go.trp 166 (go_iload_n d_Mod_solve_165 rfl 1 rfl) rfl ?_
                refine Go.trp 167 (go_aload_n d_Mod_solve_166 rfl 0 rfl) rfl ?_
                refine Go.trp 170 (go_get f_Mod_78 d_Mod_solve_167 (gRd_s _ _ _) rfl) rfl ?_
                refine Go.trp 171 (go_iload_n d_Mod_solve_170 rfl 2 rfl) rfl ?_
                refine Go.trp 172 (go_iald (j := j) d_Mod_solve_171 ((gRd_n _ _ (Ne.symm (hI.2 31))).trans ((gRd_n _ _ (hI.n (i := 31) (j := 32) (by decide))).trans (gRd_s _ _ _))) (rfl) (by omega) (by omega)) rfl ?_
                refine Go.trp 173 (go_iconst (v := 1) d_Mod_solve_172 (by decide)) rfl ?_
                refine Go.trp 174 (go_iadd d_Mod_solve_173) rfl ?_
                refine Go.trp 175 (go_iast (j := i) d_Mod_solve_174 ((gRd_n _ _ (Ne.symm (hI.2 31))).trans ((gRd_n _ _ (hI.n (i := 31) (j := 32) (by decide))).trans (gRd_s _ _ _))) (rfl) (by omega) (by omega)) rfl ?_
                refine (go_m (M' := (gWr (gWr (gWr (gWr M (a 30) (aL G 26 (vp_updL X.1.1 i ((pmF PP K i j (meF wt PP ci si K i j (eN j) (gN i) X.2).2.2.2.2.2) + (X.1.1 j))))) (a 31) (aI G 26 (upd X.1.2.1 i ((X.1.2.1 j) + 1)))) (a 32) (aI G 26 X.1.2.2)) A (.inr (11, oMod a (upd (upd (upd (upd (upd s 33 ((meF wt PP ci si K i j (eN j) (gN i) X.2).2.1)) 34 ((meF wt PP ci si K i j (eN j) (gN i) X.2).2.2.1)) 35 ((meF wt PP ci si K i j (eN j) (gN i) X.2).2.2.2.1)) 36 ((meF wt PP ci si K i j (eN j) (gN i) X.2).2.2.2.2.1)) 37 ((meF wt PP ci si K i j (eN j) (gN i) X.2).2.2.2.2.2)) c)))) ((gWr_cm (gWr (gWr (gWr M (a 30) (aL G 26 (vp_updL X.1.1 i ((pmF PP K i j (meF wt PP ci si K i j (eN j) (gN i) X.2).2.2.2.2.2) + (X.1.1 j))))) (a 31) (aI G 26 X.1.2.1)) (a 32) (aI G 26 X.1.2.2)) (.inr (11, oMod a (upd (upd (upd (upd (upd s 33 ((meF wt PP ci si K i j (eN j) (gN i) X.2).2.1)) 34 ((meF wt PP ci si K i j (eN j) (gN i) X.2).2.2.1)) 35 ((meF wt PP ci si K i j (eN j) (gN i) X.2).2.2.2.1)) 36 ((meF wt PP ci si K i j (eN j) (gN i) X.2).2.2.2.2.1)) 37 ((meF wt PP ci si K i j (eN j) (gN i) X.2).2.2.2.2.2)) c)) (aI G 26 (upd X.1.2.1 i ((X.1.2.1 j) + 1))) (hI.2 31)).trans (congrArg (fun mZ => gWr mZ A (.inr (11, oMod a (upd (upd (upd (upd (upd s 33 ((meF wt PP ci si K i j (eN j) (gN i) X.2).2.1)) 34 ((meF wt PP ci si K i j (eN j) (gN i) X.2).2.2.1)) 35 ((meF wt PP ci si K i j (eN j) (gN i) X.2).2.2.2.1)) 36 ((meF wt PP ci si K i j (eN j) (gN i) X.2).2.2.2.2.1)) 37 ((meF wt PP ci si K i j (eN j) (gN i) X.2).2.2.2.2.2)) c))) ((gWr_cm (gWr (gWr M (a 30) (aL G 26 (vp_updL X.1.1 i ((pmF PP K i j (meF wt PP ci si K i j (eN j) (gN i) X.2).2.2.2.2.2) + (X.1.1 j))))) (a 31) (aI G 26 X.1.2.1)) (aI G 26 X.1.2.2) (aI G 26 (upd X.1.2.1 i ((X.1.2.1 j) + 1))) (hI.n (i := 32) (j := 31) (by decide))).trans (congrArg (fun mZ => gWr mZ (a 32) (aI G 26 X.1.2.2)) (gWr_wr (gWr M (a 30) (aL G 26 (vp_updL X.1.1 i ((pmF PP K i j (meF wt PP ci si K i j (eN j) (gN i) X.2).2.2.2.2.2) + (X.1.1 j))))) (a 31) (aI G 26 X.1.2.1) (aI G 26 (upd X.1.2.1 i ((X.1.2.1 j) + 1))))))))).tr ?_
                refine Go.trp 176 (go_aload_n d_Mod_solve_175 rfl 0 rfl) rfl ?_
                refine Go.trp 179 (go_get f_Mod_81 d_Mod_solve_176 (gRd_s _ _ _) rfl) rfl ?_
                refine Go.trp 180 (go_iload_n d_Mod_solve_179 rfl 1 rfl) rfl ?_
                refine Go.trp 181 (go_iload_n d_Mod_solve_180 rfl 2 rfl) rfl ?_
                refine Go.trp 182 (go_iast (j := i) d_Mod_solve_181 ((gRd_n _ _ (Ne.symm (hI.2 32))).trans (gRd_s _ _ _)) (rfl) (by omega) (by omega)) rfl ?_
                refine (go_m (M' := (gWr (gWr (gWr (gWr M (a 30) (aL G 26 (vp_updL X.1.1 i ((pmF PP K i j (meF wt PP ci si K i j (eN j) (gN i) X.2).2.2.2.2.2) + (X.1.1 j))))) (a 31) (aI G 26 (upd X.1.2.1 i ((X.1.2.1 j) + 1)))) (a 32) (aI G 26 (upd X.1.2.2 i (nI j)))) A (.inr (11, oMod a (upd (upd (upd (upd (upd s 33 ((meF wt PP ci si K i j (eN j) (gN i) X.2).2.1)) 34 ((meF wt PP ci si K i j (eN j) (gN i) X.2).2.2.1)) 35 ((meF wt PP ci si K i j (eN j) (gN i) X.2).2.2.2.1)) 36 ((meF wt PP ci si K i j (eN j) (gN i) X.2).2.2.2.2.1)) 37 ((meF wt PP ci si K i j (eN j) (gN i) X.2).2.2.2.2.2)) c)))) ((gWr_cm (gWr (gWr (gWr M (a 30) (aL G 26 (vp_updL X.1.1 i ((pmF PP K i j (meF wt PP ci si K i j (eN j) (gN i) X.2).2.2.2.2.2) + (X.1.1 j))))) (a 31) (aI G 26 (upd X.1.2.1 i ((X.1.2.1 j) + 1)))) (a 32) (aI G 26 X.1.2.2)) (.inr (11, oMod a (upd (upd (upd (upd (upd s 33 ((meF wt PP ci si K i j (eN j) (gN i) X.2).2.1)) 34 ((meF wt PP ci si K i j (eN j) (gN i) X.2).2.2.1)) 35 ((meF wt PP ci si K i j (eN j) (gN i) X.2).2.2.2.1)) 36 ((meF wt PP ci si K i j (eN j) (gN i) X.2).2.2.2.2.1)) 37 ((meF wt PP ci si K i j (eN j) (gN i) X.2).2.2.2.2.2)) c)) (aI G 26 (upd X.1.2.2 i (nI j))) (hI.2 32)).trans (congrArg (fun mZ => gWr mZ A (.inr (11, oMod a (upd (upd (upd (upd (upd s 33 ((meF wt PP ci si K i j (eN j) (gN i) X.2).2.1)) 34 ((meF wt PP ci si K i j (eN j) (gN i) X.2).2.2.1)) 35 ((meF wt PP ci si K i j (eN j) (gN i) X.2).2.2.2.1)) 36 ((meF wt PP ci si K i j (eN j) (gN i) X.2).2.2.2.2.1)) 37 ((meF wt PP ci si K i j (eN j) (gN i) X.2).2.2.2.2.2)) c))) (gWr_wr (gWr (gWr M (a 30) (aL G 26 (vp_updL X.1.1 i ((pmF PP K i j (meF wt PP ci si K i j (eN j) (gN i) X.2).2.2.2.2.2) + (X.1.1 j))))) (a 31) (aI G 26 (upd X.1.2.1 i ((X.1.2.1 j) + 1)))) (a 32) (aI G 26 X.1.2.2) (aI G 26 (upd X.1.2.2 i (nI j))))))).tr ?_
                refine Go.trp 185 (go_inc1 (n0 := 2) (x := j) [(2, .int (nI (j + 1))), (0, .ref A), (1, .int (nI i)), (3, .long ((pmF PP K i j (meF wt PP ci si K i j (eN j) (gN i) X.2).2.2.2.2.2) + (X.1.1 j))), (5, .int 1)] d_Mod_solve_182 rfl (by decide) rfl) rfl ?_
                refine (go_pick [1, 2, 0, 3, 4] [(0, .ref A), (1, .int (nI i)), (2, .int (nI (j + 1))), (3, .long ((pmF PP K i j (meF wt PP ci si K i j (eN j) (gN i) X.2).2.2.2.2.2) + (X.1.1 j))), (5, .int 1)] rfl).tr ?_
                refine Go.trp 44 (go_goto 44 d_Mod_solve_185 (by decide)) rfl ?_
                have eX : (siF (fun j => meF wt PP ci si K i j (eN j) (gN i)) (fun j => pmF PP K i j) i (r + 1) j X) = (siF (fun j => meF wt PP ci si K i j (eN j) (gN i)) (fun j => pmF PP K i j) i r (j + 1) ((if lg_cmp (X.1.1 j) 0 < 0 then X else if (meF wt PP ci si K i j (eN j) (gN i) X.2).1 = true then (sbF i j (pmF PP K i j (meF wt PP ci si K i j (eN j) (gN i) X.2).2.2.2.2.2 + X.1.1 j) X.1, (meF wt PP ci si K i j (eN j) (gN i) X.2).2) else (X.1, (meF wt PP ci si K i j (eN j) (gN i) X.2).2)))) := rfl
                refine (go_pick [0, 1, 2] [(0, .ref A), (1, .int (nI i)), (2, .int (nI (j + 1)))] rfl).tr ?_
                have eb : btM X.1 i j (pmF PP K i j (meF wt PP ci si K i j (eN j) (gN i) X.2).2.2.2.2.2 + X.1.1 j) = true := by unfold btM; simp only [*, decide_true, decide_false, Bool.true_or, Bool.or_true, Bool.false_or, Bool.and_true, Bool.and_false, Bool.true_and, Bool.false_and, Bool.or_false]; try decide
                have es : sbF i j (pmF PP K i j (meF wt PP ci si K i j (eN j) (gN i) X.2).2.2.2.2.2 + X.1.1 j) X.1 = (vp_updL X.1.1 i (pmF PP K i j (meF wt PP ci si K i j (eN j) (gN i) X.2).2.2.2.2.2 + X.1.1 j), upd X.1.2.1 i (X.1.2.1 j + 1), upd X.1.2.2 i (nI j)) := if_pos eb
                rw [eX, show (if lg_cmp (X.1.1 j) 0 < 0 then X else if (meF wt PP ci si K i j (eN j) (gN i) X.2).1 = true then (sbF i j (pmF PP K i j (meF wt PP ci si K i j (eN j) (gN i) X.2).2.2.2.2.2 + X.1.1 j) X.1, (meF wt PP ci si K i j (eN j) (gN i) X.2).2) else (X.1, (meF wt PP ci si K i j (eN j) (gN i) X.2).2)) = ((vp_updL X.1.1 i (pmF PP K i j (meF wt PP ci si K i j (eN j) (gN i) X.2).2.2.2.2.2 + X.1.1 j), upd X.1.2.1 i (X.1.2.1 j + 1), upd X.1.2.2 i (nI j)), (meF wt PP ci si K i j (eN j) (gN i) X.2).2) from (if_neg (by assumption)).trans ((if_pos (by assumption)).trans (by rw [es]))]
                exact ih (j + 1) ((vp_updL X.1.1 i (pmF PP K i j (meF wt PP ci si K i j (eN j) (gN i) X.2).2.2.2.2.2 + X.1.1 j), upd X.1.2.1 i (X.1.2.1 j + 1), upd X.1.2.2 i (nI j)), (meF wt PP ci si K i j (eN j) (gN i) X.2).2) (by omega) (by omega)
            · refine Go.trp 143 (go_if_ne_t 143 d_Mod_solve_119 (by decide) (c5)) rfl ?_
              refine Go.trp 144 (go_iconst (v := 0) d_Mod_solve_143 (by decide)) rfl ?_
              refine Go.trp 146 (go_istore [(5, .int 0), (0, .ref A), (1, .int (nI i)), (2, .int (nI j)), (3, .long ((pmF PP K i j (meF wt PP ci si K i j (eN j) (gN i) X.2).2.2.2.2.2) + (X.1.1 j)))] d_Mod_solve_144 (by decide) rfl) rfl ?_
              refine (go_pick [1, 2, 3, 4, 0] [(0, .ref A), (1, .int (nI i)), (2, .int (nI j)), (3, .long ((pmF PP K i j (meF wt PP ci si K i j (eN j) (gN i) X.2).2.2.2.2.2) + (X.1.1 j))), (5, .int 0)] rfl).tr ?_
              refine Go.trp 148 (go_iload d_Mod_solve_146 4 rfl) rfl ?_
              refine Go.trp 151 (go_if_ne_f 154 d_Mod_solve_148 (by decide) (by decide)) rfl ?_
              refine Go.trp 182 (go_goto 182 d_Mod_solve_151 (by decide)) rfl ?_
              refine Go.trp 185 (go_inc1 (n0 := 2) (x := j) [(2, .int (nI (j + 1))), (0, .ref A), (1, .int (nI i)), (3, .long ((pmF PP K i j (meF wt PP ci si K i j (eN j) (gN i) X.2).2.2.2.2.2) + (X.1.1 j))), (5, .int 0)] d_Mod_solve_182 rfl (by decide) rfl) rfl ?_
              refine (go_pick [1, 2, 0, 3, 4] [(0, .ref A), (1, .int (nI i)), (2, .int (nI (j + 1))), (3, .long ((pmF PP K i j (meF wt PP ci si K i j (eN j) (gN i) X.2).2.2.2.2.2) + (X.1.1 j))), (5, .int 0)] rfl).tr ?_
              refine Go.trp 44 (go_goto 44 d_Mod_solve_185 (by decide)) rfl ?_
              have eX : (siF (fun j => meF wt PP ci si K i j (eN j) (gN i)) (fun j => pmF PP K i j) i (r + 1) j X) = (siF (fun j => meF wt PP ci si K i j (eN j) (gN i)) (fun j => pmF PP K i j) i r (j + 1) ((if lg_cmp (X.1.1 j) 0 < 0 then X else if (meF wt PP ci si K i j (eN j) (gN i) X.2).1 = true then (sbF i j (pmF PP K i j (meF wt PP ci si K i j (eN j) (gN i) X.2).2.2.2.2.2 + X.1.1 j) X.1, (meF wt PP ci si K i j (eN j) (gN i) X.2).2) else (X.1, (meF wt PP ci si K i j (eN j) (gN i) X.2).2)))) := rfl
              refine (go_pick [0, 1, 2] [(0, .ref A), (1, .int (nI i)), (2, .int (nI (j + 1)))] rfl).tr ?_
              have eb : btM X.1 i j (pmF PP K i j (meF wt PP ci si K i j (eN j) (gN i) X.2).2.2.2.2.2 + X.1.1 j) = false := by unfold btM; simp only [*, decide_true, decide_false, Bool.true_or, Bool.or_true, Bool.false_or, Bool.and_true, Bool.and_false, Bool.true_and, Bool.false_and, Bool.or_false]; try decide
              have es : sbF i j (pmF PP K i j (meF wt PP ci si K i j (eN j) (gN i) X.2).2.2.2.2.2 + X.1.1 j) X.1 = X.1 := if_neg (by rw [eb]; decide)
              rw [eX, show (if lg_cmp (X.1.1 j) 0 < 0 then X else if (meF wt PP ci si K i j (eN j) (gN i) X.2).1 = true then (sbF i j (pmF PP K i j (meF wt PP ci si K i j (eN j) (gN i) X.2).2.2.2.2.2 + X.1.1 j) X.1, (meF wt PP ci si K i j (eN j) (gN i) X.2).2) else (X.1, (meF wt PP ci si K i j (eN j) (gN i) X.2).2)) = (X.1, (meF wt PP ci si K i j (eN j) (gN i) X.2).2) from (if_neg (by assumption)).trans ((if_pos (by assumption)).trans (by rw [es]))]
              exact ih (j + 1) (X.1, (meF wt PP ci si K i j (eN j) (gN i) X.2).2) (by omega) (by omega)
theorem g_Mod_so2 (G : gG) (M : gM) (A : Nat) (a : Nat → Nat) (s : Nat → Int32) (c : Int64) (wt PP ci si K E B : Nat → Int32) (nb n : Nat) (eN gN : Nat → Nat) (hI : InjA A a) (m2 : gRd M (a 2) = some (aI G 128 wt)) (m3 : gRd M (a 3) = some (aI G 5 PP)) (m17 : gRd M (a 17) = some (aI G 120 ci)) (m18 : gRd M (a 18) = some (aI G 120 si)) (m25 : gRd M (a 25) = some (aI G 26 K)) (m26 : gRd M (a 26) = some (aI G 26 E)) (m27 : gRd M (a 27) = some (aI G 26 B)) (hL : LnM nb n eN gN wt ci si K E B) (h28 : s 28 = nI nb) : ∀ (k : Nat) (X : cS × mV), k ≤ nb → Go G m_Mod_solve 1 (27, [(0, .ref A), (1, .int (nI k - 1))], [], (gWr (gWr (gWr (gWr M (a 30) (aL G 26 X.1.1)) (a 31) (aI G 26 X.1.2.1)) (a 32) (aI G 26 X.1.2.2)) A (.inr (11, oMod a (upd (upd (upd (upd (upd s 33 X.2.1) 34 X.2.2.1) 35 X.2.2.2.1) 36 X.2.2.2.2.1) 37 X.2.2.2.2.2) c)))) (194, [(0, .ref A), (1, .int (-1))], [], (gWr (gWr (gWr (gWr M (a 30) (aL G 26 ((slF nb (fun i j => meF wt PP ci si K i j (eN j) (gN i)) (fun i j => pmF PP K i j) k X).1.1))) (a 31) (aI G 26 ((slF nb (fun i j => meF wt PP ci si K i j (eN j) (gN i)) (fun i j => pmF PP K i j) k X).1.2.1))) (a 32) (aI G 26 ((slF nb (fun i j => meF wt PP ci si K i j (eN j) (gN i)) (fun i j => pmF PP K i j) k X).1.2.2))) A (.inr (11, oMod a (upd (upd (upd (upd (upd s 33 ((slF nb (fun i j => meF wt PP ci si K i j (eN j) (gN i)) (fun i j => pmF PP K i j) k X).2.1)) 34 ((slF nb (fun i j => meF wt PP ci si K i j (eN j) (gN i)) (fun i j => pmF PP K i j) k X).2.2.1)) 35 ((slF nb (fun i j => meF wt PP ci si K i j (eN j) (gN i)) (fun i j => pmF PP K i j) k X).2.2.2.1)) 36 ((slF nb (fun i j => meF wt PP ci si K i j (eN j) (gN i)) (fun i j => pmF PP K i j) k X).2.2.2.2.1)) 37 ((slF nb (fun i j => meF wt PP ci si K i j (eN j) (gN i)) (fun i j => pmF PP K i j) k X).2.2.2.2.2)) c)))) := by
  have hnb := hL.1
  intro k
  induction k with
  | zero =>
    intro X hk
    refine Go.trp 28 (go_iload_n d_Mod_solve_27 rfl 1 rfl) rfl ?_
    refine Go.trp 194 (go_if_lt_t 194 d_Mod_solve_28 (by decide) (by decide)) rfl ?_
    exact Go.rf
  | succ k ih =>
    intro X hk
    rw [show nI (k + 1) - 1 = nI k from pk_sub (a := k + 1) (b := 1) (by omega)]
    refine Go.trp 28 (go_iload_n d_Mod_solve_27 rfl 1 rfl) rfl ?_
    refine Go.trp 31 (go_if_lt_f 194 d_Mod_solve_28 (by decide) (nI_pos (by omega))) rfl ?_
    refine Go.trp 32 (go_aload_n d_Mod_solve_31 rfl 0 rfl) rfl ?_
    refine Go.trp 35 (go_get f_Mod_74 d_Mod_solve_32 (gRd_s _ _ _) rfl) rfl ?_
    refine Go.trp 36 (go_iload_n d_Mod_solve_35 rfl 1 rfl) rfl ?_
    refine Go.trp 39 (go_ldc2 (v := (-1)) d_Mod_solve_36 kl_Mod_189) rfl ?_
    refine Go.trp 40 (go_last (j := k) d_Mod_solve_39 ((gRd_n _ _ (Ne.symm (hI.2 30))).trans ((gRd_n _ _ (hI.n (i := 30) (j := 32) (by decide))).trans ((gRd_n _ _ (hI.n (i := 30) (j := 31) (by decide))).trans (gRd_s _ _ _)))) (rfl) (by omega) (by omega)) rfl ?_
    refine (go_m (M' := (gWr (gWr (gWr (gWr M (a 30) (aL G 26 (vp_updL X.1.1 k (-1)))) (a 31) (aI G 26 X.1.2.1)) (a 32) (aI G 26 X.1.2.2)) A (.inr (11, oMod a (upd (upd (upd (upd (upd s 33 X.2.1) 34 X.2.2.1) 35 X.2.2.2.1) 36 X.2.2.2.2.1) 37 X.2.2.2.2.2) c)))) ((gWr_cm (gWr (gWr (gWr M (a 30) (aL G 26 X.1.1)) (a 31) (aI G 26 X.1.2.1)) (a 32) (aI G 26 X.1.2.2)) (.inr (11, oMod a (upd (upd (upd (upd (upd s 33 X.2.1) 34 X.2.2.1) 35 X.2.2.2.1) 36 X.2.2.2.2.1) 37 X.2.2.2.2.2) c)) (aL G 26 (vp_updL X.1.1 k (-1))) (hI.2 30)).trans (congrArg (fun mZ => gWr mZ A (.inr (11, oMod a (upd (upd (upd (upd (upd s 33 X.2.1) 34 X.2.2.1) 35 X.2.2.2.1) 36 X.2.2.2.2.1) 37 X.2.2.2.2.2) c))) ((gWr_cm (gWr (gWr M (a 30) (aL G 26 X.1.1)) (a 31) (aI G 26 X.1.2.1)) (aI G 26 X.1.2.2) (aL G 26 (vp_updL X.1.1 k (-1))) (hI.n (i := 32) (j := 30) (by decide))).trans (congrArg (fun mZ => gWr mZ (a 32) (aI G 26 X.1.2.2)) ((gWr_cm (gWr M (a 30) (aL G 26 X.1.1)) (aI G 26 X.1.2.1) (aL G 26 (vp_updL X.1.1 k (-1))) (hI.n (i := 31) (j := 30) (by decide))).trans (congrArg (fun mZ => gWr mZ (a 31) (aI G 26 X.1.2.1)) (gWr_wr M (a 30) (aL G 26 X.1.1) (aL G 26 (vp_updL X.1.1 k (-1))))))))))).tr ?_
    refine Go.trp 41 (go_iload_n d_Mod_solve_40 rfl 1 rfl) rfl ?_
    refine Go.trp 42 (go_iconst (v := 1) d_Mod_solve_41 (by decide)) rfl ?_
    refine Go.trp 43 (go_iadd d_Mod_solve_42) rfl ?_
    refine (go_v (y := nI (k + 1)) (nI_add k 1)).tr ?_
    refine Go.trp 44 (go_istore_n [(2, .int (nI (k + 1))), (0, .ref A), (1, .int (nI k))] d_Mod_solve_43 rfl (by decide) rfl) rfl ?_
    refine (go_pick [1, 2, 0] [(0, .ref A), (1, .int (nI k)), (2, .int (nI (k + 1)))] rfl).tr ?_
    refine (g_Mod_so1 G M A a s c wt PP ci si K E B nb n eN gN hI m2 m3 m17 m18 m25 m26 m27 hL h28 k (by omega) (nb - k) (k + 1) ((vp_updL X.1.1 k (-1), X.1.2.1, X.1.2.2), X.2) (by omega) (by omega)).tr ?_
    refine Go.trp 191 (go_iinc (n0 := 1) (v := nI k - 1) [(1, .int (nI k - 1)), (0, .ref A)] d_Mod_solve_188 rfl (by rw [ofIntm1, ← Int32.sub_eq_add_neg]) (by decide) rfl) rfl ?_
    refine (go_pick [1, 0] [(0, .ref A), (1, .int (nI k - 1))] rfl).tr ?_
    refine Go.trp 27 (go_goto 27 d_Mod_solve_191 (by decide)) rfl ?_
    exact ih (siF (fun j => meF wt PP ci si K k j (eN j) (gN k)) (fun j => pmF PP K k j) k (nb - k) (k + 1) ((vp_updL X.1.1 k (-1), X.1.2.1, X.1.2.2), X.2)) (by omega)
theorem e_Mod_solve (G : gG) (M : gM) (A : Nat) (a : Nat → Nat) (s : Nat → Int32) (c : Int64) (wt PP ci si K E B l0 x0 : Nat → Int32) (b0 : Nat → Int64) (nb n : Nat) (eN gN : Nat → Nat) (hI : InjA A a) (hA : gRd M A = some (.inr (11, oMod a s c))) (m2 : gRd M (a 2) = some (aI G 128 wt)) (m3 : gRd M (a 3) = some (aI G 5 PP)) (m17 : gRd M (a 17) = some (aI G 120 ci)) (m18 : gRd M (a 18) = some (aI G 120 si)) (m25 : gRd M (a 25) = some (aI G 26 K)) (m26 : gRd M (a 26) = some (aI G 26 E)) (m27 : gRd M (a 27) = some (aI G 26 B)) (m30 : gRd M (a 30) = some (aL G 26 b0)) (m31 : gRd M (a 31) = some (aI G 26 l0)) (m32 : gRd M (a 32) = some (aI G 26 x0)) (hL : LnM nb n eN gN wt ci si K E B) (h28 : s 28 = nI nb) : Ev G 1 m_Mod_solve [.ref A] M none (gWr (gWr (gWr (gWr M (a 30) (aL G 26 ((slF nb (fun i j => meF wt PP ci si K i j (eN j) (gN i)) (fun i j => pmF PP K i j) nb (((vp_updL b0 nb 0, upd l0 nb 0, x0), (s 33, s 34, s 35, s 36, s 37)))).1.1))) (a 31) (aI G 26 ((slF nb (fun i j => meF wt PP ci si K i j (eN j) (gN i)) (fun i j => pmF PP K i j) nb (((vp_updL b0 nb 0, upd l0 nb 0, x0), (s 33, s 34, s 35, s 36, s 37)))).1.2.1))) (a 32) (aI G 26 ((slF nb (fun i j => meF wt PP ci si K i j (eN j) (gN i)) (fun i j => pmF PP K i j) nb (((vp_updL b0 nb 0, upd l0 nb 0, x0), (s 33, s 34, s 35, s 36, s 37)))).1.2.2))) A (.inr (11, oMod a (upd (upd (upd (upd (upd s 33 ((slF nb (fun i j => meF wt PP ci si K i j (eN j) (gN i)) (fun i j => pmF PP K i j) nb (((vp_updL b0 nb 0, upd l0 nb 0, x0), (s 33, s 34, s 35, s 36, s 37)))).2.1)) 34 ((slF nb (fun i j => meF wt PP ci si K i j (eN j) (gN i)) (fun i j => pmF PP K i j) nb (((vp_updL b0 nb 0, upd l0 nb 0, x0), (s 33, s 34, s 35, s 36, s 37)))).2.2.1)) 35 ((slF nb (fun i j => meF wt PP ci si K i j (eN j) (gN i)) (fun i j => pmF PP K i j) nb (((vp_updL b0 nb 0, upd l0 nb 0, x0), (s 33, s 34, s 35, s 36, s 37)))).2.2.2.1)) 36 ((slF nb (fun i j => meF wt PP ci si K i j (eN j) (gN i)) (fun i j => pmF PP K i j) nb (((vp_updL b0 nb 0, upd l0 nb 0, x0), (s 33, s 34, s 35, s 36, s 37)))).2.2.2.2.1)) 37 ((slF nb (fun i j => meF wt PP ci si K i j (eN j) (gN i)) (fun i j => pmF PP K i j) nb (((vp_updL b0 nb 0, upd l0 nb 0, x0), (s 33, s 34, s 35, s 36, s 37)))).2.2.2.2.2)) c))) := by
  have hnb := hL.1
  refine Ev.of (Nat.le_of_ble_eq_true rfl) ?_
  show EvF G 1 m_Mod_solve (0, [(0, .ref A)], [], M) _ _
  refine EvF.go (go_m (M' := (gWr M (a 30) (aL G 26 b0))) (gWr_id (m30)).symm) ?_
  refine EvF.go (go_m (M' := (gWr (gWr M (a 30) (aL G 26 b0)) (a 31) (aI G 26 l0))) (gWr_id ((gRd_n _ _ (hI.n (i := 31) (j := 30) (by decide))).trans (m31))).symm) ?_
  refine EvF.go (go_m (M' := (gWr (gWr (gWr M (a 30) (aL G 26 b0)) (a 31) (aI G 26 l0)) (a 32) (aI G 26 x0))) (gWr_id ((gRd_n _ _ (hI.n (i := 32) (j := 31) (by decide))).trans ((gRd_n _ _ (hI.n (i := 32) (j := 30) (by decide))).trans (m32)))).symm) ?_
  refine EvF.go (go_m (M' := (gWr (gWr (gWr (gWr M (a 30) (aL G 26 b0)) (a 31) (aI G 26 l0)) (a 32) (aI G 26 x0)) A (.inr (11, oMod a s c)))) (gWr_id ((gRd_n _ _ (hI.2 32)).trans ((gRd_n _ _ (hI.2 31)).trans ((gRd_n _ _ (hI.2 30)).trans (hA))))).symm) ?_
  refine EvF.gop 1 (go_aload_n d_Mod_solve_0 rfl 0 rfl) rfl ?_
  refine EvF.gop 4 (go_get f_Mod_74 d_Mod_solve_1 (gRd_s _ _ _) rfl) rfl ?_
  refine EvF.gop 5 (go_aload_n d_Mod_solve_4 rfl 0 rfl) rfl ?_
  refine EvF.gop 8 (go_get f_Mod_163 d_Mod_solve_5 (gRd_s _ _ _) rfl) rfl ?_
  refine EvF.gop 9 (go_lconst (v := 0) d_Mod_solve_8 (by decide)) rfl ?_
  refine EvF.gop 10 (go_last (j := nb) d_Mod_solve_9 ((gRd_n _ _ (Ne.symm (hI.2 30))).trans ((gRd_n _ _ (hI.n (i := 30) (j := 32) (by decide))).trans ((gRd_n _ _ (hI.n (i := 30) (j := 31) (by decide))).trans (gRd_s _ _ _)))) (h28) (by omega) (by omega)) rfl ?_
  refine EvF.go (go_m (M' := (gWr (gWr (gWr (gWr M (a 30) (aL G 26 (vp_updL b0 nb 0))) (a 31) (aI G 26 l0)) (a 32) (aI G 26 x0)) A (.inr (11, oMod a s c)))) ((gWr_cm (gWr (gWr (gWr M (a 30) (aL G 26 b0)) (a 31) (aI G 26 l0)) (a 32) (aI G 26 x0)) (.inr (11, oMod a s c)) (aL G 26 (vp_updL b0 nb 0)) (hI.2 30)).trans (congrArg (fun mZ => gWr mZ A (.inr (11, oMod a s c))) ((gWr_cm (gWr (gWr M (a 30) (aL G 26 b0)) (a 31) (aI G 26 l0)) (aI G 26 x0) (aL G 26 (vp_updL b0 nb 0)) (hI.n (i := 32) (j := 30) (by decide))).trans (congrArg (fun mZ => gWr mZ (a 32) (aI G 26 x0)) ((gWr_cm (gWr M (a 30) (aL G 26 b0)) (aI G 26 l0) (aL G 26 (vp_updL b0 nb 0)) (hI.n (i := 31) (j := 30) (by decide))).trans (congrArg (fun mZ => gWr mZ (a 31) (aI G 26 l0)) (gWr_wr M (a 30) (aL G 26 b0) (aL G 26 (vp_updL b0 nb 0)))))))))) ?_
  refine EvF.gop 11 (go_aload_n d_Mod_solve_10 rfl 0 rfl) rfl ?_
  refine EvF.gop 14 (go_get f_Mod_78 d_Mod_solve_11 (gRd_s _ _ _) rfl) rfl ?_
  refine EvF.gop 15 (go_aload_n d_Mod_solve_14 rfl 0 rfl) rfl ?_
  refine EvF.gop 18 (go_get f_Mod_163 d_Mod_solve_15 (gRd_s _ _ _) rfl) rfl ?_
  refine EvF.gop 19 (go_iconst (v := 0) d_Mod_solve_18 (by decide)) rfl ?_
  refine EvF.gop 20 (go_iast (j := nb) d_Mod_solve_19 ((gRd_n _ _ (Ne.symm (hI.2 31))).trans ((gRd_n _ _ (hI.n (i := 31) (j := 32) (by decide))).trans (gRd_s _ _ _))) (h28) (by omega) (by omega)) rfl ?_
  refine EvF.go (go_m (M' := (gWr (gWr (gWr (gWr M (a 30) (aL G 26 (vp_updL b0 nb 0))) (a 31) (aI G 26 (upd l0 nb 0))) (a 32) (aI G 26 x0)) A (.inr (11, oMod a s c)))) ((gWr_cm (gWr (gWr (gWr M (a 30) (aL G 26 (vp_updL b0 nb 0))) (a 31) (aI G 26 l0)) (a 32) (aI G 26 x0)) (.inr (11, oMod a s c)) (aI G 26 (upd l0 nb 0)) (hI.2 31)).trans (congrArg (fun mZ => gWr mZ A (.inr (11, oMod a s c))) ((gWr_cm (gWr (gWr M (a 30) (aL G 26 (vp_updL b0 nb 0))) (a 31) (aI G 26 l0)) (aI G 26 x0) (aI G 26 (upd l0 nb 0)) (hI.n (i := 32) (j := 31) (by decide))).trans (congrArg (fun mZ => gWr mZ (a 32) (aI G 26 x0)) (gWr_wr (gWr M (a 30) (aL G 26 (vp_updL b0 nb 0))) (a 31) (aI G 26 l0) (aI G 26 (upd l0 nb 0)))))))) ?_
  refine EvF.gop 21 (go_aload_n d_Mod_solve_20 rfl 0 rfl) rfl ?_
  refine EvF.gop 24 (go_get f_Mod_163 d_Mod_solve_21 (gRd_s _ _ _) rfl) rfl ?_
  refine EvF.gop 25 (go_iconst (v := 1) d_Mod_solve_24 (by decide)) rfl ?_
  refine EvF.gop 26 (go_isub d_Mod_solve_25) rfl ?_
  refine EvF.go (go_v (y := nI nb - 1) (show s 28 - 1 = nI nb - 1 from by rw [h28])) ?_
  refine EvF.gop 27 (go_istore_n [(1, .int (nI nb - 1)), (0, .ref A)] d_Mod_solve_26 rfl (by decide) rfl) rfl ?_
  refine EvF.go (go_pick [1, 0] [(0, .ref A), (1, .int (nI nb - 1))] rfl) ?_
  refine EvF.go (g_Mod_so2 G M A a s c wt PP ci si K E B nb n eN gN hI m2 m3 m17 m18 m25 m26 m27 hL h28 nb ((vp_updL b0 nb 0, upd l0 nb 0, x0), (s 33, s 34, s 35, s 36, s 37)) (Nat.le_refl _)) ?_
  exact EvF.rv d_Mod_solve_194 rfl rfl
