/-- letters in a row from place i on, at most r -/
def wdF (ci : Nat → Int32) : Nat → Nat → Nat
  | 0, _ => 0
  | r + 1, i => if cLet (ci i) = true then wdF ci r (i + 1) + 1 else 0
theorem wdF_le (ci : Nat → Int32) : ∀ r i, wdF ci r i ≤ r
  | 0, _ => Nat.le_refl 0
  | r + 1, i => by
    have := wdF_le ci r (i + 1)
    unfold wdF
    split
    · omega
    · omega
def hkF (gr : Nat → Int32) (b : Nat) : Nat → Nat → (Nat → Int32) → Nat → (Nat → Int32) × Nat
  | 0, _, pt, q => (pt, q)
  | r + 1, k, pt, q => if gr k - gr k / 2 * 2 = 0 then hkF gr b r (k + 1) pt q else hkF gr b r (k + 1) (upd pt (b + k) 1) (q + 1)
def hyF (n : Nat) (ci sg lv : Nat → Int32) (pn : Nat → Nat) (np : Nat) : Nat → Nat → (Nat → Int32) → Nat → (Nat → Int32) × Nat
  | 0, _, pt, q => (pt, q)
  | r + 1, b, pt, q => if b < n then hyF n ci sg lv pn np r (b + (wdF ci (n - b) b + 1)) (hkF (fun k => gpF ci b (wdF ci (n - b) b) k sg lv pn np) b (wdF ci (n - b) b - 1 - 2) 2 pt q).1 (hkF (fun k => gpF ci b (wdF ci (n - b) b) k sg lv pn np) b (wdF ci (n - b) b - 1 - 2) 2 pt q).2 else (pt, q)
theorem sub2_lt {m k : Nat} (hm : m < 2 ^ 29) (hk : k < 2 ^ 29) : nI m - 2 < nI k ↔ m < k + 2 := by
  rw [show (2 : Int32) = nI 2 from rfl, Int32.lt_iff_toInt_lt, pk_sub_toInt (by omega) (by decide), nI_toInt (by omega)]
  omega
theorem g_Mod_hy1 (G : gG) (M : gM) (A : Nat) (a : Nat → Nat) (s : Nat → Int32) (c : Int64) (sg lv f8 ci : Nat → Int32) (pt0 : Nat → Int32) (pn : Nat → Nat) (np n : Nat) (hI : InjA A a) (hA : gRd M A = some (.inr (11, oMod a s c))) (m6 : gRd M (a 6) = some (aI G 100 sg)) (m7 : gRd M (a 7) = some (aI G 120 lv)) (m8 : gRd M (a 8) = some (aI G 20 f8)) (m17 : gRd M (a 17) = some (aI G 120 ci)) (m24 : gRd M (a 24) = some (aZ G 121 pt0)) (hP : PatOk np f8 pn) (h9 : s 9 = nI np) (h22 : s 22 = nI n) (hn : n ≤ 120) : ∀ r k : Nat, k + r = (n + 1) → Go G m_Mod_hyphenate 2 (7, [(0, .ref A), (1, .int (nI k))], [], (gWr (gWr M A (.inr (11, oMod a (upd s 29 (nI 0)) c))) (a 24) (aZ G 121 (cpI (fun _ => 0) k pt0)))) (28, [(0, .ref A), (1, .int (nI ((n + 1))))], [], (gWr (gWr M A (.inr (11, oMod a (upd s 29 (nI 0)) c))) (a 24) (aZ G 121 (cpI (fun _ => 0) ((n + 1)) pt0)))) := by
  intro r
  induction r with
  | zero =>
    intro k hk
    rw [show k = (n + 1) from by omega]
    refine Go.trp 8 (go_iload_n d_Mod_hyphenate_7 rfl 1 rfl) rfl ?_
    refine Go.trp 9 (go_aload_n d_Mod_hyphenate_8 rfl 0 rfl) rfl ?_
    refine Go.trp 12 (go_get f_Mod_142 d_Mod_hyphenate_9 ((gRd_n _ _ (hI.2 24)).trans (gRd_s _ _ _)) rfl) rfl ?_
    refine Go.trp 28 (go_icmp_gt_t 28 d_Mod_hyphenate_12 (by decide) (show s 22 < nI (n + 1) from by rw [h22]; exact nI_lt (by omega) (by omega))) rfl ?_
    exact Go.rf
  | succ r ih =>
    intro k hk
    refine Go.trp 8 (go_iload_n d_Mod_hyphenate_7 rfl 1 rfl) rfl ?_
    refine Go.trp 9 (go_aload_n d_Mod_hyphenate_8 rfl 0 rfl) rfl ?_
    refine Go.trp 12 (go_get f_Mod_142 d_Mod_hyphenate_9 ((gRd_n _ _ (hI.2 24)).trans (gRd_s _ _ _)) rfl) rfl ?_
    refine Go.trp 15 (go_icmp_gt_f 28 d_Mod_hyphenate_12 (by decide) (show ¬ s 22 < nI k from by rw [h22]; exact nI_nlt (by omega) (by omega))) rfl ?_
    refine Go.trp 16 (go_aload_n d_Mod_hyphenate_15 rfl 0 rfl) rfl ?_
    refine Go.trp 19 (go_get f_Mod_61 d_Mod_hyphenate_16 ((gRd_n _ _ (hI.2 24)).trans (gRd_s _ _ _)) rfl) rfl ?_
    refine Go.trp 20 (go_iload_n d_Mod_hyphenate_19 rfl 1 rfl) rfl ?_
    refine Go.trp 21 (go_iconst (v := 0) d_Mod_hyphenate_20 (by decide)) rfl ?_
    refine Go.trp 22 (go_zast (j := k) rfl d_Mod_hyphenate_21 (gRd_s _ _ _) (rfl) (by omega) (by omega)) rfl ?_
    refine (go_m (M' := (gWr (gWr M A (.inr (11, oMod a (upd s 29 (nI 0)) c))) (a 24) (aZ G 121 (upd (cpI (fun _ => 0) k pt0) k 0)))) (gWr_wr (gWr M A (.inr (11, oMod a (upd s 29 (nI 0)) c))) (a 24) (aZ G 121 (cpI (fun _ => 0) k pt0)) (aZ G 121 (upd (cpI (fun _ => 0) k pt0) k 0)))).tr ?_
    refine Go.trp 25 (go_inc1 (n0 := 1) (x := k) [(1, .int (nI (k + 1))), (0, .ref A)] d_Mod_hyphenate_22 rfl (by decide) rfl) rfl ?_
    refine (go_pick [1, 0] [(0, .ref A), (1, .int (nI (k + 1)))] rfl).tr ?_
    refine Go.trp 7 (go_goto 7 d_Mod_hyphenate_25 (by decide)) rfl ?_
    rw [cpI_s (fun _ => 0)]
    exact ih (k + 1) (by omega)
theorem g_Mod_hy2 (G : gG) (M : gM) (A : Nat) (a : Nat → Nat) (s : Nat → Int32) (c : Int64) (sg lv f8 ci : Nat → Int32) (pt0 : Nat → Int32) (pn : Nat → Nat) (np n : Nat) (hI : InjA A a) (hA : gRd M A = some (.inr (11, oMod a s c))) (m6 : gRd M (a 6) = some (aI G 100 sg)) (m7 : gRd M (a 7) = some (aI G 120 lv)) (m8 : gRd M (a 8) = some (aI G 20 f8)) (m17 : gRd M (a 17) = some (aI G 120 ci)) (m24 : gRd M (a 24) = some (aZ G 121 pt0)) (hP : PatOk np f8 pn) (h9 : s 9 = nI np) (h22 : s 22 = nI n) (hn : n ≤ 120) (b q : Nat) (pt : Nat → Int32) : ∀ r m : Nat, b + m + r = n → Go G m_Mod_hyphenate 2 (40, [(0, .ref A), (1, .int (nI b)), (2, .int (nI m))], [], (gWr (gWr M A (.inr (11, oMod a (upd s 29 (nI q)) c))) (a 24) (aZ G 121 pt))) (70, [(0, .ref A), (1, .int (nI b)), (2, .int (nI ((m + wdF ci r (b + m)))))], [], (gWr (gWr M A (.inr (11, oMod a (upd s 29 (nI q)) c))) (a 24) (aZ G 121 pt))) := by
  intro r
  induction r with
  | zero =>
    intro m hk
    refine Go.trp 41 (go_iload_n d_Mod_hyphenate_40 rfl 1 rfl) rfl ?_
    refine Go.trp 42 (go_iload_n d_Mod_hyphenate_41 rfl 2 rfl) rfl ?_
    refine Go.trp 43 (go_iadd d_Mod_hyphenate_42) rfl ?_
    refine (go_v (y := nI (b + m)) (nI_add b m)).tr ?_
    refine Go.trp 44 (go_aload_n d_Mod_hyphenate_43 rfl 0 rfl) rfl ?_
    refine Go.trp 47 (go_get f_Mod_142 d_Mod_hyphenate_44 ((gRd_n _ _ (hI.2 24)).trans (gRd_s _ _ _)) rfl) rfl ?_
    refine Go.trp 70 (go_icmp_ge_t 70 d_Mod_hyphenate_47 (by decide) (show s 22 ≤ nI (b + m) from by rw [h22]; exact nI_le (by omega) (by omega))) rfl ?_
    exact Go.rf
  | succ r ih =>
    intro m hk
    refine Go.trp 41 (go_iload_n d_Mod_hyphenate_40 rfl 1 rfl) rfl ?_
    refine Go.trp 42 (go_iload_n d_Mod_hyphenate_41 rfl 2 rfl) rfl ?_
    refine Go.trp 43 (go_iadd d_Mod_hyphenate_42) rfl ?_
    refine (go_v (y := nI (b + m)) (nI_add b m)).tr ?_
    refine Go.trp 44 (go_aload_n d_Mod_hyphenate_43 rfl 0 rfl) rfl ?_
    refine Go.trp 47 (go_get f_Mod_142 d_Mod_hyphenate_44 ((gRd_n _ _ (hI.2 24)).trans (gRd_s _ _ _)) rfl) rfl ?_
    refine Go.trp 50 (go_icmp_ge_f 70 d_Mod_hyphenate_47 (by decide) (show ¬ s 22 ≤ nI (b + m) from by rw [h22]; exact nI_ge (by omega) (by omega))) rfl ?_
    refine Go.trp 51 (go_aload_n d_Mod_hyphenate_50 rfl 0 rfl) rfl ?_
    refine Go.trp 54 (go_get f_Mod_46 d_Mod_hyphenate_51 ((gRd_n _ _ (hI.2 24)).trans (gRd_s _ _ _)) rfl) rfl ?_
    refine Go.trp 55 (go_iload_n d_Mod_hyphenate_54 rfl 1 rfl) rfl ?_
    refine Go.trp 56 (go_iload_n d_Mod_hyphenate_55 rfl 2 rfl) rfl ?_
    refine Go.trp 57 (go_iadd d_Mod_hyphenate_56) rfl ?_
    refine (go_v (y := nI (b + m)) (nI_add b m)).tr ?_
    refine Go.trp 58 (go_iald (j := (b + m)) d_Mod_hyphenate_57 ((gRd_n _ _ (hI.n (i := 17) (j := 24) (by decide))).trans ((gRd_n _ _ (Ne.symm (hI.2 17))).trans (m17))) (rfl) (by omega) (by omega)) rfl ?_
    refine Go.trp 61 (go_callS [.int (ci (b + m))] [.int (bI (cLet (ci (b + m))))] c0_Mod_letter sm_Mod_letter lk_Mod_111 d_Mod_hyphenate_58 (e_Mod_letter G _ (ci (b + m))) (by decide) rfl rfl (Nat.le_of_ble_eq_true rfl) rfl) rfl ?_
    by_cases c1 : (bI (cLet (ci (b + m)))) = 0
    · have c1x : (cLet (ci (b + m))) = false := bI_0.mp c1
      refine Go.trp 70 (go_if_eq_t 70 d_Mod_hyphenate_61 (by decide) (c1)) rfl ?_
      rw [show wdF ci (r + 1) (b + m) = 0 from if_neg (by rw [‹cLet (ci (b + m)) = false›]; decide)]
      exact Go.rf
    · have c1x : (cLet (ci (b + m))) = true := bI_n0.mp c1
      refine Go.trp 64 (go_if_eq_f 70 d_Mod_hyphenate_61 (by decide) (c1)) rfl ?_
      refine Go.trp 67 (go_inc1 (n0 := 2) (x := m) [(2, .int (nI (m + 1))), (0, .ref A), (1, .int (nI b))] d_Mod_hyphenate_64 rfl (by decide) rfl) rfl ?_
      refine (go_pick [1, 2, 0] [(0, .ref A), (1, .int (nI b)), (2, .int (nI (m + 1)))] rfl).tr ?_
      refine Go.trp 40 (go_goto 40 d_Mod_hyphenate_67 (by decide)) rfl ?_
      rw [show m + wdF ci (r + 1) (b + m) = m + 1 + wdF ci r (b + (m + 1)) from by rw [show wdF ci (r + 1) (b + m) = wdF ci r (b + m + 1) + 1 from if_pos (by assumption), show b + (m + 1) = b + m + 1 from rfl]; omega]
      exact ih (m + 1) (by omega)
theorem g_Mod_hy3 (G : gG) (M : gM) (A : Nat) (a : Nat → Nat) (s : Nat → Int32) (c : Int64) (sg lv f8 ci : Nat → Int32) (pt0 : Nat → Int32) (pn : Nat → Nat) (np n : Nat) (hI : InjA A a) (hA : gRd M A = some (.inr (11, oMod a s c))) (m6 : gRd M (a 6) = some (aI G 100 sg)) (m7 : gRd M (a 7) = some (aI G 120 lv)) (m8 : gRd M (a 8) = some (aI G 20 f8)) (m17 : gRd M (a 17) = some (aI G 120 ci)) (m24 : gRd M (a 24) = some (aZ G 121 pt0)) (hP : PatOk np f8 pn) (h9 : s 9 = nI np) (h22 : s 22 = nI n) (hn : n ≤ 120) (b m : Nat) (hbm : b + m ≤ n) : ∀ (r k : Nat) (pt : Nat → Int32) (q : Nat), r = m - 1 - k → k ≤ 120 → Go G m_Mod_hyphenate 2 (72, [(0, .ref A), (1, .int (nI b)), (2, .int (nI m)), (3, .int (nI k))], [], (gWr (gWr M A (.inr (11, oMod a (upd s 29 (nI q)) c))) (a 24) (aZ G 121 pt))) (119, [(0, .ref A), (1, .int (nI b)), (2, .int (nI m))], [], (gWr (gWr M A (.inr (11, oMod a (upd s 29 (nI ((hkF (fun k => gpF ci b m k sg lv pn np) b r k pt q).2))) c))) (a 24) (aZ G 121 ((hkF (fun k => gpF ci b m k sg lv pn np) b r k pt q).1)))) := by
  intro r
  induction r with
  | zero =>
    intro k pt q hk hk2
    refine Go.trp 73 (go_iload_n d_Mod_hyphenate_72 rfl 3 rfl) rfl ?_
    refine Go.trp 74 (go_iload_n d_Mod_hyphenate_73 rfl 2 rfl) rfl ?_
    refine Go.trp 75 (go_iconst (v := 2) d_Mod_hyphenate_74 (by decide)) rfl ?_
    refine Go.trp 76 (go_isub d_Mod_hyphenate_75) rfl ?_
    refine Go.trp 119 (go_icmp_gt_t 119 d_Mod_hyphenate_76 (by decide) ((sub2_lt (by omega) (by omega)).mpr (by omega))) rfl ?_
    refine (go_pick [0, 1, 2] [(0, .ref A), (1, .int (nI b)), (2, .int (nI m))] rfl).tr ?_
    exact Go.rf
  | succ r ih =>
    intro k pt q hk hk2
    refine Go.trp 73 (go_iload_n d_Mod_hyphenate_72 rfl 3 rfl) rfl ?_
    refine Go.trp 74 (go_iload_n d_Mod_hyphenate_73 rfl 2 rfl) rfl ?_
    refine Go.trp 75 (go_iconst (v := 2) d_Mod_hyphenate_74 (by decide)) rfl ?_
    refine Go.trp 76 (go_isub d_Mod_hyphenate_75) rfl ?_
    refine Go.trp 79 (go_icmp_gt_f 119 d_Mod_hyphenate_76 (by decide) (fun z => absurd ((sub2_lt (by omega) (by omega)).mp z) (by omega))) rfl ?_
    refine Go.trp 80 (go_aload_n d_Mod_hyphenate_79 rfl 0 rfl) rfl ?_
    refine Go.trp 81 (go_iload_n d_Mod_hyphenate_80 rfl 1 rfl) rfl ?_
    refine Go.trp 82 (go_iload_n d_Mod_hyphenate_81 rfl 2 rfl) rfl ?_
    refine Go.trp 83 (go_iload_n d_Mod_hyphenate_82 rfl 3 rfl) rfl ?_
    refine Go.trp 86 (go_callV [.int (nI b), .int (nI m), .int (nI k)] [.int (gpF ci b m k sg lv pn np)] c0_Mod_greatest im_Mod_greatest se_Mod_greatest lk_Mod_160 d_Mod_hyphenate_83 rfl rfl ((gRd_n _ _ (hI.2 24)).trans (gRd_s _ _ _)) (e_Mod_greatest G _ A a (upd s 29 (nI q)) c sg lv f8 ci pn np b m k hI ((gRd_n _ _ (hI.2 24)).trans (gRd_s _ _ _)) ((gRd_n _ _ (hI.n (i := 6) (j := 24) (by decide))).trans ((gRd_n _ _ (Ne.symm (hI.2 6))).trans (m6))) ((gRd_n _ _ (hI.n (i := 7) (j := 24) (by decide))).trans ((gRd_n _ _ (Ne.symm (hI.2 7))).trans (m7))) ((gRd_n _ _ (hI.n (i := 8) (j := 24) (by decide))).trans ((gRd_n _ _ (Ne.symm (hI.2 8))).trans (m8))) ((gRd_n _ _ (hI.n (i := 17) (j := 24) (by decide))).trans ((gRd_n _ _ (Ne.symm (hI.2 17))).trans (m17))) hP h9 (by omega) (by omega)) (by decide) rfl rfl (Nat.le_of_ble_eq_true rfl) rfl) rfl ?_
    refine Go.trp 87 (go_iconst (v := 2) d_Mod_hyphenate_86 (by decide)) rfl ?_
    refine Go.trp 88 (go_irem d_Mod_hyphenate_87 (by decide)) rfl ?_
    by_cases c1 : ((gpF ci b m k sg lv pn np) - (gpF ci b m k sg lv pn np) / 2 * 2) = 0
    · refine Go.trp 91 (go_if_ne_f 94 d_Mod_hyphenate_88 (by decide) (c1)) rfl ?_
      refine Go.trp 113 (go_goto 113 d_Mod_hyphenate_91 (by decide)) rfl ?_
      refine Go.trp 116 (go_inc1 (n0 := 3) (x := k) [(3, .int (nI (k + 1))), (0, .ref A), (1, .int (nI b)), (2, .int (nI m))] d_Mod_hyphenate_113 rfl (by decide) rfl) rfl ?_
      refine (go_pick [1, 2, 3, 0] [(0, .ref A), (1, .int (nI b)), (2, .int (nI m)), (3, .int (nI (k + 1)))] rfl).tr ?_
      refine Go.trp 72 (go_goto 72 d_Mod_hyphenate_116 (by decide)) rfl ?_
      rw [show (hkF (fun k => gpF ci b m k sg lv pn np) b (r + 1) k pt q) = (hkF (fun k => gpF ci b m k sg lv pn np) b r (k + 1) pt q) from if_pos (by assumption)]
      exact ih (k + 1) _ _ (by omega) (by omega)
    · refine Go.trp 94 (go_if_ne_t 94 d_Mod_hyphenate_88 (by decide) (c1)) rfl ?_
      refine Go.trp 95 (go_aload_n d_Mod_hyphenate_94 rfl 0 rfl) rfl ?_
      refine Go.trp 98 (go_get f_Mod_61 d_Mod_hyphenate_95 ((gRd_n _ _ (hI.2 24)).trans (gRd_s _ _ _)) rfl) rfl ?_
      refine Go.trp 99 (go_iload_n d_Mod_hyphenate_98 rfl 1 rfl) rfl ?_
      refine Go.trp 100 (go_iload_n d_Mod_hyphenate_99 rfl 3 rfl) rfl ?_
      refine Go.trp 101 (go_iadd d_Mod_hyphenate_100) rfl ?_
      refine (go_v (y := nI (b + k)) (nI_add b k)).tr ?_
      refine Go.trp 102 (go_iconst (v := 1) d_Mod_hyphenate_101 (by decide)) rfl ?_
      refine Go.trp 103 (go_zast (j := (b + k)) rfl d_Mod_hyphenate_102 (gRd_s _ _ _) (rfl) (by omega) (by omega)) rfl ?_
      refine (go_m (M' := (gWr (gWr M A (.inr (11, oMod a (upd s 29 (nI q)) c))) (a 24) (aZ G 121 (upd pt (b + k) 1)))) (gWr_wr (gWr M A (.inr (11, oMod a (upd s 29 (nI q)) c))) (a 24) (aZ G 121 pt) (aZ G 121 (upd pt (b + k) 1)))).tr ?_
      refine Go.trp 104 (go_aload_n d_Mod_hyphenate_103 rfl 0 rfl) rfl ?_
      refine Go.trp 105 (go_dup d_Mod_hyphenate_104 rfl) rfl ?_
      refine Go.trp 108 (go_get f_Mod_157 d_Mod_hyphenate_105 ((gRd_n _ _ (hI.2 24)).trans (gRd_s _ _ _)) rfl) rfl ?_
      refine Go.trp 109 (go_iconst (v := 1) d_Mod_hyphenate_108 (by decide)) rfl ?_
      refine Go.trp 110 (go_iadd d_Mod_hyphenate_109) rfl ?_
      refine (go_v (y := nI (q + 1)) (nI_add q 1)).tr ?_
      refine Go.trp 113 (go_put (oMod a (upd s 29 (nI (q + 1))) c) f_Mod_157 ft_Mod_29 d_Mod_hyphenate_110 ((gRd_n _ _ (hI.2 24)).trans (gRd_s _ _ _)) rfl rfl (Nat.le_of_ble_eq_true rfl) rfl) rfl ?_
      refine (go_m (M' := (gWr (gWr M A (.inr (11, oMod a (upd s 29 (nI (q + 1))) c))) (a 24) (aZ G 121 (upd pt (b + k) 1)))) ((gWr_cm (gWr M A (.inr (11, oMod a (upd s 29 (nI q)) c))) (aZ G 121 (upd pt (b + k) 1)) (.inr (11, oMod a (upd s 29 (nI (q + 1))) c)) (Ne.symm (hI.2 24))).trans (congrArg (fun mZ => gWr mZ (a 24) (aZ G 121 (upd pt (b + k) 1))) (gWr_wr M A (.inr (11, oMod a (upd s 29 (nI q)) c)) (.inr (11, oMod a (upd s 29 (nI (q + 1))) c)))))).tr ?_
      refine Go.trp 116 (go_inc1 (n0 := 3) (x := k) [(3, .int (nI (k + 1))), (0, .ref A), (1, .int (nI b)), (2, .int (nI m))] d_Mod_hyphenate_113 rfl (by decide) rfl) rfl ?_
      refine (go_pick [1, 2, 3, 0] [(0, .ref A), (1, .int (nI b)), (2, .int (nI m)), (3, .int (nI (k + 1)))] rfl).tr ?_
      refine Go.trp 72 (go_goto 72 d_Mod_hyphenate_116 (by decide)) rfl ?_
      rw [show (hkF (fun k => gpF ci b m k sg lv pn np) b (r + 1) k pt q) = (hkF (fun k => gpF ci b m k sg lv pn np) b r (k + 1) (upd pt (b + k) 1) (q + 1)) from if_neg (by assumption)]
      exact ih (k + 1) _ _ (by omega) (by omega)
theorem g_Mod_hy4 (G : gG) (M : gM) (A : Nat) (a : Nat → Nat) (s : Nat → Int32) (c : Int64) (sg lv f8 ci : Nat → Int32) (pt0 : Nat → Int32) (pn : Nat → Nat) (np n : Nat) (hI : InjA A a) (hA : gRd M A = some (.inr (11, oMod a s c))) (m6 : gRd M (a 6) = some (aI G 100 sg)) (m7 : gRd M (a 7) = some (aI G 120 lv)) (m8 : gRd M (a 8) = some (aI G 20 f8)) (m17 : gRd M (a 17) = some (aI G 120 ci)) (m24 : gRd M (a 24) = some (aZ G 121 pt0)) (hP : PatOk np f8 pn) (h9 : s 9 = nI np) (h22 : s 22 = nI n) (hn : n ≤ 120) : ∀ (r b : Nat) (pt : Nat → Int32) (q : Nat), n < b + r → b ≤ n + 1 → EvF G 2 m_Mod_hyphenate (30, [(0, .ref A), (1, .int (nI b))], [], (gWr (gWr M A (.inr (11, oMod a (upd s 29 (nI q)) c))) (a 24) (aZ G 121 pt))) none (gWr (gWr M A (.inr (11, oMod a (upd s 29 (nI ((hyF n ci sg lv pn np r b pt q).2))) c))) (a 24) (aZ G 121 ((hyF n ci sg lv pn np r b pt q).1))) := by
  intro r
  induction r with
  | zero =>
    intro b pt q hk hk2
    refine EvF.gop 31 (go_iload_n d_Mod_hyphenate_30 rfl 1 rfl) rfl ?_
    refine EvF.gop 32 (go_aload_n d_Mod_hyphenate_31 rfl 0 rfl) rfl ?_
    refine EvF.gop 35 (go_get f_Mod_142 d_Mod_hyphenate_32 ((gRd_n _ _ (hI.2 24)).trans (gRd_s _ _ _)) rfl) rfl ?_
    refine EvF.gop 128 (go_icmp_ge_t 128 d_Mod_hyphenate_35 (by decide) (show s 22 ≤ nI b from by rw [h22]; exact nI_le (by omega) (by omega))) rfl ?_
    exact EvF.rv d_Mod_hyphenate_128 rfl (rfl)
  | succ r ih =>
    intro b pt q hk hk2
    have hwl := wdF_le ci (n - b) b
    by_cases hbn : b < n
    · rw [show (hyF n ci sg lv pn np (r + 1) b pt q) = (hyF n ci sg lv pn np r (b + ((wdF ci (n - b) b) + 1)) ((hkF (fun k => gpF ci b (wdF ci (n - b) b) k sg lv pn np) b ((wdF ci (n - b) b) - 1 - 2) 2 pt q).1) ((hkF (fun k => gpF ci b (wdF ci (n - b) b) k sg lv pn np) b ((wdF ci (n - b) b) - 1 - 2) 2 pt q).2)) from if_pos hbn]
      refine EvF.gop 31 (go_iload_n d_Mod_hyphenate_30 rfl 1 rfl) rfl ?_
      refine EvF.gop 32 (go_aload_n d_Mod_hyphenate_31 rfl 0 rfl) rfl ?_
      refine EvF.gop 35 (go_get f_Mod_142 d_Mod_hyphenate_32 ((gRd_n _ _ (hI.2 24)).trans (gRd_s _ _ _)) rfl) rfl ?_
      refine EvF.gop 38 (go_icmp_ge_f 128 d_Mod_hyphenate_35 (by decide) (show ¬ s 22 ≤ nI b from by rw [h22]; exact nI_ge (by omega) (by omega))) rfl ?_
      refine EvF.gop 39 (go_iconst (v := nI 0) d_Mod_hyphenate_38 (rfl)) rfl ?_
      refine EvF.gop 40 (go_istore_n [(2, .int (nI 0)), (0, .ref A), (1, .int (nI b))] d_Mod_hyphenate_39 rfl (by decide) rfl) rfl ?_
      refine EvF.go (go_pick [1, 2, 0] [(0, .ref A), (1, .int (nI b)), (2, .int (nI 0))] rfl) ?_
      refine EvF.go (g_Mod_hy2 G M A a s c sg lv f8 ci pt0 pn np n hI hA m6 m7 m8 m17 m24 hP h9 h22 hn b q pt (n - b) 0 (by omega)) ?_
      show EvF _ _ _ (70, [(0, .ref A), (1, .int (nI b)), (2, .int (nI ((0 + (wdF ci (n - b) b)))))], [], (gWr (gWr M A (.inr (11, oMod a (upd s 29 (nI q)) c))) (a 24) (aZ G 121 pt))) _ _
      rw [Nat.zero_add]
      refine EvF.gop 71 (go_iconst (v := nI 2) d_Mod_hyphenate_70 (rfl)) rfl ?_
      refine EvF.gop 72 (go_istore_n [(3, .int (nI 2)), (0, .ref A), (1, .int (nI b)), (2, .int (nI ((wdF ci (n - b) b))))] d_Mod_hyphenate_71 rfl (by decide) rfl) rfl ?_
      refine EvF.go (go_pick [1, 2, 3, 0] [(0, .ref A), (1, .int (nI b)), (2, .int (nI ((wdF ci (n - b) b)))), (3, .int (nI 2))] rfl) ?_
      refine EvF.go (g_Mod_hy3 G M A a s c sg lv f8 ci pt0 pn np n hI hA m6 m7 m8 m17 m24 hP h9 h22 hn b (wdF ci (n - b) b) (by omega) ((wdF ci (n - b) b) - 1 - 2) 2 pt q rfl (by decide)) ?_
      refine EvF.gop 120 (go_iload_n d_Mod_hyphenate_119 rfl 1 rfl) rfl ?_
      refine EvF.gop 121 (go_iload_n d_Mod_hyphenate_120 rfl 2 rfl) rfl ?_
      refine EvF.gop 122 (go_iconst (v := 1) d_Mod_hyphenate_121 (by decide)) rfl ?_
      refine EvF.gop 123 (go_iadd d_Mod_hyphenate_122) rfl ?_
      refine EvF.go (go_v (y := nI (((wdF ci (n - b) b)) + 1)) (nI_add ((wdF ci (n - b) b)) 1)) ?_
      refine EvF.gop 124 (go_iadd d_Mod_hyphenate_123) rfl ?_
      refine EvF.go (go_v (y := nI (b + (((wdF ci (n - b) b)) + 1))) (nI_add b (((wdF ci (n - b) b)) + 1))) ?_
      refine EvF.gop 125 (go_istore_n [(1, .int (nI (b + (((wdF ci (n - b) b)) + 1)))), (0, .ref A), (2, .int (nI ((wdF ci (n - b) b))))] d_Mod_hyphenate_124 rfl (by decide) rfl) rfl ?_
      refine EvF.go (go_pick [1, 0, 2] [(0, .ref A), (1, .int (nI (b + (((wdF ci (n - b) b)) + 1)))), (2, .int (nI ((wdF ci (n - b) b))))] rfl) ?_
      refine EvF.gop 30 (go_goto 30 d_Mod_hyphenate_125 (by decide)) rfl ?_
      refine EvF.go (go_pick [0, 1] [(0, .ref A), (1, .int (nI (b + (((wdF ci (n - b) b)) + 1))))] rfl) ?_
      exact ih _ _ _ (by omega) (by omega)
    · rw [show (hyF n ci sg lv pn np (r + 1) b pt q) = (pt, q) from if_neg hbn]
      refine EvF.gop 31 (go_iload_n d_Mod_hyphenate_30 rfl 1 rfl) rfl ?_
      refine EvF.gop 32 (go_aload_n d_Mod_hyphenate_31 rfl 0 rfl) rfl ?_
      refine EvF.gop 35 (go_get f_Mod_142 d_Mod_hyphenate_32 ((gRd_n _ _ (hI.2 24)).trans (gRd_s _ _ _)) rfl) rfl ?_
      refine EvF.gop 128 (go_icmp_ge_t 128 d_Mod_hyphenate_35 (by decide) (show s 22 ≤ nI b from by rw [h22]; exact nI_le (by omega) (by omega))) rfl ?_
      exact EvF.rv d_Mod_hyphenate_128 rfl (rfl)
theorem e_Mod_hyphenate (G : gG) (M : gM) (A : Nat) (a : Nat → Nat) (s : Nat → Int32) (c : Int64) (sg lv f8 ci : Nat → Int32) (pt0 : Nat → Int32) (pn : Nat → Nat) (np n : Nat) (hI : InjA A a) (hA : gRd M A = some (.inr (11, oMod a s c))) (m6 : gRd M (a 6) = some (aI G 100 sg)) (m7 : gRd M (a 7) = some (aI G 120 lv)) (m8 : gRd M (a 8) = some (aI G 20 f8)) (m17 : gRd M (a 17) = some (aI G 120 ci)) (m24 : gRd M (a 24) = some (aZ G 121 pt0)) (hP : PatOk np f8 pn) (h9 : s 9 = nI np) (h22 : s 22 = nI n) (hn : n ≤ 120) : Ev G 2 m_Mod_hyphenate [.ref A] M none (gWr (gWr M A (.inr (11, oMod a (upd s 29 (nI ((hyF n ci sg lv pn np (n + 1) 0 (cpI (fun _ => 0) (n + 1) pt0) 0).2))) c))) (a 24) (aZ G 121 ((hyF n ci sg lv pn np (n + 1) 0 (cpI (fun _ => 0) (n + 1) pt0) 0).1))) := by
  refine Ev.of (Nat.le_of_ble_eq_true rfl) ?_
  show EvF G 2 m_Mod_hyphenate (0, [(0, .ref A)], [], M) _ _
  refine EvF.go (go_m (M' := (gWr M A (.inr (11, oMod a s c)))) (gWr_id (hA)).symm) ?_
  refine EvF.go (go_m (M' := (gWr (gWr M A (.inr (11, oMod a s c))) (a 24) (aZ G 121 pt0))) (gWr_id ((gRd_n _ _ (Ne.symm (hI.2 24))).trans (m24))).symm) ?_
  refine EvF.gop 1 (go_aload_n d_Mod_hyphenate_0 rfl 0 rfl) rfl ?_
  refine EvF.gop 2 (go_iconst (v := nI 0) d_Mod_hyphenate_1 (rfl)) rfl ?_
  refine EvF.gop 5 (go_put (oMod a (upd s 29 (nI 0)) c) f_Mod_157 ft_Mod_29 d_Mod_hyphenate_2 ((gRd_n _ _ (hI.2 24)).trans (gRd_s _ _ _)) rfl rfl (Nat.le_of_ble_eq_true rfl) rfl) rfl ?_
  refine EvF.go (go_m (M' := (gWr (gWr M A (.inr (11, oMod a (upd s 29 (nI 0)) c))) (a 24) (aZ G 121 pt0))) ((gWr_cm (gWr M A (.inr (11, oMod a s c))) (aZ G 121 pt0) (.inr (11, oMod a (upd s 29 (nI 0)) c)) (Ne.symm (hI.2 24))).trans (congrArg (fun mZ => gWr mZ (a 24) (aZ G 121 pt0)) (gWr_wr M A (.inr (11, oMod a s c)) (.inr (11, oMod a (upd s 29 (nI 0)) c)))))) ?_
  refine EvF.gop 6 (go_iconst (v := nI 0) d_Mod_hyphenate_5 (rfl)) rfl ?_
  refine EvF.gop 7 (go_istore_n [(1, .int (nI 0)), (0, .ref A)] d_Mod_hyphenate_6 rfl (by decide) rfl) rfl ?_
  refine EvF.go (go_pick [1, 0] [(0, .ref A), (1, .int (nI 0))] rfl) ?_
  refine EvF.go (go_m (M' := (gWr (gWr M A (.inr (11, oMod a (upd s 29 (nI 0)) c))) (a 24) (aZ G 121 (cpI (fun _ => 0) 0 pt0)))) (by rw [cpI_0])) ?_
  refine EvF.go (g_Mod_hy1 G M A a s c sg lv f8 ci pt0 pn np n hI hA m6 m7 m8 m17 m24 hP h9 h22 hn (n + 1) 0 (by omega)) ?_
  refine EvF.gop 29 (go_iconst (v := nI 0) d_Mod_hyphenate_28 (rfl)) rfl ?_
  refine EvF.gop 30 (go_istore_n [(1, .int (nI 0)), (0, .ref A)] d_Mod_hyphenate_29 rfl (by decide) rfl) rfl ?_
  refine EvF.go (go_pick [1, 0] [(0, .ref A), (1, .int (nI 0))] rfl) ?_
  exact g_Mod_hy4 G M A a s c sg lv f8 ci pt0 pn np n hI hA m6 m7 m8 m17 m24 hP h9 h22 hn (n + 1) 0 _ 0 (by omega) (by omega)
