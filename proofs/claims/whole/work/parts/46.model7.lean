/-- items dropped one by one where g says so; n items -/
def clF (g : (Nat → Int32) → Nat → Bool) : Nat → Nat → Nat → (Nat → Int32) → (Nat → Int32) → Nat × (Nat → Int32) × (Nat → Int32)
  | 0, _, n, c, s => (n, c, s)
  | r + 1, i, n, c, s => if g c i = true then clF g r i (n - 1) (dsF c i (n - 1)) (dsF s i (n - 1)) else clF g r (i + 1) n c s
def k1B (c : Nat → Int32) (i : Nat) : Bool := decide (c i = 32) && (decide (i = 0) || (decide (c (i - 1) = 32) || decide (c (i - 1) = 124)))
def k3B (c : Nat → Int32) (i : Nat) : Bool := decide (c i = 124) && (decide (i = 0) || decide (c (i - 1) = 124))
def cdF : Nat → Nat → (Nat → Int32) → (Nat → Int32) → Nat × (Nat → Int32) × (Nat → Int32)
  | 0, n, c, s => (n, c, s)
  | i + 1, n, c, s => if c i = 32 ∧ (i + 1 = n ∨ c (i + 1) = 124) then cdF i (n - 1) (dsF c i (n - 1)) (dsF s i (n - 1)) else cdF i n c s
def ctF (c : Nat → Int32) : Nat → Nat
  | 0 => 0
  | n + 1 => if c n = 124 then ctF c n else n + 1
theorem g_Mod_clean1 (G : gG) (M : gM) (A : Nat) (a : Nat → Nat) (s : Nat → Int32) (c : Int64) (hI : InjA A a) : ∀ (r i n : Nat) (ci si : Nat → Int32), i + r = n → n ≤ 120 → Go G m_Mod_clean 1 (2, [(0, .ref A), (1, .int (nI i))], [], (gWr (gWr (gWr M A (.inr (11, oMod a (upd s 22 (nI n)) c))) (a 17) (aI G 120 ci)) (a 18) (aI G 120 si))) (75, [(0, .ref A), (1, .int (nI ((clF k1B r i n ci si).1)))], [], (gWr (gWr (gWr M A (.inr (11, oMod a (upd s 22 (nI ((clF k1B r i n ci si).1))) c))) (a 17) (aI G 120 ((clF k1B r i n ci si).2.1))) (a 18) (aI G 120 ((clF k1B r i n ci si).2.2)))) := by
  intro r
  induction r with
  | zero =>
    intro i n ci si hi hn
    have e0 : i = n := by omega
    subst e0
    refine Go.trp 3 (go_iload_n d_Mod_clean_2 rfl 1 rfl) rfl ?_
    refine Go.trp 4 (go_aload_n d_Mod_clean_3 rfl 0 rfl) rfl ?_
    refine Go.trp 7 (go_get f_Mod_142 d_Mod_clean_4 ((gRd_n _ _ (hI.2 18)).trans ((gRd_n _ _ (hI.2 17)).trans (gRd_s _ _ _))) rfl) rfl ?_
    refine Go.trp 75 (go_icmp_ge_t 75 d_Mod_clean_7 (by decide) (nI_le (Nat.le_refl i) (by omega))) rfl ?_
    exact Go.rf
  | succ r ih =>
    intro i n ci si hi hn
    refine Go.trp 3 (go_iload_n d_Mod_clean_2 rfl 1 rfl) rfl ?_
    refine Go.trp 4 (go_aload_n d_Mod_clean_3 rfl 0 rfl) rfl ?_
    refine Go.trp 7 (go_get f_Mod_142 d_Mod_clean_4 ((gRd_n _ _ (hI.2 18)).trans ((gRd_n _ _ (hI.2 17)).trans (gRd_s _ _ _))) rfl) rfl ?_
    refine Go.trp 10 (go_icmp_ge_f 75 d_Mod_clean_7 (by decide) (nI_ge (by omega) (by omega))) rfl ?_
    refine Go.trp 11 (go_iload_n d_Mod_clean_10 rfl 1 rfl) rfl ?_
    by_cases c1 : (nI i) = 0
    · have c1x : i = 0 := (nI_eq (a := i) (b := 0) (by omega) (by decide)).mp c1
      refine Go.trp 40 (go_if_eq_t 40 d_Mod_clean_11 (by decide) (c1)) rfl ?_
      refine Go.trp 41 (go_iconst (v := 1) d_Mod_clean_40 (by decide)) rfl ?_
      refine Go.trp 45 (go_goto 45 d_Mod_clean_41 (by decide)) rfl ?_
      refine Go.trp 46 (go_istore_n [(2, .int 1), (0, .ref A), (1, .int (nI i))] d_Mod_clean_45 rfl (by decide) rfl) rfl ?_
      refine (go_pick [1, 2, 0] [(0, .ref A), (1, .int (nI i)), (2, .int 1)] rfl).tr ?_
      refine Go.trp 47 (go_aload_n d_Mod_clean_46 rfl 0 rfl) rfl ?_
      refine Go.trp 50 (go_get f_Mod_46 d_Mod_clean_47 ((gRd_n _ _ (hI.2 18)).trans ((gRd_n _ _ (hI.2 17)).trans (gRd_s _ _ _))) rfl) rfl ?_
      refine Go.trp 51 (go_iload_n d_Mod_clean_50 rfl 1 rfl) rfl ?_
      refine Go.trp 52 (go_iald (j := i) d_Mod_clean_51 ((gRd_n _ _ (hI.n (i := 17) (j := 18) (by decide))).trans (gRd_s _ _ _)) (rfl) (by omega) (by omega)) rfl ?_
      refine Go.trp 54 (go_bipush (v := 32) d_Mod_clean_52 (by decide)) rfl ?_
      by_cases c2 : (ci i) = 32
      · refine Go.trp 57 (go_icmp_ne_f 69 d_Mod_clean_54 (by decide) (c2)) rfl ?_
        refine Go.trp 58 (go_iload_n d_Mod_clean_57 rfl 2 rfl) rfl ?_
        refine Go.trp 61 (go_if_eq_f 69 d_Mod_clean_58 (by decide) (by decide)) rfl ?_
        refine Go.trp 62 (go_aload_n d_Mod_clean_61 rfl 0 rfl) rfl ?_
        refine Go.trp 63 (go_iload_n d_Mod_clean_62 rfl 1 rfl) rfl ?_
        refine Go.trp 66 (go_callV [.int (nI i)] [] c0_Mod_drop im_Mod_drop se_Mod_drop lk_Mod_149 d_Mod_clean_63 rfl rfl ((gRd_n _ _ (hI.2 18)).trans ((gRd_n _ _ (hI.2 17)).trans (gRd_s _ _ _))) (e_Mod_drop G _ A a (upd s 22 (nI n)) c ci si (n - 1) i hI ((gRd_n _ _ (hI.2 18)).trans ((gRd_n _ _ (hI.2 17)).trans (gRd_s _ _ _))) ((gRd_n _ _ (hI.n (i := 17) (j := 18) (by decide))).trans (gRd_s _ _ _)) (gRd_s _ _ _) (by show nI n = nI (n - 1 + 1); rw [Nat.sub_add_cancel (by omega)]) (by omega) (by omega)) (by decide) rfl rfl (Nat.le_of_ble_eq_true rfl) rfl) rfl ?_
        refine (go_m (M' := (gWr (gWr (gWr M A (.inr (11, oMod a (upd s 22 (nI ((n - 1)))) c))) (a 17) (aI G 120 (dsF ci i (n - 1)))) (a 18) (aI G 120 (dsF si i (n - 1))))) ((congrArg (fun mZ => gWr mZ (a 18) (aI G 120 (dsF si i (n - 1)))) ((congrArg (fun mZ => gWr mZ (a 17) (aI G 120 (dsF ci i (n - 1)))) ((gWr_cm (gWr (gWr M A (.inr (11, oMod a (upd s 22 (nI n)) c))) (a 17) (aI G 120 ci)) (aI G 120 si) (.inr (11, oMod a (upd s 22 (nI ((n - 1)))) c)) (Ne.symm (hI.2 18))).trans (congrArg (fun mZ => gWr mZ (a 18) (aI G 120 si)) ((gWr_cm (gWr M A (.inr (11, oMod a (upd s 22 (nI n)) c))) (aI G 120 ci) (.inr (11, oMod a (upd s 22 (nI ((n - 1)))) c)) (Ne.symm (hI.2 17))).trans (congrArg (fun mZ => gWr mZ (a 17) (aI G 120 ci)) (gWr_wr M A (.inr (11, oMod a (upd s 22 (nI n)) c)) (.inr (11, oMod a (upd s 22 (nI ((n - 1)))) c)))))))).trans ((gWr_cm (gWr (gWr M A (.inr (11, oMod a (upd s 22 (nI ((n - 1)))) c))) (a 17) (aI G 120 ci)) (aI G 120 si) (aI G 120 (dsF ci i (n - 1))) (hI.n (i := 18) (j := 17) (by decide))).trans (congrArg (fun mZ => gWr mZ (a 18) (aI G 120 si)) (gWr_wr (gWr M A (.inr (11, oMod a (upd s 22 (nI ((n - 1)))) c))) (a 17) (aI G 120 ci) (aI G 120 (dsF ci i (n - 1)))))))).trans (gWr_wr (gWr (gWr M A (.inr (11, oMod a (upd s 22 (nI ((n - 1)))) c))) (a 17) (aI G 120 (dsF ci i (n - 1)))) (a 18) (aI G 120 si) (aI G 120 (dsF si i (n - 1)))))).tr ?_
        refine Go.trp 72 (go_goto 72 d_Mod_clean_66 (by decide)) rfl ?_
        refine Go.trp 2 (go_goto 2 d_Mod_clean_72 (by decide)) rfl ?_
        have eg : k1B ci i = true := by first | (simp [k1B, *]; done) | (clear ih; subst c1x; simp_all [k1B]; done)
        refine (go_pick [0, 1] [(0, .ref A), (1, .int (nI i))] rfl).tr ?_
        rw [show clF k1B (r + 1) i n ci si = clF k1B r i (n - 1) (dsF ci i (n - 1)) (dsF si i (n - 1)) from if_pos eg]
        exact ih i (n - 1) _ _ (by omega) (by omega)
      · refine Go.trp 69 (go_icmp_ne_t 69 d_Mod_clean_54 (by decide) (c2)) rfl ?_
        refine Go.trp 72 (go_inc1 (n0 := 1) (x := i) [(1, .int (nI (i + 1))), (0, .ref A), (2, .int 1)] d_Mod_clean_69 rfl (by decide) rfl) rfl ?_
        refine (go_pick [1, 0, 2] [(0, .ref A), (1, .int (nI (i + 1))), (2, .int 1)] rfl).tr ?_
        refine Go.trp 2 (go_goto 2 d_Mod_clean_72 (by decide)) rfl ?_
        have eg : k1B ci i = false := by first | (simp [k1B, *]; done) | (clear ih; subst c1x; simp_all [k1B]; done)
        refine (go_pick [0, 1] [(0, .ref A), (1, .int (nI (i + 1)))] rfl).tr ?_
        rw [show clF k1B (r + 1) i n ci si = clF k1B r (i + 1) n ci si from if_neg (by rw [eg]; decide)]
        exact ih (i + 1) n _ _ (by omega) (by omega)
    · have c1x : ¬ i = 0 := fun q9 => c1 ((nI_eq (a := i) (b := 0) (by omega) (by decide)).mpr q9)
      refine Go.trp 14 (go_if_eq_f 40 d_Mod_clean_11 (by decide) (c1)) rfl ?_
      refine Go.trp 15 (go_aload_n d_Mod_clean_14 rfl 0 rfl) rfl ?_
      refine Go.trp 18 (go_get f_Mod_46 d_Mod_clean_15 ((gRd_n _ _ (hI.2 18)).trans ((gRd_n _ _ (hI.2 17)).trans (gRd_s _ _ _))) rfl) rfl ?_
      refine Go.trp 19 (go_iload_n d_Mod_clean_18 rfl 1 rfl) rfl ?_
      refine Go.trp 20 (go_iconst (v := 1) d_Mod_clean_19 (by decide)) rfl ?_
      refine Go.trp 21 (go_isub d_Mod_clean_20) rfl ?_
      refine (go_v (y := nI (i - 1)) (pk_sub (b := 1) (by omega))).tr ?_
      refine Go.trp 22 (go_iald (j := (i - 1)) d_Mod_clean_21 ((gRd_n _ _ (hI.n (i := 17) (j := 18) (by decide))).trans (gRd_s _ _ _)) (rfl) (by omega) (by omega)) rfl ?_
      refine Go.trp 24 (go_bipush (v := 32) d_Mod_clean_22 (by decide)) rfl ?_
      by_cases c3 : (ci (i - 1)) = 32
      · refine Go.trp 40 (go_icmp_eq_t 40 d_Mod_clean_24 (by decide) (c3)) rfl ?_
        refine Go.trp 41 (go_iconst (v := 1) d_Mod_clean_40 (by decide)) rfl ?_
        refine Go.trp 45 (go_goto 45 d_Mod_clean_41 (by decide)) rfl ?_
        refine Go.trp 46 (go_istore_n [(2, .int 1), (0, .ref A), (1, .int (nI i))] d_Mod_clean_45 rfl (by decide) rfl) rfl ?_
        refine (go_pick [1, 2, 0] [(0, .ref A), (1, .int (nI i)), (2, .int 1)] rfl).tr ?_
        refine Go.trp 47 (go_aload_n d_Mod_clean_46 rfl 0 rfl) rfl ?_
        refine Go.trp 50 (go_get f_Mod_46 d_Mod_clean_47 ((gRd_n _ _ (hI.2 18)).trans ((gRd_n _ _ (hI.2 17)).trans (gRd_s _ _ _))) rfl) rfl ?_
        refine Go.trp 51 (go_iload_n d_Mod_clean_50 rfl 1 rfl) rfl ?_
        refine Go.trp 52 (go_iald (j := i) d_Mod_clean_51 ((gRd_n _ _ (hI.n (i := 17) (j := 18) (by decide))).trans (gRd_s _ _ _)) (rfl) (by omega) (by omega)) rfl ?_
        refine Go.trp 54 (go_bipush (v := 32) d_Mod_clean_52 (by decide)) rfl ?_
        by_cases c4 : (ci i) = 32
        · refine Go.trp 57 (go_icmp_ne_f 69 d_Mod_clean_54 (by decide) (c4)) rfl ?_
          refine Go.trp 58 (go_iload_n d_Mod_clean_57 rfl 2 rfl) rfl ?_
          refine Go.trp 61 (go_if_eq_f 69 d_Mod_clean_58 (by decide) (by decide)) rfl ?_
          refine Go.trp 62 (go_aload_n d_Mod_clean_61 rfl 0 rfl) rfl ?_
          refine Go.trp 63 (go_iload_n d_Mod_clean_62 rfl 1 rfl) rfl ?_
          refine Go.trp 66 (go_callV [.int (nI i)] [] c0_Mod_drop im_Mod_drop se_Mod_drop lk_Mod_149 d_Mod_clean_63 rfl rfl ((gRd_n _ _ (hI.2 18)).trans ((gRd_n _ _ (hI.2 17)).trans (gRd_s _ _ _))) (e_Mod_drop G _ A a (upd s 22 (nI n)) c ci si (n - 1) i hI ((gRd_n _ _ (hI.2 18)).trans ((gRd_n _ _ (hI.2 17)).trans (gRd_s _ _ _))) ((gRd_n _ _ (hI.n (i := 17) (j := 18) (by decide))).trans (gRd_s _ _ _)) (gRd_s _ _ _) (by show nI n = nI (n - 1 + 1); rw [Nat.sub_add_cancel (by omega)]) (by omega) (by omega)) (by decide) rfl rfl (Nat.le_of_ble_eq_true rfl) rfl) rfl ?_
          refine (go_m (M' := (gWr (gWr (gWr M A (.inr (11, oMod a (upd s 22 (nI ((n - 1)))) c))) (a 17) (aI G 120 (dsF ci i (n - 1)))) (a 18) (aI G 120 (dsF si i (n - 1))))) ((congrArg (fun mZ => gWr mZ (a 18) (aI G 120 (dsF si i (n - 1)))) ((congrArg (fun mZ => gWr mZ (a 17) (aI G 120 (dsF ci i (n - 1)))) ((gWr_cm (gWr (gWr M A (.inr (11, oMod a (upd s 22 (nI n)) c))) (a 17) (aI G 120 ci)) (aI G 120 si) (.inr (11, oMod a (upd s 22 (nI ((n - 1)))) c)) (Ne.symm (hI.2 18))).trans (congrArg (fun mZ => gWr mZ (a 18) (aI G 120 si)) ((gWr_cm (gWr M A (.inr (11, oMod a (upd s 22 (nI n)) c))) (aI G 120 ci) (.inr (11, oMod a (upd s 22 (nI ((n - 1)))) c)) (Ne.symm (hI.2 17))).trans (congrArg (fun mZ => gWr mZ (a 17) (aI G 120 ci)) (gWr_wr M A (.inr (11, oMod a (upd s 22 (nI n)) c)) (.inr (11, oMod a (upd s 22 (nI ((n - 1)))) c)))))))).trans ((gWr_cm (gWr (gWr M A (.inr (11, oMod a (upd s 22 (nI ((n - 1)))) c))) (a 17) (aI G 120 ci)) (aI G 120 si) (aI G 120 (dsF ci i (n - 1))) (hI.n (i := 18) (j := 17) (by decide))).trans (congrArg (fun mZ => gWr mZ (a 18) (aI G 120 si)) (gWr_wr (gWr M A (.inr (11, oMod a (upd s 22 (nI ((n - 1)))) c))) (a 17) (aI G 120 ci) (aI G 120 (dsF ci i (n - 1)))))))).trans (gWr_wr (gWr (gWr M A (.inr (11, oMod a (upd s 22 (nI ((n - 1)))) c))) (a 17) (aI G 120 (dsF ci i (n - 1)))) (a 18) (aI G 120 si) (aI G 120 (dsF si i (n - 1)))))).tr ?_
          refine Go.trp 72 (go_goto 72 d_Mod_clean_66 (by decide)) rfl ?_
          refine Go.trp 2 (go_goto 2 d_Mod_clean_72 (by decide)) rfl ?_
          have eg : k1B ci i = true := by first | (simp [k1B, *]; done) | (clear ih; subst c1x; simp_all [k1B]; done)
          refine (go_pick [0, 1] [(0, .ref A), (1, .int (nI i))] rfl).tr ?_
          rw [show clF k1B (r + 1) i n ci si = clF k1B r i (n - 1) (dsF ci i (n - 1)) (dsF si i (n - 1)) from if_pos eg]
          exact ih i (n - 1) _ _ (by omega) (by omega)
        · refine Go.trp 69 (go_icmp_ne_t 69 d_Mod_clean_54 (by decide) (c4)) rfl ?_
          refine Go.trp 72 (go_inc1 (n0 := 1) (x := i) [(1, .int (nI (i + 1))), (0, .ref A), (2, .int 1)] d_Mod_clean_69 rfl (by decide) rfl) rfl ?_
          refine (go_pick [1, 0, 2] [(0, .ref A), (1, .int (nI (i + 1))), (2, .int 1)] rfl).tr ?_
          refine Go.trp 2 (go_goto 2 d_Mod_clean_72 (by decide)) rfl ?_
          have eg : k1B ci i = false := by first | (simp [k1B, *]; done) | (clear ih; subst c1x; simp_all [k1B]; done)
          refine (go_pick [0, 1] [(0, .ref A), (1, .int (nI (i + 1)))] rfl).tr ?_
          rw [show clF k1B (r + 1) i n ci si = clF k1B r (i + 1) n ci si from if_neg (by rw [eg]; decide)]
          exact ih (i + 1) n _ _ (by omega) (by omega)
      · refine Go.trp 27 (go_icmp_eq_f 40 d_Mod_clean_24 (by decide) (c3)) rfl ?_
        refine Go.trp 28 (go_aload_n d_Mod_clean_27 rfl 0 rfl) rfl ?_
        refine Go.trp 31 (go_get f_Mod_46 d_Mod_clean_28 ((gRd_n _ _ (hI.2 18)).trans ((gRd_n _ _ (hI.2 17)).trans (gRd_s _ _ _))) rfl) rfl ?_
        refine Go.trp 32 (go_iload_n d_Mod_clean_31 rfl 1 rfl) rfl ?_
        refine Go.trp 33 (go_iconst (v := 1) d_Mod_clean_32 (by decide)) rfl ?_
        refine Go.trp 34 (go_isub d_Mod_clean_33) rfl ?_
        refine (go_v (y := nI (i - 1)) (pk_sub (b := 1) (by omega))).tr ?_
        refine Go.trp 35 (go_iald (j := (i - 1)) d_Mod_clean_34 ((gRd_n _ _ (hI.n (i := 17) (j := 18) (by decide))).trans (gRd_s _ _ _)) (rfl) (by omega) (by omega)) rfl ?_
        refine Go.trp 37 (go_bipush (v := 124) d_Mod_clean_35 (by decide)) rfl ?_
        by_cases c5 : (ci (i - 1)) = 124
        · refine Go.trp 40 (go_icmp_ne_f 44 d_Mod_clean_37 (by decide) (c5)) rfl ?_
          refine Go.trp 41 (go_iconst (v := 1) d_Mod_clean_40 (by decide)) rfl ?_
          refine Go.trp 45 (go_goto 45 d_Mod_clean_41 (by decide)) rfl ?_
          refine Go.trp 46 (go_istore_n [(2, .int 1), (0, .ref A), (1, .int (nI i))] d_Mod_clean_45 rfl (by decide) rfl) rfl ?_
          refine (go_pick [1, 2, 0] [(0, .ref A), (1, .int (nI i)), (2, .int 1)] rfl).tr ?_
          refine Go.trp 47 (go_aload_n d_Mod_clean_46 rfl 0 rfl) rfl ?_
          refine Go.trp 50 (go_get f_Mod_46 d_Mod_clean_47 ((gRd_n _ _ (hI.2 18)).trans ((gRd_n _ _ (hI.2 17)).trans (gRd_s _ _ _))) rfl) rfl ?_
          refine Go.trp 51 (go_iload_n d_Mod_clean_50 rfl 1 rfl) rfl ?_
          refine Go.trp 52 (go_iald (j := i) d_Mod_clean_51 ((gRd_n _ _ (hI.n (i := 17) (j := 18) (by decide))).trans (gRd_s _ _ _)) (rfl) (by omega) (by omega)) rfl ?_
          refine Go.trp 54 (go_bipush (v := 32) d_Mod_clean_52 (by decide)) rfl ?_
          by_cases c6 : (ci i) = 32
          · refine Go.trp 57 (go_icmp_ne_f 69 d_Mod_clean_54 (by decide) (c6)) rfl ?_
            refine Go.trp 58 (go_iload_n d_Mod_clean_57 rfl 2 rfl) rfl ?_
            refine Go.trp 61 (go_if_eq_f 69 d_Mod_clean_58 (by decide) (by decide)) rfl ?_
            refine Go.trp 62 (go_aload_n d_Mod_clean_61 rfl 0 rfl) rfl ?_
            refine Go.trp 63 (go_iload_n d_Mod_clean_62 rfl 1 rfl) rfl ?_
            refine Go.trp 66 (go_callV [.int (nI i)] [] c0_Mod_drop im_Mod_drop se_Mod_drop lk_Mod_149 d_Mod_clean_63 rfl rfl ((gRd_n _ _ (hI.2 18)).trans ((gRd_n _ _ (hI.2 17)).trans (gRd_s _ _ _))) (e_Mod_drop G _ A a (upd s 22 (nI n)) c ci si (n - 1) i hI ((gRd_n _ _ (hI.2 18)).trans ((gRd_n _ _ (hI.2 17)).trans (gRd_s _ _ _))) ((gRd_n _ _ (hI.n (i := 17) (j := 18) (by decide))).trans (gRd_s _ _ _)) (gRd_s _ _ _) (by show nI n = nI (n - 1 + 1); rw [Nat.sub_add_cancel (by omega)]) (by omega) (by omega)) (by decide) rfl rfl (Nat.le_of_ble_eq_true rfl) rfl) rfl ?_
            refine (go_m (M' := (gWr (gWr (gWr M A (.inr (11, oMod a (upd s 22 (nI ((n - 1)))) c))) (a 17) (aI G 120 (dsF ci i (n - 1)))) (a 18) (aI G 120 (dsF si i (n - 1))))) ((congrArg (fun mZ => gWr mZ (a 18) (aI G 120 (dsF si i (n - 1)))) ((congrArg (fun mZ => gWr mZ (a 17) (aI G 120 (dsF ci i (n - 1)))) ((gWr_cm (gWr (gWr M A (.inr (11, oMod a (upd s 22 (nI n)) c))) (a 17) (aI G 120 ci)) (aI G 120 si) (.inr (11, oMod a (upd s 22 (nI ((n - 1)))) c)) (Ne.symm (hI.2 18))).trans (congrArg (fun mZ => gWr mZ (a 18) (aI G 120 si)) ((gWr_cm (gWr M A (.inr (11, oMod a (upd s 22 (nI n)) c))) (aI G 120 ci) (.inr (11, oMod a (upd s 22 (nI ((n - 1)))) c)) (Ne.symm (hI.2 17))).trans (congrArg (fun mZ => gWr mZ (a 17) (aI G 120 ci)) (gWr_wr M A (.inr (11, oMod a (upd s 22 (nI n)) c)) (.inr (11, oMod a (upd s 22 (nI ((n - 1)))) c)))))))).trans ((gWr_cm (gWr (gWr M A (.inr (11, oMod a (upd s 22 (nI ((n - 1)))) c))) (a 17) (aI G 120 ci)) (aI G 120 si) (aI G 120 (dsF ci i (n - 1))) (hI.n (i := 18) (j := 17) (by decide))).trans (congrArg (fun mZ => gWr mZ (a 18) (aI G 120 si)) (gWr_wr (gWr M A (.inr (11, oMod a (upd s 22 (nI ((n - 1)))) c))) (a 17) (aI G 120 ci) (aI G 120 (dsF ci i (n - 1)))))))).trans (gWr_wr (gWr (gWr M A (.inr (11, oMod a (upd s 22 (nI ((n - 1)))) c))) (a 17) (aI G 120 (dsF ci i (n - 1)))) (a 18) (aI G 120 si) (aI G 120 (dsF si i (n - 1)))))).tr ?_
            refine Go.trp 72 (go_goto 72 d_Mod_clean_66 (by decide)) rfl ?_
            refine Go.trp 2 (go_goto 2 d_Mod_clean_72 (by decide)) rfl ?_
            have eg : k1B ci i = true := by first | (simp [k1B, *]; done) | (clear ih; subst c1x; simp_all [k1B]; done)
            refine (go_pick [0, 1] [(0, .ref A), (1, .int (nI i))] rfl).tr ?_
            rw [show clF k1B (r + 1) i n ci si = clF k1B r i (n - 1) (dsF ci i (n - 1)) (dsF si i (n - 1)) from if_pos eg]
            exact ih i (n - 1) _ _ (by omega) (by omega)
          · refine Go.trp 69 (go_icmp_ne_t 69 d_Mod_clean_54 (by decide) (c6)) rfl ?_
            refine Go.trp 72 (go_inc1 (n0 := 1) (x := i) [(1, .int (nI (i + 1))), (0, .ref A), (2, .int 1)] d_Mod_clean_69 rfl (by decide) rfl) rfl ?_
            refine (go_pick [1, 0, 2] [(0, .ref A), (1, .int (nI (i + 1))), (2, .int 1)] rfl).tr ?_
            refine Go.trp 2 (go_goto 2 d_Mod_clean_72 (by decide)) rfl ?_
            have eg : k1B ci i = false := by first | (simp [k1B, *]; done) | (clear ih; subst c1x; simp_all [k1B]; done)
            refine (go_pick [0, 1] [(0, .ref A), (1, .int (nI (i + 1)))] rfl).tr ?_
            rw [show clF k1B (r + 1) i n ci si = clF k1B r (i + 1) n ci si from if_neg (by rw [eg]; decide)]
            exact ih (i + 1) n _ _ (by omega) (by omega)
        · refine Go.trp 44 (go_icmp_ne_t 44 d_Mod_clean_37 (by decide) (c5)) rfl ?_
          refine Go.trp 45 (go_iconst (v := 0) d_Mod_clean_44 (by decide)) rfl ?_
          refine Go.trp 46 (go_istore_n [(2, .int 0), (0, .ref A), (1, .int (nI i))] d_Mod_clean_45 rfl (by decide) rfl) rfl ?_
          refine (go_pick [1, 2, 0] [(0, .ref A), (1, .int (nI i)), (2, .int 0)] rfl).tr ?_
          refine Go.trp 47 (go_aload_n d_Mod_clean_46 rfl 0 rfl) rfl ?_
          refine Go.trp 50 (go_get f_Mod_46 d_Mod_clean_47 ((gRd_n _ _ (hI.2 18)).trans ((gRd_n _ _ (hI.2 17)).trans (gRd_s _ _ _))) rfl) rfl ?_
          refine Go.trp 51 (go_iload_n d_Mod_clean_50 rfl 1 rfl) rfl ?_
          refine Go.trp 52 (go_iald (j := i) d_Mod_clean_51 ((gRd_n _ _ (hI.n (i := 17) (j := 18) (by decide))).trans (gRd_s _ _ _)) (rfl) (by omega) (by omega)) rfl ?_
          refine Go.trp 54 (go_bipush (v := 32) d_Mod_clean_52 (by decide)) rfl ?_
          by_cases c7 : (ci i) = 32
          · refine Go.trp 57 (go_icmp_ne_f 69 d_Mod_clean_54 (by decide) (c7)) rfl ?_
            refine Go.trp 58 (go_iload_n d_Mod_clean_57 rfl 2 rfl) rfl ?_
            refine Go.trp 69 (go_if_eq_t 69 d_Mod_clean_58 (by decide) (by decide)) rfl ?_
            refine Go.trp 72 (go_inc1 (n0 := 1) (x := i) [(1, .int (nI (i + 1))), (0, .ref A), (2, .int 0)] d_Mod_clean_69 rfl (by decide) rfl) rfl ?_
            refine (go_pick [1, 0, 2] [(0, .ref A), (1, .int (nI (i + 1))), (2, .int 0)] rfl).tr ?_
            refine Go.trp 2 (go_goto 2 d_Mod_clean_72 (by decide)) rfl ?_
            have eg : k1B ci i = false := by first | (simp [k1B, *]; done) | (clear ih; subst c1x; simp_all [k1B]; done)
            refine (go_pick [0, 1] [(0, .ref A), (1, .int (nI (i + 1)))] rfl).tr ?_
            rw [show clF k1B (r + 1) i n ci si = clF k1B r (i + 1) n ci si from if_neg (by rw [eg]; decide)]
            exact ih (i + 1) n _ _ (by omega) (by omega)
          · refine Go.trp 69 (go_icmp_ne_t 69 d_Mod_clean_54 (by decide) (c7)) rfl ?_
            refine Go.trp 72 (go_inc1 (n0 := 1) (x := i) [(1, .int (nI (i + 1))), (0, .ref A), (2, .int 0)] d_Mod_clean_69 rfl (by decide) rfl) rfl ?_
            refine (go_pick [1, 0, 2] [(0, .ref A), (1, .int (nI (i + 1))), (2, .int 0)] rfl).tr ?_
            refine Go.trp 2 (go_goto 2 d_Mod_clean_72 (by decide)) rfl ?_
            have eg : k1B ci i = false := by first | (simp [k1B, *]; done) | (clear ih; subst c1x; simp_all [k1B]; done)
            refine (go_pick [0, 1] [(0, .ref A), (1, .int (nI (i + 1)))] rfl).tr ?_
            rw [show clF k1B (r + 1) i n ci si = clF k1B r (i + 1) n ci si from if_neg (by rw [eg]; decide)]
            exact ih (i + 1) n _ _ (by omega) (by omega)
theorem g_Mod_clean3 (G : gG) (M : gM) (A : Nat) (a : Nat → Nat) (s : Nat → Int32) (c : Int64) (hI : InjA A a) : ∀ (r i n : Nat) (ci si : Nat → Int32), i + r = n → n ≤ 120 → Go G m_Mod_clean 1 (133, [(0, .ref A), (1, .int (nI i))], [], (gWr (gWr (gWr M A (.inr (11, oMod a (upd s 22 (nI n)) c))) (a 17) (aI G 120 ci)) (a 18) (aI G 120 si))) (193, [(0, .ref A), (1, .int (nI ((clF k3B r i n ci si).1)))], [], (gWr (gWr (gWr M A (.inr (11, oMod a (upd s 22 (nI ((clF k3B r i n ci si).1))) c))) (a 17) (aI G 120 ((clF k3B r i n ci si).2.1))) (a 18) (aI G 120 ((clF k3B r i n ci si).2.2)))) := by
  intro r
  induction r with
  | zero =>
    intro i n ci si hi hn
    have e0 : i = n := by omega
    subst e0
    refine Go.trp 134 (go_iload_n d_Mod_clean_133 rfl 1 rfl) rfl ?_
    refine Go.trp 135 (go_aload_n d_Mod_clean_134 rfl 0 rfl) rfl ?_
    refine Go.trp 138 (go_get f_Mod_142 d_Mod_clean_135 ((gRd_n _ _ (hI.2 18)).trans ((gRd_n _ _ (hI.2 17)).trans (gRd_s _ _ _))) rfl) rfl ?_
    refine Go.trp 193 (go_icmp_ge_t 193 d_Mod_clean_138 (by decide) (nI_le (Nat.le_refl i) (by omega))) rfl ?_
    exact Go.rf
  | succ r ih =>
    intro i n ci si hi hn
    refine Go.trp 134 (go_iload_n d_Mod_clean_133 rfl 1 rfl) rfl ?_
    refine Go.trp 135 (go_aload_n d_Mod_clean_134 rfl 0 rfl) rfl ?_
    refine Go.trp 138 (go_get f_Mod_142 d_Mod_clean_135 ((gRd_n _ _ (hI.2 18)).trans ((gRd_n _ _ (hI.2 17)).trans (gRd_s _ _ _))) rfl) rfl ?_
    refine Go.trp 141 (go_icmp_ge_f 193 d_Mod_clean_138 (by decide) (nI_ge (by omega) (by omega))) rfl ?_
    refine Go.trp 142 (go_iload_n d_Mod_clean_141 rfl 1 rfl) rfl ?_
    by_cases c1 : (nI i) = 0
    · have c1x : i = 0 := (nI_eq (a := i) (b := 0) (by omega) (by decide)).mp c1
      refine Go.trp 158 (go_if_eq_t 158 d_Mod_clean_142 (by decide) (c1)) rfl ?_
      refine Go.trp 159 (go_iconst (v := 1) d_Mod_clean_158 (by decide)) rfl ?_
      refine Go.trp 163 (go_goto 163 d_Mod_clean_159 (by decide)) rfl ?_
      refine Go.trp 164 (go_istore_n [(2, .int 1), (0, .ref A), (1, .int (nI i))] d_Mod_clean_163 rfl (by decide) rfl) rfl ?_
      refine (go_pick [1, 2, 0] [(0, .ref A), (1, .int (nI i)), (2, .int 1)] rfl).tr ?_
      refine Go.trp 165 (go_aload_n d_Mod_clean_164 rfl 0 rfl) rfl ?_
      refine Go.trp 168 (go_get f_Mod_46 d_Mod_clean_165 ((gRd_n _ _ (hI.2 18)).trans ((gRd_n _ _ (hI.2 17)).trans (gRd_s _ _ _))) rfl) rfl ?_
      refine Go.trp 169 (go_iload_n d_Mod_clean_168 rfl 1 rfl) rfl ?_
      refine Go.trp 170 (go_iald (j := i) d_Mod_clean_169 ((gRd_n _ _ (hI.n (i := 17) (j := 18) (by decide))).trans (gRd_s _ _ _)) (rfl) (by omega) (by omega)) rfl ?_
      refine Go.trp 172 (go_bipush (v := 124) d_Mod_clean_170 (by decide)) rfl ?_
      by_cases c2 : (ci i) = 124
      · refine Go.trp 175 (go_icmp_ne_f 187 d_Mod_clean_172 (by decide) (c2)) rfl ?_
        refine Go.trp 176 (go_iload_n d_Mod_clean_175 rfl 2 rfl) rfl ?_
        refine Go.trp 179 (go_if_eq_f 187 d_Mod_clean_176 (by decide) (by decide)) rfl ?_
        refine Go.trp 180 (go_aload_n d_Mod_clean_179 rfl 0 rfl) rfl ?_
        refine Go.trp 181 (go_iload_n d_Mod_clean_180 rfl 1 rfl) rfl ?_
        refine Go.trp 184 (go_callV [.int (nI i)] [] c0_Mod_drop im_Mod_drop se_Mod_drop lk_Mod_149 d_Mod_clean_181 rfl rfl ((gRd_n _ _ (hI.2 18)).trans ((gRd_n _ _ (hI.2 17)).trans (gRd_s _ _ _))) (e_Mod_drop G _ A a (upd s 22 (nI n)) c ci si (n - 1) i hI ((gRd_n _ _ (hI.2 18)).trans ((gRd_n _ _ (hI.2 17)).trans (gRd_s _ _ _))) ((gRd_n _ _ (hI.n (i := 17) (j := 18) (by decide))).trans (gRd_s _ _ _)) (gRd_s _ _ _) (by show nI n = nI (n - 1 + 1); rw [Nat.sub_add_cancel (by omega)]) (by omega) (by omega)) (by decide) rfl rfl (Nat.le_of_ble_eq_true rfl) rfl) rfl ?_
        refine (go_m (M' := (gWr (gWr (gWr M A (.inr (11, oMod a (upd s 22 (nI ((n - 1)))) c))) (a 17) (aI G 120 (dsF ci i (n - 1)))) (a 18) (aI G 120 (dsF si i (n - 1))))) ((congrArg (fun mZ => gWr mZ (a 18) (aI G 120 (dsF si i (n - 1)))) ((congrArg (fun mZ => gWr mZ (a 17) (aI G 120 (dsF ci i (n - 1)))) ((gWr_cm (gWr (gWr M A (.inr (11, oMod a (upd s 22 (nI n)) c))) (a 17) (aI G 120 ci)) (aI G 120 si) (.inr (11, oMod a (upd s 22 (nI ((n - 1)))) c)) (Ne.symm (hI.2 18))).trans (congrArg (fun mZ => gWr mZ (a 18) (aI G 120 si)) ((gWr_cm (gWr M A (.inr (11, oMod a (upd s 22 (nI n)) c))) (aI G 120 ci) (.inr (11, oMod a (upd s 22 (nI ((n - 1)))) c)) (Ne.symm (hI.2 17))).trans (congrArg (fun mZ => gWr mZ (a 17) (aI G 120 ci)) (gWr_wr M A (.inr (11, oMod a (upd s 22 (nI n)) c)) (.inr (11, oMod a (upd s 22 (nI ((n - 1)))) c)))))))).trans ((gWr_cm (gWr (gWr M A (.inr (11, oMod a (upd s 22 (nI ((n - 1)))) c))) (a 17) (aI G 120 ci)) (aI G 120 si) (aI G 120 (dsF ci i (n - 1))) (hI.n (i := 18) (j := 17) (by decide))).trans (congrArg (fun mZ => gWr mZ (a 18) (aI G 120 si)) (gWr_wr (gWr M A (.inr (11, oMod a (upd s 22 (nI ((n - 1)))) c))) (a 17) (aI G 120 ci) (aI G 120 (dsF ci i (n - 1)))))))).trans (gWr_wr (gWr (gWr M A (.inr (11, oMod a (upd s 22 (nI ((n - 1)))) c))) (a 17) (aI G 120 (dsF ci i (n - 1)))) (a 18) (aI G 120 si) (aI G 120 (dsF si i (n - 1)))))).tr ?_
        refine Go.trp 190 (go_goto 190 d_Mod_clean_184 (by decide)) rfl ?_
        refine Go.trp 133 (go_goto 133 d_Mod_clean_190 (by decide)) rfl ?_
        have eg : k3B ci i = true := by first | (simp [k3B, *]; done) | (clear ih; subst c1x; simp_all [k3B]; done)
        refine (go_pick [0, 1] [(0, .ref A), (1, .int (nI i))] rfl).tr ?_
        rw [show clF k3B (r + 1) i n ci si = clF k3B r i (n - 1) (dsF ci i (n - 1)) (dsF si i (n - 1)) from if_pos eg]
        exact ih i (n - 1) _ _ (by omega) (by omega)
      · refine Go.trp 187 (go_icmp_ne_t 187 d_Mod_clean_172 (by decide) (c2)) rfl ?_
        refine Go.trp 190 (go_inc1 (n0 := 1) (x := i) [(1, .int (nI (i + 1))), (0, .ref A), (2, .int 1)] d_Mod_clean_187 rfl (by decide) rfl) rfl ?_
        refine (go_pick [1, 0, 2] [(0, .ref A), (1, .int (nI (i + 1))), (2, .int 1)] rfl).tr ?_
        refine Go.trp 133 (go_goto 133 d_Mod_clean_190 (by decide)) rfl ?_
        have eg : k3B ci i = false := by first | (simp [k3B, *]; done) | (clear ih; subst c1x; simp_all [k3B]; done)
        refine (go_pick [0, 1] [(0, .ref A), (1, .int (nI (i + 1)))] rfl).tr ?_
        rw [show clF k3B (r + 1) i n ci si = clF k3B r (i + 1) n ci si from if_neg (by rw [eg]; decide)]
        exact ih (i + 1) n _ _ (by omega) (by omega)
    · have c1x : ¬ i = 0 := fun q9 => c1 ((nI_eq (a := i) (b := 0) (by omega) (by decide)).mpr q9)
      refine Go.trp 145 (go_if_eq_f 158 d_Mod_clean_142 (by decide) (c1)) rfl ?_
      refine Go.trp 146 (go_aload_n d_Mod_clean_145 rfl 0 rfl) rfl ?_
      refine Go.trp 149 (go_get f_Mod_46 d_Mod_clean_146 ((gRd_n _ _ (hI.2 18)).trans ((gRd_n _ _ (hI.2 17)).trans (gRd_s _ _ _))) rfl) rfl ?_
      refine Go.trp 150 (go_iload_n d_Mod_clean_149 rfl 1 rfl) rfl ?_
      refine Go.trp 151 (go_iconst (v := 1) d_Mod_clean_150 (by decide)) rfl ?_
      refine Go.trp 152 (go_isub d_Mod_clean_151) rfl ?_
      refine (go_v (y := nI (i - 1)) (pk_sub (b := 1) (by omega))).tr ?_
      refine Go.trp 153 (go_iald (j := (i - 1)) d_Mod_clean_152 ((gRd_n _ _ (hI.n (i := 17) (j := 18) (by decide))).trans (gRd_s _ _ _)) (rfl) (by omega) (by omega)) rfl ?_
      refine Go.trp 155 (go_bipush (v := 124) d_Mod_clean_153 (by decide)) rfl ?_
      by_cases c3 : (ci (i - 1)) = 124
      · refine Go.trp 158 (go_icmp_ne_f 162 d_Mod_clean_155 (by decide) (c3)) rfl ?_
        refine Go.trp 159 (go_iconst (v := 1) d_Mod_clean_158 (by decide)) rfl ?_
        refine Go.trp 163 (go_goto 163 d_Mod_clean_159 (by decide)) rfl ?_
        refine Go.trp 164 (go_istore_n [(2, .int 1), (0, .ref A), (1, .int (nI i))] d_Mod_clean_163 rfl (by decide) rfl) rfl ?_
        refine (go_pick [1, 2, 0] [(0, .ref A), (1, .int (nI i)), (2, .int 1)] rfl).tr ?_
        refine Go.trp 165 (go_aload_n d_Mod_clean_164 rfl 0 rfl) rfl ?_
        refine Go.trp 168 (go_get f_Mod_46 d_Mod_clean_165 ((gRd_n _ _ (hI.2 18)).trans ((gRd_n _ _ (hI.2 17)).trans (gRd_s _ _ _))) rfl) rfl ?_
        refine Go.trp 169 (go_iload_n d_Mod_clean_168 rfl 1 rfl) rfl ?_
        refine Go.trp 170 (go_iald (j := i) d_Mod_clean_169 ((gRd_n _ _ (hI.n (i := 17) (j := 18) (by decide))).trans (gRd_s _ _ _)) (rfl) (by omega) (by omega)) rfl ?_
        refine Go.trp 172 (go_bipush (v := 124) d_Mod_clean_170 (by decide)) rfl ?_
        by_cases c4 : (ci i) = 124
        · refine Go.trp 175 (go_icmp_ne_f 187 d_Mod_clean_172 (by decide) (c4)) rfl ?_
          refine Go.trp 176 (go_iload_n d_Mod_clean_175 rfl 2 rfl) rfl ?_
          refine Go.trp 179 (go_if_eq_f 187 d_Mod_clean_176 (by decide) (by decide)) rfl ?_
          refine Go.trp 180 (go_aload_n d_Mod_clean_179 rfl 0 rfl) rfl ?_
          refine Go.trp 181 (go_iload_n d_Mod_clean_180 rfl 1 rfl) rfl ?_
          refine Go.trp 184 (go_callV [.int (nI i)] [] c0_Mod_drop im_Mod_drop se_Mod_drop lk_Mod_149 d_Mod_clean_181 rfl rfl ((gRd_n _ _ (hI.2 18)).trans ((gRd_n _ _ (hI.2 17)).trans (gRd_s _ _ _))) (e_Mod_drop G _ A a (upd s 22 (nI n)) c ci si (n - 1) i hI ((gRd_n _ _ (hI.2 18)).trans ((gRd_n _ _ (hI.2 17)).trans (gRd_s _ _ _))) ((gRd_n _ _ (hI.n (i := 17) (j := 18) (by decide))).trans (gRd_s _ _ _)) (gRd_s _ _ _) (by show nI n = nI (n - 1 + 1); rw [Nat.sub_add_cancel (by omega)]) (by omega) (by omega)) (by decide) rfl rfl (Nat.le_of_ble_eq_true rfl) rfl) rfl ?_
          refine (go_m (M' := (gWr (gWr (gWr M A (.inr (11, oMod a (upd s 22 (nI ((n - 1)))) c))) (a 17) (aI G 120 (dsF ci i (n - 1)))) (a 18) (aI G 120 (dsF si i (n - 1))))) ((congrArg (fun mZ => gWr mZ (a 18) (aI G 120 (dsF si i (n - 1)))) ((congrArg (fun mZ => gWr mZ (a 17) (aI G 120 (dsF ci i (n - 1)))) ((gWr_cm (gWr (gWr M A (.inr (11, oMod a (upd s 22 (nI n)) c))) (a 17) (aI G 120 ci)) (aI G 120 si) (.inr (11, oMod a (upd s 22 (nI ((n - 1)))) c)) (Ne.symm (hI.2 18))).trans (congrArg (fun mZ => gWr mZ (a 18) (aI G 120 si)) ((gWr_cm (gWr M A (.inr (11, oMod a (upd s 22 (nI n)) c))) (aI G 120 ci) (.inr (11, oMod a (upd s 22 (nI ((n - 1)))) c)) (Ne.symm (hI.2 17))).trans (congrArg (fun mZ => gWr mZ (a 17) (aI G 120 ci)) (gWr_wr M A (.inr (11, oMod a (upd s 22 (nI n)) c)) (.inr (11, oMod a (upd s 22 (nI ((n - 1)))) c)))))))).trans ((gWr_cm (gWr (gWr M A (.inr (11, oMod a (upd s 22 (nI ((n - 1)))) c))) (a 17) (aI G 120 ci)) (aI G 120 si) (aI G 120 (dsF ci i (n - 1))) (hI.n (i := 18) (j := 17) (by decide))).trans (congrArg (fun mZ => gWr mZ (a 18) (aI G 120 si)) (gWr_wr (gWr M A (.inr (11, oMod a (upd s 22 (nI ((n - 1)))) c))) (a 17) (aI G 120 ci) (aI G 120 (dsF ci i (n - 1)))))))).trans (gWr_wr (gWr (gWr M A (.inr (11, oMod a (upd s 22 (nI ((n - 1)))) c))) (a 17) (aI G 120 (dsF ci i (n - 1)))) (a 18) (aI G 120 si) (aI G 120 (dsF si i (n - 1)))))).tr ?_
          refine Go.trp 190 (go_goto 190 d_Mod_clean_184 (by decide)) rfl ?_
          refine Go.trp 133 (go_goto 133 d_Mod_clean_190 (by decide)) rfl ?_
          have eg : k3B ci i = true := by first | (simp [k3B, *]; done) | (clear ih; subst c1x; simp_all [k3B]; done)
          refine (go_pick [0, 1] [(0, .ref A), (1, .int (nI i))] rfl).tr ?_
          rw [show clF k3B (r + 1) i n ci si = clF k3B r i (n - 1) (dsF ci i (n - 1)) (dsF si i (n - 1)) from if_pos eg]
          exact ih i (n - 1) _ _ (by omega) (by omega)
        · refine Go.trp 187 (go_icmp_ne_t 187 d_Mod_clean_172 (by decide) (c4)) rfl ?_
          refine Go.trp 190 (go_inc1 (n0 := 1) (x := i) [(1, .int (nI (i + 1))), (0, .ref A), (2, .int 1)] d_Mod_clean_187 rfl (by decide) rfl) rfl ?_
          refine (go_pick [1, 0, 2] [(0, .ref A), (1, .int (nI (i + 1))), (2, .int 1)] rfl).tr ?_
          refine Go.trp 133 (go_goto 133 d_Mod_clean_190 (by decide)) rfl ?_
          have eg : k3B ci i = false := by first | (simp [k3B, *]; done) | (clear ih; subst c1x; simp_all [k3B]; done)
          refine (go_pick [0, 1] [(0, .ref A), (1, .int (nI (i + 1)))] rfl).tr ?_
          rw [show clF k3B (r + 1) i n ci si = clF k3B r (i + 1) n ci si from if_neg (by rw [eg]; decide)]
          exact ih (i + 1) n _ _ (by omega) (by omega)
      · refine Go.trp 162 (go_icmp_ne_t 162 d_Mod_clean_155 (by decide) (c3)) rfl ?_
        refine Go.trp 163 (go_iconst (v := 0) d_Mod_clean_162 (by decide)) rfl ?_
        refine Go.trp 164 (go_istore_n [(2, .int 0), (0, .ref A), (1, .int (nI i))] d_Mod_clean_163 rfl (by decide) rfl) rfl ?_
        refine (go_pick [1, 2, 0] [(0, .ref A), (1, .int (nI i)), (2, .int 0)] rfl).tr ?_
        refine Go.trp 165 (go_aload_n d_Mod_clean_164 rfl 0 rfl) rfl ?_
        refine Go.trp 168 (go_get f_Mod_46 d_Mod_clean_165 ((gRd_n _ _ (hI.2 18)).trans ((gRd_n _ _ (hI.2 17)).trans (gRd_s _ _ _))) rfl) rfl ?_
        refine Go.trp 169 (go_iload_n d_Mod_clean_168 rfl 1 rfl) rfl ?_
        refine Go.trp 170 (go_iald (j := i) d_Mod_clean_169 ((gRd_n _ _ (hI.n (i := 17) (j := 18) (by decide))).trans (gRd_s _ _ _)) (rfl) (by omega) (by omega)) rfl ?_
        refine Go.trp 172 (go_bipush (v := 124) d_Mod_clean_170 (by decide)) rfl ?_
        by_cases c5 : (ci i) = 124
        · refine Go.trp 175 (go_icmp_ne_f 187 d_Mod_clean_172 (by decide) (c5)) rfl ?_
          refine Go.trp 176 (go_iload_n d_Mod_clean_175 rfl 2 rfl) rfl ?_
          refine Go.trp 187 (go_if_eq_t 187 d_Mod_clean_176 (by decide) (by decide)) rfl ?_
          refine Go.trp 190 (go_inc1 (n0 := 1) (x := i) [(1, .int (nI (i + 1))), (0, .ref A), (2, .int 0)] d_Mod_clean_187 rfl (by decide) rfl) rfl ?_
          refine (go_pick [1, 0, 2] [(0, .ref A), (1, .int (nI (i + 1))), (2, .int 0)] rfl).tr ?_
          refine Go.trp 133 (go_goto 133 d_Mod_clean_190 (by decide)) rfl ?_
          have eg : k3B ci i = false := by first | (simp [k3B, *]; done) | (clear ih; subst c1x; simp_all [k3B]; done)
          refine (go_pick [0, 1] [(0, .ref A), (1, .int (nI (i + 1)))] rfl).tr ?_
          rw [show clF k3B (r + 1) i n ci si = clF k3B r (i + 1) n ci si from if_neg (by rw [eg]; decide)]
          exact ih (i + 1) n _ _ (by omega) (by omega)
        · refine Go.trp 187 (go_icmp_ne_t 187 d_Mod_clean_172 (by decide) (c5)) rfl ?_
          refine Go.trp 190 (go_inc1 (n0 := 1) (x := i) [(1, .int (nI (i + 1))), (0, .ref A), (2, .int 0)] d_Mod_clean_187 rfl (by decide) rfl) rfl ?_
          refine (go_pick [1, 0, 2] [(0, .ref A), (1, .int (nI (i + 1))), (2, .int 0)] rfl).tr ?_
          refine Go.trp 133 (go_goto 133 d_Mod_clean_190 (by decide)) rfl ?_
          have eg : k3B ci i = false := by first | (simp [k3B, *]; done) | (clear ih; subst c1x; simp_all [k3B]; done)
          refine (go_pick [0, 1] [(0, .ref A), (1, .int (nI (i + 1)))] rfl).tr ?_
          rw [show clF k3B (r + 1) i n ci si = clF k3B r (i + 1) n ci si from if_neg (by rw [eg]; decide)]
          exact ih (i + 1) n _ _ (by omega) (by omega)
theorem g_Mod_clean2 (G : gG) (M : gM) (A : Nat) (a : Nat → Nat) (s : Nat → Int32) (c : Int64) (hI : InjA A a) : ∀ (i n : Nat) (ci si : Nat → Int32), i ≤ n → n ≤ 120 → Go G m_Mod_clean 1 (82, [(0, .ref A), (1, .int (nI i - 1))], [], (gWr (gWr (gWr M A (.inr (11, oMod a (upd s 22 (nI n)) c))) (a 17) (aI G 120 ci)) (a 18) (aI G 120 si))) (131, [(0, .ref A), (1, .int (-1))], [], (gWr (gWr (gWr M A (.inr (11, oMod a (upd s 22 (nI ((cdF i n ci si).1))) c))) (a 17) (aI G 120 ((cdF i n ci si).2.1))) (a 18) (aI G 120 ((cdF i n ci si).2.2)))) := by
  intro i
  induction i with
  | zero =>
    intro n ci si hi hn
    refine Go.trp 83 (go_iload_n d_Mod_clean_82 rfl 1 rfl) rfl ?_
    refine Go.trp 131 (go_if_lt_t 131 d_Mod_clean_83 (by decide) (by decide)) rfl ?_
    exact Go.rf
  | succ i ih =>
    intro n ci si hi hn
    rw [show nI (i + 1) - 1 = nI i from pk_sub (a := i + 1) (b := 1) (by omega)]
    refine Go.trp 83 (go_iload_n d_Mod_clean_82 rfl 1 rfl) rfl ?_
    refine Go.trp 86 (go_if_lt_f 131 d_Mod_clean_83 (by decide) (Int32.not_lt.mpr (nI_le (Nat.zero_le i) (by omega)))) rfl ?_
    refine Go.trp 87 (go_aload_n d_Mod_clean_86 rfl 0 rfl) rfl ?_
    refine Go.trp 90 (go_get f_Mod_46 d_Mod_clean_87 ((gRd_n _ _ (hI.2 18)).trans ((gRd_n _ _ (hI.2 17)).trans (gRd_s _ _ _))) rfl) rfl ?_
    refine Go.trp 91 (go_iload_n d_Mod_clean_90 rfl 1 rfl) rfl ?_
    refine Go.trp 92 (go_iald (j := i) d_Mod_clean_91 ((gRd_n _ _ (hI.n (i := 17) (j := 18) (by decide))).trans (gRd_s _ _ _)) (rfl) (by omega) (by omega)) rfl ?_
    refine Go.trp 94 (go_bipush (v := 32) d_Mod_clean_92 (by decide)) rfl ?_
    by_cases c1 : (ci i) = 32
    · refine Go.trp 97 (go_icmp_ne_f 125 d_Mod_clean_94 (by decide) (c1)) rfl ?_
      refine Go.trp 98 (go_iload_n d_Mod_clean_97 rfl 1 rfl) rfl ?_
      refine Go.trp 99 (go_aload_n d_Mod_clean_98 rfl 0 rfl) rfl ?_
      refine Go.trp 102 (go_get f_Mod_142 d_Mod_clean_99 ((gRd_n _ _ (hI.2 18)).trans ((gRd_n _ _ (hI.2 17)).trans (gRd_s _ _ _))) rfl) rfl ?_
      refine Go.trp 103 (go_iconst (v := 1) d_Mod_clean_102 (by decide)) rfl ?_
      refine Go.trp 104 (go_isub d_Mod_clean_103) rfl ?_
      refine (go_v (y := nI (n - 1)) (pk_sub (b := 1) (by omega))).tr ?_
      by_cases c2 : (nI i) = (nI (n - 1))
      · have c2x : i = (n - 1) := (nI_eq (a := i) (b := (n - 1)) (by omega) (by omega)).mp c2
        refine Go.trp 120 (go_icmp_eq_t 120 d_Mod_clean_104 (by decide) (c2)) rfl ?_
        refine Go.trp 121 (go_aload_n d_Mod_clean_120 rfl 0 rfl) rfl ?_
        refine Go.trp 122 (go_iload_n d_Mod_clean_121 rfl 1 rfl) rfl ?_
        refine Go.trp 125 (go_callV [.int (nI i)] [] c0_Mod_drop im_Mod_drop se_Mod_drop lk_Mod_149 d_Mod_clean_122 rfl rfl ((gRd_n _ _ (hI.2 18)).trans ((gRd_n _ _ (hI.2 17)).trans (gRd_s _ _ _))) (e_Mod_drop G _ A a (upd s 22 (nI n)) c ci si (n - 1) i hI ((gRd_n _ _ (hI.2 18)).trans ((gRd_n _ _ (hI.2 17)).trans (gRd_s _ _ _))) ((gRd_n _ _ (hI.n (i := 17) (j := 18) (by decide))).trans (gRd_s _ _ _)) (gRd_s _ _ _) (by show nI n = nI (n - 1 + 1); rw [Nat.sub_add_cancel (by omega)]) (by omega) (by omega)) (by decide) rfl rfl (Nat.le_of_ble_eq_true rfl) rfl) rfl ?_
        refine (go_m (M' := (gWr (gWr (gWr M A (.inr (11, oMod a (upd s 22 (nI ((n - 1)))) c))) (a 17) (aI G 120 (dsF ci i (n - 1)))) (a 18) (aI G 120 (dsF si i (n - 1))))) ((congrArg (fun mZ => gWr mZ (a 18) (aI G 120 (dsF si i (n - 1)))) ((congrArg (fun mZ => gWr mZ (a 17) (aI G 120 (dsF ci i (n - 1)))) ((gWr_cm (gWr (gWr M A (.inr (11, oMod a (upd s 22 (nI n)) c))) (a 17) (aI G 120 ci)) (aI G 120 si) (.inr (11, oMod a (upd s 22 (nI ((n - 1)))) c)) (Ne.symm (hI.2 18))).trans (congrArg (fun mZ => gWr mZ (a 18) (aI G 120 si)) ((gWr_cm (gWr M A (.inr (11, oMod a (upd s 22 (nI n)) c))) (aI G 120 ci) (.inr (11, oMod a (upd s 22 (nI ((n - 1)))) c)) (Ne.symm (hI.2 17))).trans (congrArg (fun mZ => gWr mZ (a 17) (aI G 120 ci)) (gWr_wr M A (.inr (11, oMod a (upd s 22 (nI n)) c)) (.inr (11, oMod a (upd s 22 (nI ((n - 1)))) c)))))))).trans ((gWr_cm (gWr (gWr M A (.inr (11, oMod a (upd s 22 (nI ((n - 1)))) c))) (a 17) (aI G 120 ci)) (aI G 120 si) (aI G 120 (dsF ci i (n - 1))) (hI.n (i := 18) (j := 17) (by decide))).trans (congrArg (fun mZ => gWr mZ (a 18) (aI G 120 si)) (gWr_wr (gWr M A (.inr (11, oMod a (upd s 22 (nI ((n - 1)))) c))) (a 17) (aI G 120 ci) (aI G 120 (dsF ci i (n - 1)))))))).trans (gWr_wr (gWr (gWr M A (.inr (11, oMod a (upd s 22 (nI ((n - 1)))) c))) (a 17) (aI G 120 (dsF ci i (n - 1)))) (a 18) (aI G 120 si) (aI G 120 (dsF si i (n - 1)))))).tr ?_
        refine Go.trp 128 (go_iinc (n0 := 1) (v := nI i - 1) [(1, .int (nI i - 1)), (0, .ref A)] d_Mod_clean_125 rfl (by rw [ofIntm1, ← Int32.sub_eq_add_neg]) (by decide) rfl) rfl ?_
        refine (go_pick [1, 0] [(0, .ref A), (1, .int (nI i - 1))] rfl).tr ?_
        refine Go.trp 82 (go_goto 82 d_Mod_clean_128 (by decide)) rfl ?_
        rw [show cdF (i + 1) n ci si = cdF i (n - 1) (dsF ci i (n - 1)) (dsF si i (n - 1)) from if_pos ⟨by assumption, by first | (left; omega) | (right; assumption)⟩]
        exact ih (n - 1) _ _ (by omega) (by omega)
      · have c2x : ¬ i = (n - 1) := fun q9 => c2 ((nI_eq (a := i) (b := (n - 1)) (by omega) (by omega)).mpr q9)
        refine Go.trp 107 (go_icmp_eq_f 120 d_Mod_clean_104 (by decide) (c2)) rfl ?_
        refine Go.trp 108 (go_aload_n d_Mod_clean_107 rfl 0 rfl) rfl ?_
        refine Go.trp 111 (go_get f_Mod_46 d_Mod_clean_108 ((gRd_n _ _ (hI.2 18)).trans ((gRd_n _ _ (hI.2 17)).trans (gRd_s _ _ _))) rfl) rfl ?_
        refine Go.trp 112 (go_iload_n d_Mod_clean_111 rfl 1 rfl) rfl ?_
        refine Go.trp 113 (go_iconst (v := 1) d_Mod_clean_112 (by decide)) rfl ?_
        refine Go.trp 114 (go_iadd d_Mod_clean_113) rfl ?_
        refine (go_v (y := nI (i + 1)) (nI_1 i)).tr ?_
        refine Go.trp 115 (go_iald (j := (i + 1)) d_Mod_clean_114 ((gRd_n _ _ (hI.n (i := 17) (j := 18) (by decide))).trans (gRd_s _ _ _)) (rfl) (by omega) (by omega)) rfl ?_
        refine Go.trp 117 (go_bipush (v := 124) d_Mod_clean_115 (by decide)) rfl ?_
        by_cases c3 : (ci (i + 1)) = 124
        · refine Go.trp 120 (go_icmp_ne_f 125 d_Mod_clean_117 (by decide) (c3)) rfl ?_
          refine Go.trp 121 (go_aload_n d_Mod_clean_120 rfl 0 rfl) rfl ?_
          refine Go.trp 122 (go_iload_n d_Mod_clean_121 rfl 1 rfl) rfl ?_
          refine Go.trp 125 (go_callV [.int (nI i)] [] c0_Mod_drop im_Mod_drop se_Mod_drop lk_Mod_149 d_Mod_clean_122 rfl rfl ((gRd_n _ _ (hI.2 18)).trans ((gRd_n _ _ (hI.2 17)).trans (gRd_s _ _ _))) (e_Mod_drop G _ A a (upd s 22 (nI n)) c ci si (n - 1) i hI ((gRd_n _ _ (hI.2 18)).trans ((gRd_n _ _ (hI.2 17)).trans (gRd_s _ _ _))) ((gRd_n _ _ (hI.n (i := 17) (j := 18) (by decide))).trans (gRd_s _ _ _)) (gRd_s _ _ _) (by show nI n = nI (n - 1 + 1); rw [Nat.sub_add_cancel (by omega)]) (by omega) (by omega)) (by decide) rfl rfl (Nat.le_of_ble_eq_true rfl) rfl) rfl ?_
          refine (go_m (M' := (gWr (gWr (gWr M A (.inr (11, oMod a (upd s 22 (nI ((n - 1)))) c))) (a 17) (aI G 120 (dsF ci i (n - 1)))) (a 18) (aI G 120 (dsF si i (n - 1))))) ((congrArg (fun mZ => gWr mZ (a 18) (aI G 120 (dsF si i (n - 1)))) ((congrArg (fun mZ => gWr mZ (a 17) (aI G 120 (dsF ci i (n - 1)))) ((gWr_cm (gWr (gWr M A (.inr (11, oMod a (upd s 22 (nI n)) c))) (a 17) (aI G 120 ci)) (aI G 120 si) (.inr (11, oMod a (upd s 22 (nI ((n - 1)))) c)) (Ne.symm (hI.2 18))).trans (congrArg (fun mZ => gWr mZ (a 18) (aI G 120 si)) ((gWr_cm (gWr M A (.inr (11, oMod a (upd s 22 (nI n)) c))) (aI G 120 ci) (.inr (11, oMod a (upd s 22 (nI ((n - 1)))) c)) (Ne.symm (hI.2 17))).trans (congrArg (fun mZ => gWr mZ (a 17) (aI G 120 ci)) (gWr_wr M A (.inr (11, oMod a (upd s 22 (nI n)) c)) (.inr (11, oMod a (upd s 22 (nI ((n - 1)))) c)))))))).trans ((gWr_cm (gWr (gWr M A (.inr (11, oMod a (upd s 22 (nI ((n - 1)))) c))) (a 17) (aI G 120 ci)) (aI G 120 si) (aI G 120 (dsF ci i (n - 1))) (hI.n (i := 18) (j := 17) (by decide))).trans (congrArg (fun mZ => gWr mZ (a 18) (aI G 120 si)) (gWr_wr (gWr M A (.inr (11, oMod a (upd s 22 (nI ((n - 1)))) c))) (a 17) (aI G 120 ci) (aI G 120 (dsF ci i (n - 1)))))))).trans (gWr_wr (gWr (gWr M A (.inr (11, oMod a (upd s 22 (nI ((n - 1)))) c))) (a 17) (aI G 120 (dsF ci i (n - 1)))) (a 18) (aI G 120 si) (aI G 120 (dsF si i (n - 1)))))).tr ?_
          refine Go.trp 128 (go_iinc (n0 := 1) (v := nI i - 1) [(1, .int (nI i - 1)), (0, .ref A)] d_Mod_clean_125 rfl (by rw [ofIntm1, ← Int32.sub_eq_add_neg]) (by decide) rfl) rfl ?_
          refine (go_pick [1, 0] [(0, .ref A), (1, .int (nI i - 1))] rfl).tr ?_
          refine Go.trp 82 (go_goto 82 d_Mod_clean_128 (by decide)) rfl ?_
          rw [show cdF (i + 1) n ci si = cdF i (n - 1) (dsF ci i (n - 1)) (dsF si i (n - 1)) from if_pos ⟨by assumption, by first | (left; omega) | (right; assumption)⟩]
          exact ih (n - 1) _ _ (by omega) (by omega)
        · refine Go.trp 125 (go_icmp_ne_t 125 d_Mod_clean_117 (by decide) (c3)) rfl ?_
          refine Go.trp 128 (go_iinc (n0 := 1) (v := nI i - 1) [(1, .int (nI i - 1)), (0, .ref A)] d_Mod_clean_125 rfl (by rw [ofIntm1, ← Int32.sub_eq_add_neg]) (by decide) rfl) rfl ?_
          refine (go_pick [1, 0] [(0, .ref A), (1, .int (nI i - 1))] rfl).tr ?_
          refine Go.trp 82 (go_goto 82 d_Mod_clean_128 (by decide)) rfl ?_
          rw [show cdF (i + 1) n ci si = cdF i n ci si from if_neg (by rintro ⟨q1, q2 | q2⟩ <;> first | contradiction | omega)]
          exact ih n _ _ (by omega) (by omega)
    · refine Go.trp 125 (go_icmp_ne_t 125 d_Mod_clean_94 (by decide) (c1)) rfl ?_
      refine Go.trp 128 (go_iinc (n0 := 1) (v := nI i - 1) [(1, .int (nI i - 1)), (0, .ref A)] d_Mod_clean_125 rfl (by rw [ofIntm1, ← Int32.sub_eq_add_neg]) (by decide) rfl) rfl ?_
      refine (go_pick [1, 0] [(0, .ref A), (1, .int (nI i - 1))] rfl).tr ?_
      refine Go.trp 82 (go_goto 82 d_Mod_clean_128 (by decide)) rfl ?_
      rw [show cdF (i + 1) n ci si = cdF i n ci si from if_neg (by rintro ⟨q1, q2 | q2⟩ <;> first | contradiction | omega)]
      exact ih n _ _ (by omega) (by omega)
theorem g_Mod_clean4 (G : gG) (M : gM) (A : Nat) (a : Nat → Nat) (s : Nat → Int32) (c : Int64) (ci si : Nat → Int32) (hI : InjA A a) (x : Int32) : ∀ (n : Nat), n ≤ 120 → Go G m_Mod_clean 1 (193, [(0, .ref A), (1, .int x)], [], (gWr (gWr (gWr M A (.inr (11, oMod a (upd s 22 (nI n)) c))) (a 17) (aI G 120 ci)) (a 18) (aI G 120 si))) (229, [(0, .ref A), (1, .int x)], [], (gWr (gWr (gWr M A (.inr (11, oMod a (upd s 22 (nI (ctF ci n))) c))) (a 17) (aI G 120 ci)) (a 18) (aI G 120 si))) := by
  intro n
  induction n with
  | zero =>
    intro hn
    refine Go.trp 194 (go_aload_n d_Mod_clean_193 rfl 0 rfl) rfl ?_
    refine Go.trp 197 (go_get f_Mod_142 d_Mod_clean_194 ((gRd_n _ _ (hI.2 18)).trans ((gRd_n _ _ (hI.2 17)).trans (gRd_s _ _ _))) rfl) rfl ?_
    refine Go.trp 229 (go_if_le_t 229 d_Mod_clean_197 (by decide) (show nI 0 ≤ 0 by decide)) rfl ?_
    exact Go.rf
  | succ n ih =>
    intro hn
    refine Go.trp 194 (go_aload_n d_Mod_clean_193 rfl 0 rfl) rfl ?_
    refine Go.trp 197 (go_get f_Mod_142 d_Mod_clean_194 ((gRd_n _ _ (hI.2 18)).trans ((gRd_n _ _ (hI.2 17)).trans (gRd_s _ _ _))) rfl) rfl ?_
    refine Go.trp 200 (go_if_le_f 229 d_Mod_clean_197 (by decide) (fun q => absurd ((nI_leI (a := n + 1) (b := 0) (by omega) (by decide)).mp q) (by omega))) rfl ?_
    refine Go.trp 201 (go_aload_n d_Mod_clean_200 rfl 0 rfl) rfl ?_
    refine Go.trp 204 (go_get f_Mod_46 d_Mod_clean_201 ((gRd_n _ _ (hI.2 18)).trans ((gRd_n _ _ (hI.2 17)).trans (gRd_s _ _ _))) rfl) rfl ?_
    refine Go.trp 205 (go_aload_n d_Mod_clean_204 rfl 0 rfl) rfl ?_
    refine Go.trp 208 (go_get f_Mod_142 d_Mod_clean_205 ((gRd_n _ _ (hI.2 18)).trans ((gRd_n _ _ (hI.2 17)).trans (gRd_s _ _ _))) rfl) rfl ?_
    refine Go.trp 209 (go_iconst (v := 1) d_Mod_clean_208 (by decide)) rfl ?_
    refine Go.trp 210 (go_isub d_Mod_clean_209) rfl ?_
    refine (go_v (y := nI n) (pk_sub (a := n + 1) (b := 1) (by omega))).tr ?_
    refine Go.trp 211 (go_iald (j := n) d_Mod_clean_210 ((gRd_n _ _ (hI.n (i := 17) (j := 18) (by decide))).trans (gRd_s _ _ _)) (rfl) (by omega) (by omega)) rfl ?_
    refine Go.trp 213 (go_bipush (v := 124) d_Mod_clean_211 (by decide)) rfl ?_
    by_cases c1 : (ci n) = 124
    · refine Go.trp 216 (go_icmp_ne_f 229 d_Mod_clean_213 (by decide) (c1)) rfl ?_
      refine Go.trp 217 (go_aload_n d_Mod_clean_216 rfl 0 rfl) rfl ?_
      refine Go.trp 218 (go_dup d_Mod_clean_217 rfl) rfl ?_
      refine Go.trp 221 (go_get f_Mod_142 d_Mod_clean_218 ((gRd_n _ _ (hI.2 18)).trans ((gRd_n _ _ (hI.2 17)).trans (gRd_s _ _ _))) rfl) rfl ?_
      refine Go.trp 222 (go_iconst (v := 1) d_Mod_clean_221 (by decide)) rfl ?_
      refine Go.trp 223 (go_isub d_Mod_clean_222) rfl ?_
      refine (go_v (y := nI n) (pk_sub (a := n + 1) (b := 1) (by omega))).tr ?_
      refine Go.trp 226 (go_put (oMod a (upd s 22 (nI n)) c) f_Mod_142 ft_Mod_22 d_Mod_clean_223 ((gRd_n _ _ (hI.2 18)).trans ((gRd_n _ _ (hI.2 17)).trans (gRd_s _ _ _))) rfl rfl (Nat.le_of_ble_eq_true rfl) rfl) rfl ?_
      refine (go_m (M' := (gWr (gWr (gWr M A (.inr (11, oMod a (upd s 22 (nI n)) c))) (a 17) (aI G 120 ci)) (a 18) (aI G 120 si))) ((gWr_cm (gWr (gWr M A (.inr (11, oMod a (upd s 22 (nI ((n + 1)))) c))) (a 17) (aI G 120 ci)) (aI G 120 si) (.inr (11, oMod a (upd s 22 (nI n)) c)) (Ne.symm (hI.2 18))).trans (congrArg (fun mZ => gWr mZ (a 18) (aI G 120 si)) ((gWr_cm (gWr M A (.inr (11, oMod a (upd s 22 (nI ((n + 1)))) c))) (aI G 120 ci) (.inr (11, oMod a (upd s 22 (nI n)) c)) (Ne.symm (hI.2 17))).trans (congrArg (fun mZ => gWr mZ (a 17) (aI G 120 ci)) (gWr_wr M A (.inr (11, oMod a (upd s 22 (nI ((n + 1)))) c)) (.inr (11, oMod a (upd s 22 (nI n)) c)))))))).tr ?_
      refine Go.trp 193 (go_goto 193 d_Mod_clean_226 (by decide)) rfl ?_
      rw [show ctF ci (n + 1) = ctF ci n from if_pos (by assumption)]
      exact ih (by omega)
    · refine Go.trp 229 (go_icmp_ne_t 229 d_Mod_clean_213 (by decide) (c1)) rfl ?_
      rw [show ctF ci (n + 1) = n + 1 from if_neg (by assumption)]
      exact Go.rf
theorem clF_le (g : (Nat → Int32) → Nat → Bool) : ∀ r i n c s, (clF g r i n c s).1 ≤ n
  | 0, _, _, _, _ => Nat.le_refl _
  | r + 1, i, n, c, s => by
    unfold clF
    split
    · exact Nat.le_trans (clF_le g r _ _ _ _) (Nat.sub_le _ _)
    · exact clF_le g r _ _ _ _
theorem cdF_le : ∀ i n c s, (cdF i n c s).1 ≤ n
  | 0, _, _, _ => Nat.le_refl _
  | i + 1, n, c, s => by
    unfold cdF
    split
    · exact Nat.le_trans (cdF_le i _ _ _) (Nat.sub_le _ _)
    · exact cdF_le i _ _ _
theorem ctF_le (c : Nat → Int32) : ∀ n, ctF c n ≤ n
  | 0 => Nat.le_refl _
  | n + 1 => by
    unfold ctF
    split
    · exact Nat.le_trans (ctF_le c n) (Nat.le_succ _)
    · exact Nat.le_refl _
def cnA (n : Nat) (c s : Nat → Int32) : Nat × (Nat → Int32) × (Nat → Int32) := clF k1B n 0 n c s
def cnB (n : Nat) (c s : Nat → Int32) : Nat × (Nat → Int32) × (Nat → Int32) := cdF (cnA n c s).1 (cnA n c s).1 (cnA n c s).2.1 (cnA n c s).2.2
def cnC (n : Nat) (c s : Nat → Int32) : Nat × (Nat → Int32) × (Nat → Int32) := clF k3B (cnB n c s).1 0 (cnB n c s).1 (cnB n c s).2.1 (cnB n c s).2.2
def cnN (n : Nat) (c s : Nat → Int32) : Nat := ctF (cnC n c s).2.1 (cnC n c s).1
theorem cnA_le (n : Nat) (c s : Nat → Int32) : (cnA n c s).1 ≤ n := clF_le _ _ _ _ _ _
theorem cnB_le (n : Nat) (c s : Nat → Int32) : (cnB n c s).1 ≤ n := Nat.le_trans (cdF_le _ _ _ _) (cnA_le _ _ _)
theorem cnC_le (n : Nat) (c s : Nat → Int32) : (cnC n c s).1 ≤ n := Nat.le_trans (clF_le _ _ _ _ _ _) (cnB_le _ _ _)
theorem cnN_le (n : Nat) (c s : Nat → Int32) : cnN n c s ≤ n := Nat.le_trans (ctF_le _ _) (cnC_le _ _ _)
theorem e_Mod_clean (G : gG) (M : gM) (A : Nat) (a : Nat → Nat) (s : Nat → Int32) (c : Int64) (ci si : Nat → Int32) (n : Nat) (hI : InjA A a) (hA : gRd M A = some (.inr (11, oMod a s c))) (m17 : gRd M (a 17) = some (aI G 120 ci)) (m18 : gRd M (a 18) = some (aI G 120 si)) (hs : s 22 = nI n) (hn : n ≤ 120) : Ev G 1 m_Mod_clean [.ref A] M none (gWr (gWr (gWr M A (.inr (11, oMod a (upd s 22 (nI (cnN n ci si))) c))) (a 17) (aI G 120 ((cnC n ci si).2.1))) (a 18) (aI G 120 ((cnC n ci si).2.2))) := by
  refine Ev.of (Nat.le_of_ble_eq_true rfl) ?_
  show EvF G 1 m_Mod_clean (0, [(0, .ref A)], [], M) _ _
  refine EvF.go (go_m (M' := (gWr M A (.inr (11, oMod a s c)))) (gWr_id (hA)).symm) ?_
  refine EvF.go (go_m (M' := (gWr (gWr M A (.inr (11, oMod a s c))) (a 17) (aI G 120 ci))) (gWr_id ((gRd_n _ _ (Ne.symm (hI.2 17))).trans (m17))).symm) ?_
  refine EvF.go (go_m (M' := (gWr (gWr (gWr M A (.inr (11, oMod a s c))) (a 17) (aI G 120 ci)) (a 18) (aI G 120 si))) (gWr_id ((gRd_n _ _ (hI.n (i := 18) (j := 17) (by decide))).trans ((gRd_n _ _ (Ne.symm (hI.2 18))).trans (m18)))).symm) ?_
  refine EvF.go (go_m (M' := (gWr (gWr (gWr M A (.inr (11, oMod a (upd s 22 (nI n)) c))) (a 17) (aI G 120 ci)) (a 18) (aI G 120 si))) (by rw [← hs]; rfl)) ?_
  refine EvF.gop 1 (go_iconst (v := nI 0) d_Mod_clean_0 (rfl)) rfl ?_
  refine EvF.gop 2 (go_istore_n [(1, .int (nI 0)), (0, .ref A)] d_Mod_clean_1 rfl (by decide) rfl) rfl ?_
  refine EvF.go (go_pick [1, 0] [(0, .ref A), (1, .int (nI 0))] rfl) ?_
  refine EvF.go (g_Mod_clean1 G M A a s c hI n 0 n ci si (by omega) hn) ?_
  show EvF G 1 m_Mod_clean (75, [(0, .ref A), (1, .int (nI (cnA n ci si).1))], [], (gWr (gWr (gWr M A (.inr (11, oMod a (upd s 22 (nI ((cnA n ci si).1))) c))) (a 17) (aI G 120 ((cnA n ci si).2.1))) (a 18) (aI G 120 ((cnA n ci si).2.2)))) _ _
  refine EvF.gop 76 (go_aload_n d_Mod_clean_75 rfl 0 rfl) rfl ?_
  refine EvF.gop 79 (go_get f_Mod_142 d_Mod_clean_76 ((gRd_n _ _ (hI.2 18)).trans ((gRd_n _ _ (hI.2 17)).trans (gRd_s _ _ _))) rfl) rfl ?_
  refine EvF.gop 80 (go_iconst (v := 1) d_Mod_clean_79 (by decide)) rfl ?_
  refine EvF.gop 81 (go_isub d_Mod_clean_80) rfl ?_
  refine EvF.go (go_v (y := nI (cnA n ci si).1 - 1) (rfl)) ?_
  refine EvF.gop 82 (go_istore_n [(1, .int (nI (cnA n ci si).1 - 1)), (0, .ref A)] d_Mod_clean_81 rfl (by decide) rfl) rfl ?_
  refine EvF.go (go_pick [1, 0] [(0, .ref A), (1, .int (nI (cnA n ci si).1 - 1))] rfl) ?_
  refine EvF.go (g_Mod_clean2 G M A a s c hI (cnA n ci si).1 (cnA n ci si).1 (cnA n ci si).2.1 (cnA n ci si).2.2 (Nat.le_refl _) (Nat.le_trans (cnA_le _ _ _) hn)) ?_
  show EvF G 1 m_Mod_clean (131, [(0, .ref A), (1, .int (-1))], [], (gWr (gWr (gWr M A (.inr (11, oMod a (upd s 22 (nI ((cnB n ci si).1))) c))) (a 17) (aI G 120 ((cnB n ci si).2.1))) (a 18) (aI G 120 ((cnB n ci si).2.2)))) _ _
  refine EvF.gop 132 (go_iconst (v := nI 0) d_Mod_clean_131 (rfl)) rfl ?_
  refine EvF.gop 133 (go_istore_n [(1, .int (nI 0)), (0, .ref A)] d_Mod_clean_132 rfl (by decide) rfl) rfl ?_
  refine EvF.go (go_pick [1, 0] [(0, .ref A), (1, .int (nI 0))] rfl) ?_
  refine EvF.go (g_Mod_clean3 G M A a s c hI (cnB n ci si).1 0 (cnB n ci si).1 (cnB n ci si).2.1 (cnB n ci si).2.2 (by omega) (Nat.le_trans (cnB_le _ _ _) hn)) ?_
  show EvF G 1 m_Mod_clean (193, [(0, .ref A), (1, .int (nI (cnC n ci si).1))], [], (gWr (gWr (gWr M A (.inr (11, oMod a (upd s 22 (nI ((cnC n ci si).1))) c))) (a 17) (aI G 120 ((cnC n ci si).2.1))) (a 18) (aI G 120 ((cnC n ci si).2.2)))) _ _
  refine EvF.go (g_Mod_clean4 G M A a s c (cnC n ci si).2.1 (cnC n ci si).2.2 hI _ (cnC n ci si).1 (Nat.le_trans (cnC_le _ _ _) hn)) ?_
  exact EvF.rv d_Mod_clean_229 rfl rfl
