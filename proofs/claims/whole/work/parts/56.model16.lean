/-- k numbers of g, put at place o on -/
def cpO (g : Nat → Int32) (o k : Nat) (f : Nat → Int32) : Nat → Int32 := fun q => if o ≤ q ∧ q < o + k then g (q - o) else f q
theorem cpO_0 (g : Nat → Int32) (o : Nat) (f : Nat → Int32) : cpO g o 0 f = f := by funext q; exact if_neg (by omega)
theorem cpO_s (g : Nat → Int32) (o k : Nat) (f : Nat → Int32) : upd (cpO g o k f) (o + k) (g k) = cpO g o (k + 1) f := by
  funext q
  by_cases h : q = o + k
  · subst h
    have h3 : o ≤ o + k ∧ o + k < o + (k + 1) := by omega
    simp [upd, cpO, h3]
  · by_cases h2 : o ≤ q ∧ q < o + k
    · have h3 : o ≤ q ∧ q < o + (k + 1) := by omega
      simp [upd, cpO, h, h2, h3]
    · have h3 : ¬ (o ≤ q ∧ q < o + (k + 1)) := by omega
      simp only [upd, cpO, h, h2, h3, if_false]
theorem g_Mod_define (G : gG) (M : gM) (A : Nat) (a : Nat → Nat) (s : Nat → Int32) (c : Int64) (ln bo bl : Nat → Int32) (n j : Nat) (hI : InjA A a) (hA : gRd M A = some (.inr (11, oMod a s c))) (m0 : gRd M (a 0) = some (aI G 60 ln)) (m4 : gRd M (a 4) = some (aI G 96 bo)) (m5 : gRd M (a 5) = some (aI G 4 bl)) (h1 : s 1 = nI n) (hn : n ≤ 24) (hj : j < 4) : ∀ r k : Nat, k + r = n → Go G m_Mod_define 0 (25, [(0, .ref A), (1, .int (nI j)), (2, .int (nI k))], [], (gWr M (a 4) (aI G 96 (cpO ln (j * 24) k bo)))) (56, [(0, .ref A), (1, .int (nI j)), (2, .int (nI n))], [], (gWr M (a 4) (aI G 96 (cpO ln (j * 24) n bo)))) := by
  intro r
  induction r with
  | zero =>
    intro k hk
    rw [show k = n from by omega]
    refine Go.trp 26 (go_iload_n d_Mod_define_25 rfl 2 rfl) rfl ?_
    refine Go.trp 27 (go_aload_n d_Mod_define_26 rfl 0 rfl) rfl ?_
    refine Go.trp 30 (go_get f_Mod_118 d_Mod_define_27 ((gRd_n _ _ (hI.2 4)).trans (hA)) rfl) rfl ?_
    refine Go.trp 56 (go_icmp_ge_t 56 d_Mod_define_30 (by decide) (show s 1 ≤ nI n from by rw [h1]; exact nI_le (Nat.le_refl _) (by omega))) rfl ?_
    exact Go.rf
  | succ r ih =>
    intro k hk
    refine Go.trp 26 (go_iload_n d_Mod_define_25 rfl 2 rfl) rfl ?_
    refine Go.trp 27 (go_aload_n d_Mod_define_26 rfl 0 rfl) rfl ?_
    refine Go.trp 30 (go_get f_Mod_118 d_Mod_define_27 ((gRd_n _ _ (hI.2 4)).trans (hA)) rfl) rfl ?_
    refine Go.trp 33 (go_icmp_ge_f 56 d_Mod_define_30 (by decide) (show ¬ s 1 ≤ nI k from by rw [h1]; exact nI_ge (by omega) (by omega))) rfl ?_
    refine Go.trp 34 (go_aload_n d_Mod_define_33 rfl 0 rfl) rfl ?_
    refine Go.trp 37 (go_get f_Mod_19 d_Mod_define_34 ((gRd_n _ _ (hI.2 4)).trans (hA)) rfl) rfl ?_
    refine Go.trp 38 (go_iload_n d_Mod_define_37 rfl 1 rfl) rfl ?_
    refine Go.trp 40 (go_bipush (v := 24) d_Mod_define_38 (by decide)) rfl ?_
    refine Go.trp 41 (go_imul d_Mod_define_40) rfl ?_
    refine (go_v (y := nI (j * 24)) (pk_mul j 24)).tr ?_
    refine Go.trp 42 (go_iload_n d_Mod_define_41 rfl 2 rfl) rfl ?_
    refine Go.trp 43 (go_iadd d_Mod_define_42) rfl ?_
    refine (go_v (y := nI ((j * 24) + k)) (nI_add (j * 24) k)).tr ?_
    refine Go.trp 44 (go_aload_n d_Mod_define_43 rfl 0 rfl) rfl ?_
    refine Go.trp 47 (go_get f_Mod_7 d_Mod_define_44 ((gRd_n _ _ (hI.2 4)).trans (hA)) rfl) rfl ?_
    refine Go.trp 48 (go_iload_n d_Mod_define_47 rfl 2 rfl) rfl ?_
    refine Go.trp 49 (go_iald (j := k) d_Mod_define_48 ((gRd_n _ _ (hI.n (i := 0) (j := 4) (by decide))).trans (m0)) (rfl) (by omega) (by omega)) rfl ?_
    refine Go.trp 50 (go_iast (j := ((j * 24) + k)) d_Mod_define_49 (gRd_s _ _ _) (rfl) (by omega) (by omega)) rfl ?_
    refine (go_m (M' := (gWr M (a 4) (aI G 96 (upd (cpO ln (j * 24) k bo) ((j * 24) + k) (ln k))))) (gWr_wr M (a 4) (aI G 96 (cpO ln (j * 24) k bo)) (aI G 96 (upd (cpO ln (j * 24) k bo) ((j * 24) + k) (ln k))))).tr ?_
    refine Go.trp 53 (go_inc1 (n0 := 2) (x := k) [(2, .int (nI (k + 1))), (0, .ref A), (1, .int (nI j))] d_Mod_define_50 rfl (by decide) rfl) rfl ?_
    refine (go_pick [1, 2, 0] [(0, .ref A), (1, .int (nI j)), (2, .int (nI (k + 1)))] rfl).tr ?_
    refine Go.trp 25 (go_goto 25 d_Mod_define_53 (by decide)) rfl ?_
    rw [cpO_s]
    exact ih (k + 1) (by omega)
theorem e_Mod_define (G : gG) (M : gM) (A : Nat) (a : Nat → Nat) (s : Nat → Int32) (c : Int64) (ln bo bl : Nat → Int32) (n j : Nat) (hI : InjA A a) (hA : gRd M A = some (.inr (11, oMod a s c))) (m0 : gRd M (a 0) = some (aI G 60 ln)) (m4 : gRd M (a 4) = some (aI G 96 bo)) (m5 : gRd M (a 5) = some (aI G 4 bl)) (h1 : s 1 = nI n) (hn : n ≤ 24) (hj : j < 4) : Ev G 0 m_Mod_define [.ref A, .int (nI j)] M (some (.int 0)) (gWr (gWr (gWr M (a 4) (aI G 96 (cpO ln (j * 24) n bo))) (a 5) (aI G 4 (upd bl j (nI n)))) A (.inr (11, oMod a (upd s 1 (nI 0)) c))) := by
  refine Ev.of (Nat.le_of_ble_eq_true rfl) ?_
  show EvF G 0 m_Mod_define (0, [(0, .ref A), (1, .int (nI j))], [], M) _ _
  refine EvF.gop 1 (go_iload_n d_Mod_define_0 rfl 1 rfl) rfl ?_
  refine EvF.gop 4 (go_if_lt_f 9 d_Mod_define_1 (by decide) (nI_pos (by omega))) rfl ?_
  refine EvF.gop 5 (go_iload_n d_Mod_define_4 rfl 1 rfl) rfl ?_
  refine EvF.gop 6 (go_iconst (v := 3) d_Mod_define_5 (by decide)) rfl ?_
  refine EvF.gop 11 (go_icmp_le_t 11 d_Mod_define_6 (by decide) (show nI j ≤ nI 3 from nI_le (by omega) (by decide))) rfl ?_
  refine EvF.gop 12 (go_aload_n d_Mod_define_11 rfl 0 rfl) rfl ?_
  refine EvF.gop 15 (go_get f_Mod_118 d_Mod_define_12 (hA) rfl) rfl ?_
  refine EvF.gop 17 (go_bipush (v := 24) d_Mod_define_15 (by decide)) rfl ?_
  refine EvF.gop 23 (go_icmp_le_t 23 d_Mod_define_17 (by decide) (show s 1 ≤ nI 24 from by rw [h1]; exact nI_le hn (by decide))) rfl ?_
  refine EvF.gop 24 (go_iconst (v := nI 0) d_Mod_define_23 (rfl)) rfl ?_
  refine EvF.gop 25 (go_istore_n [(2, .int (nI 0)), (0, .ref A), (1, .int (nI j))] d_Mod_define_24 rfl (by decide) rfl) rfl ?_
  refine EvF.go (go_pick [1, 2, 0] [(0, .ref A), (1, .int (nI j)), (2, .int (nI 0))] rfl) ?_
  refine EvF.go (go_m (M' := (gWr M (a 4) (aI G 96 bo))) (gWr_id (m4)).symm) ?_
  refine EvF.go (go_m (M' := (gWr M (a 4) (aI G 96 (cpO ln (j * 24) 0 bo)))) (by rw [cpO_0])) ?_
  refine EvF.go (g_Mod_define G M A a s c ln bo bl n j hI hA m0 m4 m5 h1 hn hj n 0 (by omega)) ?_
  refine EvF.gop 57 (go_aload_n d_Mod_define_56 rfl 0 rfl) rfl ?_
  refine EvF.gop 60 (go_get f_Mod_22 d_Mod_define_57 ((gRd_n _ _ (hI.2 4)).trans (hA)) rfl) rfl ?_
  refine EvF.gop 61 (go_iload_n d_Mod_define_60 rfl 1 rfl) rfl ?_
  refine EvF.gop 62 (go_aload_n d_Mod_define_61 rfl 0 rfl) rfl ?_
  refine EvF.gop 65 (go_get f_Mod_118 d_Mod_define_62 ((gRd_n _ _ (hI.2 4)).trans (hA)) rfl) rfl ?_
  refine EvF.gop 66 (go_iast (j := j) d_Mod_define_65 ((gRd_n _ _ (hI.n (i := 5) (j := 4) (by decide))).trans (m5)) (rfl) (by omega) (by omega)) rfl ?_
  refine EvF.gop 67 (go_aload_n d_Mod_define_66 rfl 0 rfl) rfl ?_
  refine EvF.gop 68 (go_iconst (v := nI 0) d_Mod_define_67 (rfl)) rfl ?_
  refine EvF.gop 71 (go_put (oMod a (upd s 1 (nI 0)) c) f_Mod_118 ft_Mod_1 d_Mod_define_68 ((gRd_n _ _ (hI.2 5)).trans ((gRd_n _ _ (hI.2 4)).trans (hA))) rfl rfl (Nat.le_of_ble_eq_true rfl) rfl) rfl ?_
  refine EvF.gop 72 (go_iconst (v := 0) d_Mod_define_71 (by decide)) rfl ?_
  exact EvF.ri d_Mod_define_72 rfl (rfl) (by rw [h1])
theorem e_Mod_defineR (G : gG) (M : gM) (A : Nat) (a : Nat → Nat) (s : Nat → Int32) (c : Int64) (x : Int32) (hI : InjA A a) (hA : gRd M A = some (.inr (11, oMod a s c))) (hx : x < 0 ∨ 3 < x) : Ev G 0 m_Mod_define [.ref A, .int x] M (some (.int (-1))) M := by
  refine Ev.of (Nat.le_of_ble_eq_true rfl) ?_
  show EvF G 0 m_Mod_define (0, [(0, .ref A), (1, .int x)], [], M) _ _
  refine EvF.gop 1 (go_iload_n d_Mod_define_0 rfl 1 rfl) rfl ?_
  by_cases c1 : x < 0
  · have c1x : ¬ 0 ≤ x := Int32.not_le.mpr c1
    refine EvF.gop 9 (go_if_lt_t 9 d_Mod_define_1 (by decide) (c1)) rfl ?_
    refine EvF.gop 10 (go_iconst (v := (-1)) d_Mod_define_9 (by decide)) rfl ?_
    exact EvF.ri d_Mod_define_10 rfl (rfl) (rfl)
  · have c1x : 0 ≤ x := Int32.not_lt.mp c1
    refine EvF.gop 4 (go_if_lt_f 9 d_Mod_define_1 (by decide) (c1)) rfl ?_
    refine EvF.gop 5 (go_iload_n d_Mod_define_4 rfl 1 rfl) rfl ?_
    refine EvF.gop 6 (go_iconst (v := 3) d_Mod_define_5 (by decide)) rfl ?_
    by_cases c2 : x ≤ 3
    · have c2x : ¬ 3 < x := Int32.not_lt.mpr c2
      refine EvF.gop 11 (go_icmp_le_t 11 d_Mod_define_6 (by decide) (c2)) rfl ?_
      exact absurd hx (by rintro (q | q) <;> first | exact absurd q (by assumption) | exact absurd q (Int32.not_lt.mpr (by assumption)))
    · have c2x : 3 < x := Int32.not_le.mp c2
      refine EvF.gop 9 (go_icmp_le_f 11 d_Mod_define_6 (by decide) (c2)) rfl ?_
      refine EvF.gop 10 (go_iconst (v := (-1)) d_Mod_define_9 (by decide)) rfl ?_
      exact EvF.ri d_Mod_define_10 rfl (rfl) (rfl)
theorem e_Mod_defineF (G : gG) (M : gM) (A : Nat) (a : Nat → Nat) (s : Nat → Int32) (c : Int64) (n j : Nat) (hI : InjA A a) (hA : gRd M A = some (.inr (11, oMod a s c))) (h1 : s 1 = nI n) (hn : 24 < n) (hn2 : n ≤ 60) (hj : j < 4) : Ev G 0 m_Mod_define [.ref A, .int (nI j)] M (some (.int (-2))) M := by
  refine Ev.of (Nat.le_of_ble_eq_true rfl) ?_
  show EvF G 0 m_Mod_define (0, [(0, .ref A), (1, .int (nI j))], [], M) _ _
  refine EvF.gop 1 (go_iload_n d_Mod_define_0 rfl 1 rfl) rfl ?_
  refine EvF.gop 4 (go_if_lt_f 9 d_Mod_define_1 (by decide) (nI_pos (by omega))) rfl ?_
  refine EvF.gop 5 (go_iload_n d_Mod_define_4 rfl 1 rfl) rfl ?_
  refine EvF.gop 6 (go_iconst (v := 3) d_Mod_define_5 (by decide)) rfl ?_
  refine EvF.gop 11 (go_icmp_le_t 11 d_Mod_define_6 (by decide) (show nI j ≤ nI 3 from nI_le (by omega) (by decide))) rfl ?_
  refine EvF.gop 12 (go_aload_n d_Mod_define_11 rfl 0 rfl) rfl ?_
  refine EvF.gop 15 (go_get f_Mod_118 d_Mod_define_12 (hA) rfl) rfl ?_
  refine EvF.gop 17 (go_bipush (v := 24) d_Mod_define_15 (by decide)) rfl ?_
  refine EvF.gop 20 (go_icmp_le_f 23 d_Mod_define_17 (by decide) (show ¬ s 1 ≤ nI 24 from by rw [h1]; exact nI_ge hn (by omega))) rfl ?_
  refine EvF.gop 22 (go_bipush (v := (-2)) d_Mod_define_20 (by decide)) rfl ?_
  exact EvF.ri d_Mod_define_22 rfl (rfl) (rfl)
def p1F (g : Nat → Int32) : Nat → Nat → Nat → Option Nat
  | 0, _, q => some q
  | r + 1, k, q => if cDig (g k) = true then (if 0 < k ∧ cDig (g (k - 1)) = true then none else p1F g r (k + 1) q) else (if cLet (g k) = true ∨ g k = 46 then p1F g r (k + 1) (q + 1) else none)
def p2F (g : Nat → Int32) (n : Nat) : Nat → Nat → Nat → Bool
  | 0, _, _ => true
  | r + 1, k, x => if cDig (g k) = true then p2F g n r (k + 1) x else if g k = 46 ∧ 0 < x ∧ x + 1 < n then false else p2F g n r (k + 1) (x + 1)
def nzF (g : Nat → Int32) : Nat → Nat → Nat
  | 0, _ => 0
  | r + 1, k => (if cDig (g k) = true then 0 else 1) + nzF g r (k + 1)
def p4F (g : Nat → Int32) (np : Nat) : Nat → Nat → Nat → (Nat → Int32) → (Nat → Int32) → (Nat → Int32) × (Nat → Int32)
  | 0, _, _, lv, sg => (lv, sg)
  | r + 1, k, x, lv, sg => if cDig (g k) = true then p4F g np r (k + 1) x (upd lv (np * 6 + x) (g k - 48)) sg else p4F g np r (k + 1) (x + 1) lv (upd sg (np * 5 + x) (g k))
theorem p1F_nz (g : Nat → Int32) : ∀ r k q n, p1F g r k q = some n → n = q + nzF g r k
  | 0, k, q, n, h => by
    simp only [p1F, Option.some.injEq] at h
    simp [nzF, h]
  | r + 1, k, q, n, h => by
    unfold p1F at h
    rw [show nzF g (r + 1) k = (if cDig (g k) = true then 0 else 1) + nzF g r (k + 1) from rfl]
    split at h
    · rename_i hd
      split at h
      · cases h
      · have := p1F_nz g r _ _ _ h
        rw [if_pos hd]; omega
    · rename_i hd
      split at h
      · have := p1F_nz g r _ _ _ h
        rw [if_neg hd]; omega
      · cases h
def patF (g : Nat → Int32) (m : Nat) : Option Nat := match p1F g m 0 0 with
  | none => none
  | some n => if 1 ≤ n ∧ n ≤ 5 ∧ p2F g n m 0 0 = true then some n else none
theorem g_Mod_pa1 (G : gG) (M : gM) (A : Nat) (a : Nat → Nat) (s : Nat → Int32) (c : Int64) (g : Nat → Int32) (m : Nat) (hI : InjA A a) (hA : gRd M A = some (.inr (11, oMod a s c))) (m0 : gRd M (a 0) = some (aI G 60 g)) (h1 : s 1 = nI m) (hm : m ≤ 60) : ∀ r k q n : Nat, k + r = m → p1F g r k q = some n → Go G m_Mod_pattern 1 (16, [(0, .ref A), (1, .int (nI q)), (2, .int (nI k))], [], M) (116, [(0, .ref A), (1, .int (nI n))], [], M) := by
  intro r
  induction r with
  | zero =>
    intro k q n hk hp
    cases hp
    refine Go.trp 17 (go_iload_n d_Mod_pattern_16 rfl 2 rfl) rfl ?_
    refine Go.trp 18 (go_aload_n d_Mod_pattern_17 rfl 0 rfl) rfl ?_
    refine Go.trp 21 (go_get f_Mod_118 d_Mod_pattern_18 (hA) rfl) rfl ?_
    refine Go.trp 116 (go_icmp_ge_t 116 d_Mod_pattern_21 (by decide) (show s 1 ≤ nI k from by rw [h1]; exact nI_le (by omega) (by omega))) rfl ?_
    refine (go_pick [0, 1] [(0, .ref A), (1, .int (nI q))] rfl).tr ?_
    exact Go.rf
  | succ r ih =>
    intro k q n hk hp
    unfold p1F at hp
    refine Go.trp 17 (go_iload_n d_Mod_pattern_16 rfl 2 rfl) rfl ?_
    refine Go.trp 18 (go_aload_n d_Mod_pattern_17 rfl 0 rfl) rfl ?_
    refine Go.trp 21 (go_get f_Mod_118 d_Mod_pattern_18 (hA) rfl) rfl ?_
    refine Go.trp 24 (go_icmp_ge_f 116 d_Mod_pattern_21 (by decide) (show ¬ s 1 ≤ nI k from by rw [h1]; exact nI_ge (by omega) (by omega))) rfl ?_
    refine Go.trp 25 (go_aload_n d_Mod_pattern_24 rfl 0 rfl) rfl ?_
    refine Go.trp 28 (go_get f_Mod_7 d_Mod_pattern_25 (hA) rfl) rfl ?_
    refine Go.trp 29 (go_iload_n d_Mod_pattern_28 rfl 2 rfl) rfl ?_
    refine Go.trp 30 (go_iald (j := k) d_Mod_pattern_29 (m0) (rfl) (by omega) (by omega)) rfl ?_
    refine Go.trp 33 (go_callS [.int (g k)] [.int (bI (cDig (g k)))] c0_Mod_digit sm_Mod_digit lk_Mod_115 d_Mod_pattern_30 (e_Mod_digit G _ (g k)) (by decide) rfl rfl (Nat.le_of_ble_eq_true rfl) rfl) rfl ?_
    by_cases c1 : (bI (cDig (g k))) = 0
    · have c1x : (cDig (g k)) = false := bI_0.mp c1
      refine Go.trp 57 (go_if_eq_t 57 d_Mod_pattern_33 (by decide) (c1)) rfl ?_
      refine Go.trp 58 (go_aload_n d_Mod_pattern_57 rfl 0 rfl) rfl ?_
      refine Go.trp 61 (go_get f_Mod_7 d_Mod_pattern_58 (hA) rfl) rfl ?_
      refine Go.trp 62 (go_iload_n d_Mod_pattern_61 rfl 2 rfl) rfl ?_
      refine Go.trp 63 (go_iald (j := k) d_Mod_pattern_62 (m0) (rfl) (by omega) (by omega)) rfl ?_
      refine Go.trp 66 (go_callS [.int (g k)] [.int (bI (cDig (g k)))] c0_Mod_digit sm_Mod_digit lk_Mod_115 d_Mod_pattern_63 (e_Mod_digit G _ (g k)) (by decide) rfl rfl (Nat.le_of_ble_eq_true rfl) rfl) rfl ?_
      refine Go.trp 69 (go_if_ne_f 95 d_Mod_pattern_66 (by decide) (c1)) rfl ?_
      refine Go.trp 70 (go_aload_n d_Mod_pattern_69 rfl 0 rfl) rfl ?_
      refine Go.trp 73 (go_get f_Mod_7 d_Mod_pattern_70 (hA) rfl) rfl ?_
      refine Go.trp 74 (go_iload_n d_Mod_pattern_73 rfl 2 rfl) rfl ?_
      refine Go.trp 75 (go_iald (j := k) d_Mod_pattern_74 (m0) (rfl) (by omega) (by omega)) rfl ?_
      refine Go.trp 78 (go_callS [.int (g k)] [.int (bI (cLet (g k)))] c0_Mod_letter sm_Mod_letter lk_Mod_111 d_Mod_pattern_75 (e_Mod_letter G _ (g k)) (by decide) rfl rfl (Nat.le_of_ble_eq_true rfl) rfl) rfl ?_
      by_cases c2 : (bI (cLet (g k))) = 0
      · have c2x : (cLet (g k)) = false := bI_0.mp c2
        refine Go.trp 81 (go_if_ne_f 95 d_Mod_pattern_78 (by decide) (c2)) rfl ?_
        refine Go.trp 82 (go_aload_n d_Mod_pattern_81 rfl 0 rfl) rfl ?_
        refine Go.trp 85 (go_get f_Mod_7 d_Mod_pattern_82 (hA) rfl) rfl ?_
        refine Go.trp 86 (go_iload_n d_Mod_pattern_85 rfl 2 rfl) rfl ?_
        refine Go.trp 87 (go_iald (j := k) d_Mod_pattern_86 (m0) (rfl) (by omega) (by omega)) rfl ?_
        refine Go.trp 89 (go_bipush (v := 46) d_Mod_pattern_87 (by decide)) rfl ?_
        by_cases c3 : (g k) = 46
        · refine Go.trp 95 (go_icmp_eq_t 95 d_Mod_pattern_89 (by decide) (c3)) rfl ?_
          refine Go.trp 96 (go_aload_n d_Mod_pattern_95 rfl 0 rfl) rfl ?_
          refine Go.trp 99 (go_get f_Mod_7 d_Mod_pattern_96 (hA) rfl) rfl ?_
          refine Go.trp 100 (go_iload_n d_Mod_pattern_99 rfl 2 rfl) rfl ?_
          refine Go.trp 101 (go_iald (j := k) d_Mod_pattern_100 (m0) (rfl) (by omega) (by omega)) rfl ?_
          refine Go.trp 104 (go_callS [.int (g k)] [.int (bI (cDig (g k)))] c0_Mod_digit sm_Mod_digit lk_Mod_115 d_Mod_pattern_101 (e_Mod_digit G _ (g k)) (by decide) rfl rfl (Nat.le_of_ble_eq_true rfl) rfl) rfl ?_
          refine Go.trp 107 (go_if_ne_f 110 d_Mod_pattern_104 (by decide) (c1)) rfl ?_
          refine Go.trp 110 (go_inc1 (n0 := 1) (x := q) [(1, .int (nI (q + 1))), (0, .ref A), (2, .int (nI k))] d_Mod_pattern_107 rfl (by decide) rfl) rfl ?_
          refine (go_pick [1, 0, 2] [(0, .ref A), (1, .int (nI (q + 1))), (2, .int (nI k))] rfl).tr ?_
          refine Go.trp 113 (go_inc1 (n0 := 2) (x := k) [(2, .int (nI (k + 1))), (0, .ref A), (1, .int (nI (q + 1)))] d_Mod_pattern_110 rfl (by decide) rfl) rfl ?_
          refine (go_pick [1, 2, 0] [(0, .ref A), (1, .int (nI (q + 1))), (2, .int (nI (k + 1)))] rfl).tr ?_
          refine Go.trp 16 (go_goto 16 d_Mod_pattern_113 (by decide)) rfl ?_
          rw [if_neg (show ¬ cDig (g k) = true from by rw [‹cDig (g k) = false›]; decide)] at hp
          rw [if_pos (show cLet (g k) = true ∨ g k = 46 from by first | (left; assumption) | (right; assumption))] at hp
          exact ih (k + 1) _ _ (by omega) hp
        · refine Go.trp 92 (go_icmp_eq_f 95 d_Mod_pattern_89 (by decide) (c3)) rfl ?_
          refine Go.trp 94 (go_bipush (v := (-3)) d_Mod_pattern_92 (by decide)) rfl ?_
          rw [if_neg (show ¬ cDig (g k) = true from by rw [‹cDig (g k) = false›]; decide)] at hp
          rw [if_neg (show ¬ (cLet (g k) = true ∨ g k = 46) from by rintro (q1 | q1) <;> first | exact absurd q1 (by assumption) | (rw [q1] at *; contradiction) | exact absurd (q1.symm.trans ‹cLet (g k) = false›) (by decide))] at hp
          cases hp
      · have c2x : (cLet (g k)) = true := bI_n0.mp c2
        refine Go.trp 95 (go_if_ne_t 95 d_Mod_pattern_78 (by decide) (c2)) rfl ?_
        refine Go.trp 96 (go_aload_n d_Mod_pattern_95 rfl 0 rfl) rfl ?_
        refine Go.trp 99 (go_get f_Mod_7 d_Mod_pattern_96 (hA) rfl) rfl ?_
        refine Go.trp 100 (go_iload_n d_Mod_pattern_99 rfl 2 rfl) rfl ?_
        refine Go.trp 101 (go_iald (j := k) d_Mod_pattern_100 (m0) (rfl) (by omega) (by omega)) rfl ?_
        refine Go.trp 104 (go_callS [.int (g k)] [.int (bI (cDig (g k)))] c0_Mod_digit sm_Mod_digit lk_Mod_115 d_Mod_pattern_101 (e_Mod_digit G _ (g k)) (by decide) rfl rfl (Nat.le_of_ble_eq_true rfl) rfl) rfl ?_
        refine Go.trp 107 (go_if_ne_f 110 d_Mod_pattern_104 (by decide) (c1)) rfl ?_
        refine Go.trp 110 (go_inc1 (n0 := 1) (x := q) [(1, .int (nI (q + 1))), (0, .ref A), (2, .int (nI k))] d_Mod_pattern_107 rfl (by decide) rfl) rfl ?_
        refine (go_pick [1, 0, 2] [(0, .ref A), (1, .int (nI (q + 1))), (2, .int (nI k))] rfl).tr ?_
        refine Go.trp 113 (go_inc1 (n0 := 2) (x := k) [(2, .int (nI (k + 1))), (0, .ref A), (1, .int (nI (q + 1)))] d_Mod_pattern_110 rfl (by decide) rfl) rfl ?_
        refine (go_pick [1, 2, 0] [(0, .ref A), (1, .int (nI (q + 1))), (2, .int (nI (k + 1)))] rfl).tr ?_
        refine Go.trp 16 (go_goto 16 d_Mod_pattern_113 (by decide)) rfl ?_
        rw [if_neg (show ¬ cDig (g k) = true from by rw [‹cDig (g k) = false›]; decide)] at hp
        rw [if_pos (show cLet (g k) = true ∨ g k = 46 from by first | (left; assumption) | (right; assumption))] at hp
        exact ih (k + 1) _ _ (by omega) hp
    · have c1x : (cDig (g k)) = true := bI_n0.mp c1
      refine Go.trp 36 (go_if_eq_f 57 d_Mod_pattern_33 (by decide) (c1)) rfl ?_
      refine Go.trp 37 (go_iload_n d_Mod_pattern_36 rfl 2 rfl) rfl ?_
      by_cases c4 : (nI k) ≤ 0
      · have c4x : k ≤ 0 := (nI_leI (a := k) (b := 0) (by omega) (by decide)).mp c4
        have c4y : ¬ 0 < k := by omega
        refine Go.trp 57 (go_if_le_t 57 d_Mod_pattern_37 (by decide) (c4)) rfl ?_
        refine Go.trp 58 (go_aload_n d_Mod_pattern_57 rfl 0 rfl) rfl ?_
        refine Go.trp 61 (go_get f_Mod_7 d_Mod_pattern_58 (hA) rfl) rfl ?_
        refine Go.trp 62 (go_iload_n d_Mod_pattern_61 rfl 2 rfl) rfl ?_
        refine Go.trp 63 (go_iald (j := k) d_Mod_pattern_62 (m0) (rfl) (by omega) (by omega)) rfl ?_
        refine Go.trp 66 (go_callS [.int (g k)] [.int (bI (cDig (g k)))] c0_Mod_digit sm_Mod_digit lk_Mod_115 d_Mod_pattern_63 (e_Mod_digit G _ (g k)) (by decide) rfl rfl (Nat.le_of_ble_eq_true rfl) rfl) rfl ?_
        refine Go.trp 95 (go_if_ne_t 95 d_Mod_pattern_66 (by decide) (c1)) rfl ?_
        refine Go.trp 96 (go_aload_n d_Mod_pattern_95 rfl 0 rfl) rfl ?_
        refine Go.trp 99 (go_get f_Mod_7 d_Mod_pattern_96 (hA) rfl) rfl ?_
        refine Go.trp 100 (go_iload_n d_Mod_pattern_99 rfl 2 rfl) rfl ?_
        refine Go.trp 101 (go_iald (j := k) d_Mod_pattern_100 (m0) (rfl) (by omega) (by omega)) rfl ?_
        refine Go.trp 104 (go_callS [.int (g k)] [.int (bI (cDig (g k)))] c0_Mod_digit sm_Mod_digit lk_Mod_115 d_Mod_pattern_101 (e_Mod_digit G _ (g k)) (by decide) rfl rfl (Nat.le_of_ble_eq_true rfl) rfl) rfl ?_
        refine Go.trp 110 (go_if_ne_t 110 d_Mod_pattern_104 (by decide) (c1)) rfl ?_
        refine Go.trp 113 (go_inc1 (n0 := 2) (x := k) [(2, .int (nI (k + 1))), (0, .ref A), (1, .int (nI q))] d_Mod_pattern_110 rfl (by decide) rfl) rfl ?_
        refine (go_pick [1, 2, 0] [(0, .ref A), (1, .int (nI q)), (2, .int (nI (k + 1)))] rfl).tr ?_
        refine Go.trp 16 (go_goto 16 d_Mod_pattern_113 (by decide)) rfl ?_
        rw [if_pos (show cDig (g k) = true by assumption)] at hp
        rw [if_neg (show ¬ (0 < k ∧ cDig (g (k - 1)) = true) from by rintro ⟨q1, q2⟩; first | omega | exact absurd (q2.symm.trans ‹cDig (g (k - 1)) = false›) (by decide))] at hp
        exact ih (k + 1) _ _ (by omega) hp
      · have c4x : 0 < k := Nat.lt_of_not_le (fun q9 => c4 ((nI_leI (a := k) (b := 0) (by omega) (by decide)).mpr q9))
        have c4y : ¬ k ≤ 0 := by omega
        refine Go.trp 40 (go_if_le_f 57 d_Mod_pattern_37 (by decide) (c4)) rfl ?_
        refine Go.trp 41 (go_aload_n d_Mod_pattern_40 rfl 0 rfl) rfl ?_
        refine Go.trp 44 (go_get f_Mod_7 d_Mod_pattern_41 (hA) rfl) rfl ?_
        refine Go.trp 45 (go_iload_n d_Mod_pattern_44 rfl 2 rfl) rfl ?_
        refine Go.trp 46 (go_iconst (v := 1) d_Mod_pattern_45 (by decide)) rfl ?_
        refine Go.trp 47 (go_isub d_Mod_pattern_46) rfl ?_
        refine (go_v (y := nI (k - 1)) (pk_sub (b := 1) (by omega))).tr ?_
        refine Go.trp 48 (go_iald (j := (k - 1)) d_Mod_pattern_47 (m0) (rfl) (by omega) (by omega)) rfl ?_
        refine Go.trp 51 (go_callS [.int (g (k - 1))] [.int (bI (cDig (g (k - 1))))] c0_Mod_digit sm_Mod_digit lk_Mod_115 d_Mod_pattern_48 (e_Mod_digit G _ (g (k - 1))) (by decide) rfl rfl (Nat.le_of_ble_eq_true rfl) rfl) rfl ?_
        by_cases c5 : (bI (cDig (g (k - 1)))) = 0
        · have c5x : (cDig (g (k - 1))) = false := bI_0.mp c5
          refine Go.trp 57 (go_if_eq_t 57 d_Mod_pattern_51 (by decide) (c5)) rfl ?_
          refine Go.trp 58 (go_aload_n d_Mod_pattern_57 rfl 0 rfl) rfl ?_
          refine Go.trp 61 (go_get f_Mod_7 d_Mod_pattern_58 (hA) rfl) rfl ?_
          refine Go.trp 62 (go_iload_n d_Mod_pattern_61 rfl 2 rfl) rfl ?_
          refine Go.trp 63 (go_iald (j := k) d_Mod_pattern_62 (m0) (rfl) (by omega) (by omega)) rfl ?_
          refine Go.trp 66 (go_callS [.int (g k)] [.int (bI (cDig (g k)))] c0_Mod_digit sm_Mod_digit lk_Mod_115 d_Mod_pattern_63 (e_Mod_digit G _ (g k)) (by decide) rfl rfl (Nat.le_of_ble_eq_true rfl) rfl) rfl ?_
          refine Go.trp 95 (go_if_ne_t 95 d_Mod_pattern_66 (by decide) (c1)) rfl ?_
          refine Go.trp 96 (go_aload_n d_Mod_pattern_95 rfl 0 rfl) rfl ?_
          refine Go.trp 99 (go_get f_Mod_7 d_Mod_pattern_96 (hA) rfl) rfl ?_
          refine Go.trp 100 (go_iload_n d_Mod_pattern_99 rfl 2 rfl) rfl ?_
          refine Go.trp 101 (go_iald (j := k) d_Mod_pattern_100 (m0) (rfl) (by omega) (by omega)) rfl ?_
          refine Go.trp 104 (go_callS [.int (g k)] [.int (bI (cDig (g k)))] c0_Mod_digit sm_Mod_digit lk_Mod_115 d_Mod_pattern_101 (e_Mod_digit G _ (g k)) (by decide) rfl rfl (Nat.le_of_ble_eq_true rfl) rfl) rfl ?_
          refine Go.trp 110 (go_if_ne_t 110 d_Mod_pattern_104 (by decide) (c1)) rfl ?_
          refine Go.trp 113 (go_inc1 (n0 := 2) (x := k) [(2, .int (nI (k + 1))), (0, .ref A), (1, .int (nI q))] d_Mod_pattern_110 rfl (by decide) rfl) rfl ?_
          refine (go_pick [1, 2, 0] [(0, .ref A), (1, .int (nI q)), (2, .int (nI (k + 1)))] rfl).tr ?_
          refine Go.trp 16 (go_goto 16 d_Mod_pattern_113 (by decide)) rfl ?_
          rw [if_pos (show cDig (g k) = true by assumption)] at hp
          rw [if_neg (show ¬ (0 < k ∧ cDig (g (k - 1)) = true) from by rintro ⟨q1, q2⟩; first | omega | exact absurd (q2.symm.trans ‹cDig (g (k - 1)) = false›) (by decide))] at hp
          exact ih (k + 1) _ _ (by omega) hp
        · have c5x : (cDig (g (k - 1))) = true := bI_n0.mp c5
          refine Go.trp 54 (go_if_eq_f 57 d_Mod_pattern_51 (by decide) (c5)) rfl ?_
          refine Go.trp 56 (go_bipush (v := (-3)) d_Mod_pattern_54 (by decide)) rfl ?_
          rw [if_pos (show cDig (g k) = true by assumption)] at hp
          rw [if_pos (show 0 < k ∧ cDig (g (k - 1)) = true from ⟨by omega, by assumption⟩)] at hp
          cases hp
theorem g_Mod_pa1S (G : gG) (M : gM) (A : Nat) (a : Nat → Nat) (s : Nat → Int32) (c : Int64) (g : Nat → Int32) (m : Nat) (hI : InjA A a) (hA : gRd M A = some (.inr (11, oMod a s c))) (m0 : gRd M (a 0) = some (aI G 60 g)) (h1 : s 1 = nI m) (hm : m ≤ 60) : ∀ r k q : Nat, k + r = m → p1F g r k q = none → EvF G 1 m_Mod_pattern (16, [(0, .ref A), (1, .int (nI q)), (2, .int (nI k))], [], M) (some (.int (-3))) M := by
  intro r
  induction r with
  | zero =>
    intro k q hk hp
    cases hp
  | succ r ih =>
    intro k q hk hp
    unfold p1F at hp
    refine EvF.gop 17 (go_iload_n d_Mod_pattern_16 rfl 2 rfl) rfl ?_
    refine EvF.gop 18 (go_aload_n d_Mod_pattern_17 rfl 0 rfl) rfl ?_
    refine EvF.gop 21 (go_get f_Mod_118 d_Mod_pattern_18 (hA) rfl) rfl ?_
    refine EvF.gop 24 (go_icmp_ge_f 116 d_Mod_pattern_21 (by decide) (show ¬ s 1 ≤ nI k from by rw [h1]; exact nI_ge (by omega) (by omega))) rfl ?_
    refine EvF.gop 25 (go_aload_n d_Mod_pattern_24 rfl 0 rfl) rfl ?_
    refine EvF.gop 28 (go_get f_Mod_7 d_Mod_pattern_25 (hA) rfl) rfl ?_
    refine EvF.gop 29 (go_iload_n d_Mod_pattern_28 rfl 2 rfl) rfl ?_
    refine EvF.gop 30 (go_iald (j := k) d_Mod_pattern_29 (m0) (rfl) (by omega) (by omega)) rfl ?_
    refine EvF.gop 33 (go_callS [.int (g k)] [.int (bI (cDig (g k)))] c0_Mod_digit sm_Mod_digit lk_Mod_115 d_Mod_pattern_30 (e_Mod_digit G _ (g k)) (by decide) rfl rfl (Nat.le_of_ble_eq_true rfl) rfl) rfl ?_
    by_cases c1 : (bI (cDig (g k))) = 0
    · have c1x : (cDig (g k)) = false := bI_0.mp c1
      refine EvF.gop 57 (go_if_eq_t 57 d_Mod_pattern_33 (by decide) (c1)) rfl ?_
      refine EvF.gop 58 (go_aload_n d_Mod_pattern_57 rfl 0 rfl) rfl ?_
      refine EvF.gop 61 (go_get f_Mod_7 d_Mod_pattern_58 (hA) rfl) rfl ?_
      refine EvF.gop 62 (go_iload_n d_Mod_pattern_61 rfl 2 rfl) rfl ?_
      refine EvF.gop 63 (go_iald (j := k) d_Mod_pattern_62 (m0) (rfl) (by omega) (by omega)) rfl ?_
      refine EvF.gop 66 (go_callS [.int (g k)] [.int (bI (cDig (g k)))] c0_Mod_digit sm_Mod_digit lk_Mod_115 d_Mod_pattern_63 (e_Mod_digit G _ (g k)) (by decide) rfl rfl (Nat.le_of_ble_eq_true rfl) rfl) rfl ?_
      refine EvF.gop 69 (go_if_ne_f 95 d_Mod_pattern_66 (by decide) (c1)) rfl ?_
      refine EvF.gop 70 (go_aload_n d_Mod_pattern_69 rfl 0 rfl) rfl ?_
      refine EvF.gop 73 (go_get f_Mod_7 d_Mod_pattern_70 (hA) rfl) rfl ?_
      refine EvF.gop 74 (go_iload_n d_Mod_pattern_73 rfl 2 rfl) rfl ?_
      refine EvF.gop 75 (go_iald (j := k) d_Mod_pattern_74 (m0) (rfl) (by omega) (by omega)) rfl ?_
      refine EvF.gop 78 (go_callS [.int (g k)] [.int (bI (cLet (g k)))] c0_Mod_letter sm_Mod_letter lk_Mod_111 d_Mod_pattern_75 (e_Mod_letter G _ (g k)) (by decide) rfl rfl (Nat.le_of_ble_eq_true rfl) rfl) rfl ?_
      by_cases c2 : (bI (cLet (g k))) = 0
      · have c2x : (cLet (g k)) = false := bI_0.mp c2
        refine EvF.gop 81 (go_if_ne_f 95 d_Mod_pattern_78 (by decide) (c2)) rfl ?_
        refine EvF.gop 82 (go_aload_n d_Mod_pattern_81 rfl 0 rfl) rfl ?_
        refine EvF.gop 85 (go_get f_Mod_7 d_Mod_pattern_82 (hA) rfl) rfl ?_
        refine EvF.gop 86 (go_iload_n d_Mod_pattern_85 rfl 2 rfl) rfl ?_
        refine EvF.gop 87 (go_iald (j := k) d_Mod_pattern_86 (m0) (rfl) (by omega) (by omega)) rfl ?_
        refine EvF.gop 89 (go_bipush (v := 46) d_Mod_pattern_87 (by decide)) rfl ?_
        by_cases c3 : (g k) = 46
        · refine EvF.gop 95 (go_icmp_eq_t 95 d_Mod_pattern_89 (by decide) (c3)) rfl ?_
          refine EvF.gop 96 (go_aload_n d_Mod_pattern_95 rfl 0 rfl) rfl ?_
          refine EvF.gop 99 (go_get f_Mod_7 d_Mod_pattern_96 (hA) rfl) rfl ?_
          refine EvF.gop 100 (go_iload_n d_Mod_pattern_99 rfl 2 rfl) rfl ?_
          refine EvF.gop 101 (go_iald (j := k) d_Mod_pattern_100 (m0) (rfl) (by omega) (by omega)) rfl ?_
          refine EvF.gop 104 (go_callS [.int (g k)] [.int (bI (cDig (g k)))] c0_Mod_digit sm_Mod_digit lk_Mod_115 d_Mod_pattern_101 (e_Mod_digit G _ (g k)) (by decide) rfl rfl (Nat.le_of_ble_eq_true rfl) rfl) rfl ?_
          refine EvF.gop 107 (go_if_ne_f 110 d_Mod_pattern_104 (by decide) (c1)) rfl ?_
          refine EvF.gop 110 (go_inc1 (n0 := 1) (x := q) [(1, .int (nI (q + 1))), (0, .ref A), (2, .int (nI k))] d_Mod_pattern_107 rfl (by decide) rfl) rfl ?_
          refine EvF.go (go_pick [1, 0, 2] [(0, .ref A), (1, .int (nI (q + 1))), (2, .int (nI k))] rfl) ?_
          refine EvF.gop 113 (go_inc1 (n0 := 2) (x := k) [(2, .int (nI (k + 1))), (0, .ref A), (1, .int (nI (q + 1)))] d_Mod_pattern_110 rfl (by decide) rfl) rfl ?_
          refine EvF.go (go_pick [1, 2, 0] [(0, .ref A), (1, .int (nI (q + 1))), (2, .int (nI (k + 1)))] rfl) ?_
          refine EvF.gop 16 (go_goto 16 d_Mod_pattern_113 (by decide)) rfl ?_
          rw [if_neg (show ¬ cDig (g k) = true from by rw [‹cDig (g k) = false›]; decide)] at hp
          rw [if_pos (show cLet (g k) = true ∨ g k = 46 from by first | (left; assumption) | (right; assumption))] at hp
          exact ih (k + 1) _ (by omega) hp
        · refine EvF.gop 92 (go_icmp_eq_f 95 d_Mod_pattern_89 (by decide) (c3)) rfl ?_
          refine EvF.gop 94 (go_bipush (v := (-3)) d_Mod_pattern_92 (by decide)) rfl ?_
          rw [if_neg (show ¬ cDig (g k) = true from by rw [‹cDig (g k) = false›]; decide)] at hp
          rw [if_neg (show ¬ (cLet (g k) = true ∨ g k = 46) from by rintro (q1 | q1) <;> first | exact absurd q1 (by assumption) | (rw [q1] at *; contradiction) | exact absurd (q1.symm.trans ‹cLet (g k) = false›) (by decide))] at hp
          exact EvF.ri d_Mod_pattern_94 rfl (rfl) (rfl)
      · have c2x : (cLet (g k)) = true := bI_n0.mp c2
        refine EvF.gop 95 (go_if_ne_t 95 d_Mod_pattern_78 (by decide) (c2)) rfl ?_
        refine EvF.gop 96 (go_aload_n d_Mod_pattern_95 rfl 0 rfl) rfl ?_
        refine EvF.gop 99 (go_get f_Mod_7 d_Mod_pattern_96 (hA) rfl) rfl ?_
        refine EvF.gop 100 (go_iload_n d_Mod_pattern_99 rfl 2 rfl) rfl ?_
        refine EvF.gop 101 (go_iald (j := k) d_Mod_pattern_100 (m0) (rfl) (by omega) (by omega)) rfl ?_
        refine EvF.gop 104 (go_callS [.int (g k)] [.int (bI (cDig (g k)))] c0_Mod_digit sm_Mod_digit lk_Mod_115 d_Mod_pattern_101 (e_Mod_digit G _ (g k)) (by decide) rfl rfl (Nat.le_of_ble_eq_true rfl) rfl) rfl ?_
        refine EvF.gop 107 (go_if_ne_f 110 d_Mod_pattern_104 (by decide) (c1)) rfl ?_
        refine EvF.gop 110 (go_inc1 (n0 := 1) (x := q) [(1, .int (nI (q + 1))), (0, .ref A), (2, .int (nI k))] d_Mod_pattern_107 rfl (by decide) rfl) rfl ?_
        refine EvF.go (go_pick [1, 0, 2] [(0, .ref A), (1, .int (nI (q + 1))), (2, .int (nI k))] rfl) ?_
        refine EvF.gop 113 (go_inc1 (n0 := 2) (x := k) [(2, .int (nI (k + 1))), (0, .ref A), (1, .int (nI (q + 1)))] d_Mod_pattern_110 rfl (by decide) rfl) rfl ?_
        refine EvF.go (go_pick [1, 2, 0] [(0, .ref A), (1, .int (nI (q + 1))), (2, .int (nI (k + 1)))] rfl) ?_
        refine EvF.gop 16 (go_goto 16 d_Mod_pattern_113 (by decide)) rfl ?_
        rw [if_neg (show ¬ cDig (g k) = true from by rw [‹cDig (g k) = false›]; decide)] at hp
        rw [if_pos (show cLet (g k) = true ∨ g k = 46 from by first | (left; assumption) | (right; assumption))] at hp
        exact ih (k + 1) _ (by omega) hp
    · have c1x : (cDig (g k)) = true := bI_n0.mp c1
      refine EvF.gop 36 (go_if_eq_f 57 d_Mod_pattern_33 (by decide) (c1)) rfl ?_
      refine EvF.gop 37 (go_iload_n d_Mod_pattern_36 rfl 2 rfl) rfl ?_
      by_cases c4 : (nI k) ≤ 0
      · have c4x : k ≤ 0 := (nI_leI (a := k) (b := 0) (by omega) (by decide)).mp c4
        have c4y : ¬ 0 < k := by omega
        refine EvF.gop 57 (go_if_le_t 57 d_Mod_pattern_37 (by decide) (c4)) rfl ?_
        refine EvF.gop 58 (go_aload_n d_Mod_pattern_57 rfl 0 rfl) rfl ?_
        refine EvF.gop 61 (go_get f_Mod_7 d_Mod_pattern_58 (hA) rfl) rfl ?_
        refine EvF.gop 62 (go_iload_n d_Mod_pattern_61 rfl 2 rfl) rfl ?_
        refine EvF.gop 63 (go_iald (j := k) d_Mod_pattern_62 (m0) (rfl) (by omega) (by omega)) rfl ?_
        refine EvF.gop 66 (go_callS [.int (g k)] [.int (bI (cDig (g k)))] c0_Mod_digit sm_Mod_digit lk_Mod_115 d_Mod_pattern_63 (e_Mod_digit G _ (g k)) (by decide) rfl rfl (Nat.le_of_ble_eq_true rfl) rfl) rfl ?_
        refine EvF.gop 95 (go_if_ne_t 95 d_Mod_pattern_66 (by decide) (c1)) rfl ?_
        refine EvF.gop 96 (go_aload_n d_Mod_pattern_95 rfl 0 rfl) rfl ?_
        refine EvF.gop 99 (go_get f_Mod_7 d_Mod_pattern_96 (hA) rfl) rfl ?_
        refine EvF.gop 100 (go_iload_n d_Mod_pattern_99 rfl 2 rfl) rfl ?_
        refine EvF.gop 101 (go_iald (j := k) d_Mod_pattern_100 (m0) (rfl) (by omega) (by omega)) rfl ?_
        refine EvF.gop 104 (go_callS [.int (g k)] [.int (bI (cDig (g k)))] c0_Mod_digit sm_Mod_digit lk_Mod_115 d_Mod_pattern_101 (e_Mod_digit G _ (g k)) (by decide) rfl rfl (Nat.le_of_ble_eq_true rfl) rfl) rfl ?_
        refine EvF.gop 110 (go_if_ne_t 110 d_Mod_pattern_104 (by decide) (c1)) rfl ?_
        refine EvF.gop 113 (go_inc1 (n0 := 2) (x := k) [(2, .int (nI (k + 1))), (0, .ref A), (1, .int (nI q))] d_Mod_pattern_110 rfl (by decide) rfl) rfl ?_
        refine EvF.go (go_pick [1, 2, 0] [(0, .ref A), (1, .int (nI q)), (2, .int (nI (k + 1)))] rfl) ?_
        refine EvF.gop 16 (go_goto 16 d_Mod_pattern_113 (by decide)) rfl ?_
        rw [if_pos (show cDig (g k) = true by assumption)] at hp
        rw [if_neg (show ¬ (0 < k ∧ cDig (g (k - 1)) = true) from by rintro ⟨q1, q2⟩; first | omega | exact absurd (q2.symm.trans ‹cDig (g (k - 1)) = false›) (by decide))] at hp
        exact ih (k + 1) _ (by omega) hp
      · have c4x : 0 < k := Nat.lt_of_not_le (fun q9 => c4 ((nI_leI (a := k) (b := 0) (by omega) (by decide)).mpr q9))
        have c4y : ¬ k ≤ 0 := by omega
        refine EvF.gop 40 (go_if_le_f 57 d_Mod_pattern_37 (by decide) (c4)) rfl ?_
        refine EvF.gop 41 (go_aload_n d_Mod_pattern_40 rfl 0 rfl) rfl ?_
        refine EvF.gop 44 (go_get f_Mod_7 d_Mod_pattern_41 (hA) rfl) rfl ?_
        refine EvF.gop 45 (go_iload_n d_Mod_pattern_44 rfl 2 rfl) rfl ?_
        refine EvF.gop 46 (go_iconst (v := 1) d_Mod_pattern_45 (by decide)) rfl ?_
        refine EvF.gop 47 (go_isub d_Mod_pattern_46) rfl ?_
        refine EvF.go (go_v (y := nI (k - 1)) (pk_sub (b := 1) (by omega))) ?_
        refine EvF.gop 48 (go_iald (j := (k - 1)) d_Mod_pattern_47 (m0) (rfl) (by omega) (by omega)) rfl ?_
        refine EvF.gop 51 (go_callS [.int (g (k - 1))] [.int (bI (cDig (g (k - 1))))] c0_Mod_digit sm_Mod_digit lk_Mod_115 d_Mod_pattern_48 (e_Mod_digit G _ (g (k - 1))) (by decide) rfl rfl (Nat.le_of_ble_eq_true rfl) rfl) rfl ?_
        by_cases c5 : (bI (cDig (g (k - 1)))) = 0
        · have c5x : (cDig (g (k - 1))) = false := bI_0.mp c5
          refine EvF.gop 57 (go_if_eq_t 57 d_Mod_pattern_51 (by decide) (c5)) rfl ?_
          refine EvF.gop 58 (go_aload_n d_Mod_pattern_57 rfl 0 rfl) rfl ?_
          refine EvF.gop 61 (go_get f_Mod_7 d_Mod_pattern_58 (hA) rfl) rfl ?_
          refine EvF.gop 62 (go_iload_n d_Mod_pattern_61 rfl 2 rfl) rfl ?_
          refine EvF.gop 63 (go_iald (j := k) d_Mod_pattern_62 (m0) (rfl) (by omega) (by omega)) rfl ?_
          refine EvF.gop 66 (go_callS [.int (g k)] [.int (bI (cDig (g k)))] c0_Mod_digit sm_Mod_digit lk_Mod_115 d_Mod_pattern_63 (e_Mod_digit G _ (g k)) (by decide) rfl rfl (Nat.le_of_ble_eq_true rfl) rfl) rfl ?_
          refine EvF.gop 95 (go_if_ne_t 95 d_Mod_pattern_66 (by decide) (c1)) rfl ?_
          refine EvF.gop 96 (go_aload_n d_Mod_pattern_95 rfl 0 rfl) rfl ?_
          refine EvF.gop 99 (go_get f_Mod_7 d_Mod_pattern_96 (hA) rfl) rfl ?_
          refine EvF.gop 100 (go_iload_n d_Mod_pattern_99 rfl 2 rfl) rfl ?_
          refine EvF.gop 101 (go_iald (j := k) d_Mod_pattern_100 (m0) (rfl) (by omega) (by omega)) rfl ?_
          refine EvF.gop 104 (go_callS [.int (g k)] [.int (bI (cDig (g k)))] c0_Mod_digit sm_Mod_digit lk_Mod_115 d_Mod_pattern_101 (e_Mod_digit G _ (g k)) (by decide) rfl rfl (Nat.le_of_ble_eq_true rfl) rfl) rfl ?_
          refine EvF.gop 110 (go_if_ne_t 110 d_Mod_pattern_104 (by decide) (c1)) rfl ?_
          refine EvF.gop 113 (go_inc1 (n0 := 2) (x := k) [(2, .int (nI (k + 1))), (0, .ref A), (1, .int (nI q))] d_Mod_pattern_110 rfl (by decide) rfl) rfl ?_
          refine EvF.go (go_pick [1, 2, 0] [(0, .ref A), (1, .int (nI q)), (2, .int (nI (k + 1)))] rfl) ?_
          refine EvF.gop 16 (go_goto 16 d_Mod_pattern_113 (by decide)) rfl ?_
          rw [if_pos (show cDig (g k) = true by assumption)] at hp
          rw [if_neg (show ¬ (0 < k ∧ cDig (g (k - 1)) = true) from by rintro ⟨q1, q2⟩; first | omega | exact absurd (q2.symm.trans ‹cDig (g (k - 1)) = false›) (by decide))] at hp
          exact ih (k + 1) _ (by omega) hp
        · have c5x : (cDig (g (k - 1))) = true := bI_n0.mp c5
          refine EvF.gop 54 (go_if_eq_f 57 d_Mod_pattern_51 (by decide) (c5)) rfl ?_
          refine EvF.gop 56 (go_bipush (v := (-3)) d_Mod_pattern_54 (by decide)) rfl ?_
          rw [if_pos (show cDig (g k) = true by assumption)] at hp
          rw [if_pos (show 0 < k ∧ cDig (g (k - 1)) = true from ⟨by omega, by assumption⟩)] at hp
          exact EvF.ri d_Mod_pattern_56 rfl (rfl) (rfl)
theorem g_Mod_pa2 (G : gG) (M : gM) (A : Nat) (a : Nat → Nat) (s : Nat → Int32) (c : Int64) (g : Nat → Int32) (m : Nat) (hI : InjA A a) (hA : gRd M A = some (.inr (11, oMod a s c))) (m0 : gRd M (a 0) = some (aI G 60 g)) (h1 : s 1 = nI m) (hm : m ≤ 60) (n : Nat) (hn1 : 1 ≤ n) (hn : n ≤ 5) : ∀ r k x : Nat, k + r = m → x ≤ k → p2F g n r k x = true → Go G m_Mod_pattern 1 (133, [(0, .ref A), (1, .int (nI n)), (2, .int (nI x)), (3, .int (nI k))], [], M) (190, [(0, .ref A), (1, .int (nI n))], [], M) := by
  intro r
  induction r with
  | zero =>
    intro k x hk hxk hp
    refine Go.trp 134 (go_iload_n d_Mod_pattern_133 rfl 3 rfl) rfl ?_
    refine Go.trp 135 (go_aload_n d_Mod_pattern_134 rfl 0 rfl) rfl ?_
    refine Go.trp 138 (go_get f_Mod_118 d_Mod_pattern_135 (hA) rfl) rfl ?_
    refine Go.trp 190 (go_icmp_ge_t 190 d_Mod_pattern_138 (by decide) (show s 1 ≤ nI k from by rw [h1]; exact nI_le (by omega) (by omega))) rfl ?_
    refine (go_pick [0, 1] [(0, .ref A), (1, .int (nI n))] rfl).tr ?_
    exact Go.rf
  | succ r ih =>
    intro k x hk hxk hp
    unfold p2F at hp
    refine Go.trp 134 (go_iload_n d_Mod_pattern_133 rfl 3 rfl) rfl ?_
    refine Go.trp 135 (go_aload_n d_Mod_pattern_134 rfl 0 rfl) rfl ?_
    refine Go.trp 138 (go_get f_Mod_118 d_Mod_pattern_135 (hA) rfl) rfl ?_
    refine Go.trp 141 (go_icmp_ge_f 190 d_Mod_pattern_138 (by decide) (show ¬ s 1 ≤ nI k from by rw [h1]; exact nI_ge (by omega) (by omega))) rfl ?_
    refine Go.trp 142 (go_aload_n d_Mod_pattern_141 rfl 0 rfl) rfl ?_
    refine Go.trp 145 (go_get f_Mod_7 d_Mod_pattern_142 (hA) rfl) rfl ?_
    refine Go.trp 146 (go_iload_n d_Mod_pattern_145 rfl 3 rfl) rfl ?_
    refine Go.trp 147 (go_iald (j := k) d_Mod_pattern_146 (m0) (rfl) (by omega) (by omega)) rfl ?_
    refine Go.trp 150 (go_callS [.int (g k)] [.int (bI (cDig (g k)))] c0_Mod_digit sm_Mod_digit lk_Mod_115 d_Mod_pattern_147 (e_Mod_digit G _ (g k)) (by decide) rfl rfl (Nat.le_of_ble_eq_true rfl) rfl) rfl ?_
    by_cases c1 : (bI (cDig (g k))) = 0
    · have c1x : (cDig (g k)) = false := bI_0.mp c1
      refine Go.trp 156 (go_if_eq_t 156 d_Mod_pattern_150 (by decide) (c1)) rfl ?_
      refine Go.trp 157 (go_aload_n d_Mod_pattern_156 rfl 0 rfl) rfl ?_
      refine Go.trp 160 (go_get f_Mod_7 d_Mod_pattern_157 (hA) rfl) rfl ?_
      refine Go.trp 161 (go_iload_n d_Mod_pattern_160 rfl 3 rfl) rfl ?_
      refine Go.trp 162 (go_iald (j := k) d_Mod_pattern_161 (m0) (rfl) (by omega) (by omega)) rfl ?_
      refine Go.trp 164 (go_bipush (v := 46) d_Mod_pattern_162 (by decide)) rfl ?_
      by_cases c2 : (g k) = 46
      · refine Go.trp 167 (go_icmp_ne_f 181 d_Mod_pattern_164 (by decide) (c2)) rfl ?_
        refine Go.trp 168 (go_iload_n d_Mod_pattern_167 rfl 2 rfl) rfl ?_
        by_cases c3 : (nI x) ≤ 0
        · have c3x : x ≤ 0 := (nI_leI (a := x) (b := 0) (by omega) (by decide)).mp c3
          have c3y : ¬ 0 < x := by omega
          refine Go.trp 181 (go_if_le_t 181 d_Mod_pattern_168 (by decide) (c3)) rfl ?_
          refine Go.trp 184 (go_inc1 (n0 := 2) (x := x) [(2, .int (nI (x + 1))), (0, .ref A), (1, .int (nI n)), (3, .int (nI k))] d_Mod_pattern_181 rfl (by decide) rfl) rfl ?_
          refine (go_pick [1, 2, 0, 3] [(0, .ref A), (1, .int (nI n)), (2, .int (nI (x + 1))), (3, .int (nI k))] rfl).tr ?_
          refine Go.trp 187 (go_inc1 (n0 := 3) (x := k) [(3, .int (nI (k + 1))), (0, .ref A), (1, .int (nI n)), (2, .int (nI (x + 1)))] d_Mod_pattern_184 rfl (by decide) rfl) rfl ?_
          refine (go_pick [1, 2, 3, 0] [(0, .ref A), (1, .int (nI n)), (2, .int (nI (x + 1))), (3, .int (nI (k + 1)))] rfl).tr ?_
          refine Go.trp 133 (go_goto 133 d_Mod_pattern_187 (by decide)) rfl ?_
          rw [if_neg (show ¬ cDig (g k) = true from by rw [‹cDig (g k) = false›]; decide)] at hp
          rw [if_neg (show ¬ (g k = 46 ∧ 0 < x ∧ x + 1 < n) from by rintro ⟨q1, q2, q3⟩; first | omega | exact absurd q1 (by assumption))] at hp
          exact ih (k + 1) _ (by omega) (by omega) hp
        · have c3x : 0 < x := Nat.lt_of_not_le (fun q9 => c3 ((nI_leI (a := x) (b := 0) (by omega) (by decide)).mpr q9))
          have c3y : ¬ x ≤ 0 := by omega
          refine Go.trp 171 (go_if_le_f 181 d_Mod_pattern_168 (by decide) (c3)) rfl ?_
          refine Go.trp 172 (go_iload_n d_Mod_pattern_171 rfl 2 rfl) rfl ?_
          refine Go.trp 173 (go_iload_n d_Mod_pattern_172 rfl 1 rfl) rfl ?_
          refine Go.trp 174 (go_iconst (v := 1) d_Mod_pattern_173 (by decide)) rfl ?_
          refine Go.trp 175 (go_isub d_Mod_pattern_174) rfl ?_
          refine (go_v (y := nI (n - 1)) (pk_sub (b := 1) (by omega))).tr ?_
          by_cases c4 : (nI (n - 1)) ≤ (nI x)
          · have c4x : (n - 1) ≤ x := (nI_leI (a := (n - 1)) (b := x) (by omega) (by omega)).mp c4
            have c4y : ¬ x < (n - 1) := by omega
            refine Go.trp 181 (go_icmp_ge_t 181 d_Mod_pattern_175 (by decide) (c4)) rfl ?_
            refine Go.trp 184 (go_inc1 (n0 := 2) (x := x) [(2, .int (nI (x + 1))), (0, .ref A), (1, .int (nI n)), (3, .int (nI k))] d_Mod_pattern_181 rfl (by decide) rfl) rfl ?_
            refine (go_pick [1, 2, 0, 3] [(0, .ref A), (1, .int (nI n)), (2, .int (nI (x + 1))), (3, .int (nI k))] rfl).tr ?_
            refine Go.trp 187 (go_inc1 (n0 := 3) (x := k) [(3, .int (nI (k + 1))), (0, .ref A), (1, .int (nI n)), (2, .int (nI (x + 1)))] d_Mod_pattern_184 rfl (by decide) rfl) rfl ?_
            refine (go_pick [1, 2, 3, 0] [(0, .ref A), (1, .int (nI n)), (2, .int (nI (x + 1))), (3, .int (nI (k + 1)))] rfl).tr ?_
            refine Go.trp 133 (go_goto 133 d_Mod_pattern_187 (by decide)) rfl ?_
            rw [if_neg (show ¬ cDig (g k) = true from by rw [‹cDig (g k) = false›]; decide)] at hp
            rw [if_neg (show ¬ (g k = 46 ∧ 0 < x ∧ x + 1 < n) from by rintro ⟨q1, q2, q3⟩; first | omega | exact absurd q1 (by assumption))] at hp
            exact ih (k + 1) _ (by omega) (by omega) hp
          · have c4x : x < (n - 1) := Nat.lt_of_not_le (fun q9 => c4 ((nI_leI (a := (n - 1)) (b := x) (by omega) (by omega)).mpr q9))
            have c4y : ¬ (n - 1) ≤ x := by omega
            refine Go.trp 178 (go_icmp_ge_f 181 d_Mod_pattern_175 (by decide) (c4)) rfl ?_
            refine Go.trp 180 (go_bipush (v := (-3)) d_Mod_pattern_178 (by decide)) rfl ?_
            rw [if_neg (show ¬ cDig (g k) = true from by rw [‹cDig (g k) = false›]; decide)] at hp
            rw [if_pos (show g k = 46 ∧ 0 < x ∧ x + 1 < n from ⟨by assumption, by omega, by omega⟩)] at hp
            cases hp
      · refine Go.trp 181 (go_icmp_ne_t 181 d_Mod_pattern_164 (by decide) (c2)) rfl ?_
        refine Go.trp 184 (go_inc1 (n0 := 2) (x := x) [(2, .int (nI (x + 1))), (0, .ref A), (1, .int (nI n)), (3, .int (nI k))] d_Mod_pattern_181 rfl (by decide) rfl) rfl ?_
        refine (go_pick [1, 2, 0, 3] [(0, .ref A), (1, .int (nI n)), (2, .int (nI (x + 1))), (3, .int (nI k))] rfl).tr ?_
        refine Go.trp 187 (go_inc1 (n0 := 3) (x := k) [(3, .int (nI (k + 1))), (0, .ref A), (1, .int (nI n)), (2, .int (nI (x + 1)))] d_Mod_pattern_184 rfl (by decide) rfl) rfl ?_
        refine (go_pick [1, 2, 3, 0] [(0, .ref A), (1, .int (nI n)), (2, .int (nI (x + 1))), (3, .int (nI (k + 1)))] rfl).tr ?_
        refine Go.trp 133 (go_goto 133 d_Mod_pattern_187 (by decide)) rfl ?_
        rw [if_neg (show ¬ cDig (g k) = true from by rw [‹cDig (g k) = false›]; decide)] at hp
        rw [if_neg (show ¬ (g k = 46 ∧ 0 < x ∧ x + 1 < n) from by rintro ⟨q1, q2, q3⟩; first | omega | exact absurd q1 (by assumption))] at hp
        exact ih (k + 1) _ (by omega) (by omega) hp
    · have c1x : (cDig (g k)) = true := bI_n0.mp c1
      refine Go.trp 153 (go_if_eq_f 156 d_Mod_pattern_150 (by decide) (c1)) rfl ?_
      refine Go.trp 184 (go_goto 184 d_Mod_pattern_153 (by decide)) rfl ?_
      refine Go.trp 187 (go_inc1 (n0 := 3) (x := k) [(3, .int (nI (k + 1))), (0, .ref A), (1, .int (nI n)), (2, .int (nI x))] d_Mod_pattern_184 rfl (by decide) rfl) rfl ?_
      refine (go_pick [1, 2, 3, 0] [(0, .ref A), (1, .int (nI n)), (2, .int (nI x)), (3, .int (nI (k + 1)))] rfl).tr ?_
      refine Go.trp 133 (go_goto 133 d_Mod_pattern_187 (by decide)) rfl ?_
      rw [if_pos (show cDig (g k) = true by assumption)] at hp
      exact ih (k + 1) _ (by omega) (by omega) hp
theorem g_Mod_pa2S (G : gG) (M : gM) (A : Nat) (a : Nat → Nat) (s : Nat → Int32) (c : Int64) (g : Nat → Int32) (m : Nat) (hI : InjA A a) (hA : gRd M A = some (.inr (11, oMod a s c))) (m0 : gRd M (a 0) = some (aI G 60 g)) (h1 : s 1 = nI m) (hm : m ≤ 60) (n : Nat) (hn1 : 1 ≤ n) (hn : n ≤ 5) : ∀ r k x : Nat, k + r = m → x ≤ k → p2F g n r k x = false → EvF G 1 m_Mod_pattern (133, [(0, .ref A), (1, .int (nI n)), (2, .int (nI x)), (3, .int (nI k))], [], M) (some (.int (-3))) M := by
  intro r
  induction r with
  | zero =>
    intro k x hk hxk hp
    cases hp
  | succ r ih =>
    intro k x hk hxk hp
    unfold p2F at hp
    refine EvF.gop 134 (go_iload_n d_Mod_pattern_133 rfl 3 rfl) rfl ?_
    refine EvF.gop 135 (go_aload_n d_Mod_pattern_134 rfl 0 rfl) rfl ?_
    refine EvF.gop 138 (go_get f_Mod_118 d_Mod_pattern_135 (hA) rfl) rfl ?_
    refine EvF.gop 141 (go_icmp_ge_f 190 d_Mod_pattern_138 (by decide) (show ¬ s 1 ≤ nI k from by rw [h1]; exact nI_ge (by omega) (by omega))) rfl ?_
    refine EvF.gop 142 (go_aload_n d_Mod_pattern_141 rfl 0 rfl) rfl ?_
    refine EvF.gop 145 (go_get f_Mod_7 d_Mod_pattern_142 (hA) rfl) rfl ?_
    refine EvF.gop 146 (go_iload_n d_Mod_pattern_145 rfl 3 rfl) rfl ?_
    refine EvF.gop 147 (go_iald (j := k) d_Mod_pattern_146 (m0) (rfl) (by omega) (by omega)) rfl ?_
    refine EvF.gop 150 (go_callS [.int (g k)] [.int (bI (cDig (g k)))] c0_Mod_digit sm_Mod_digit lk_Mod_115 d_Mod_pattern_147 (e_Mod_digit G _ (g k)) (by decide) rfl rfl (Nat.le_of_ble_eq_true rfl) rfl) rfl ?_
    by_cases c1 : (bI (cDig (g k))) = 0
    · have c1x : (cDig (g k)) = false := bI_0.mp c1
      refine EvF.gop 156 (go_if_eq_t 156 d_Mod_pattern_150 (by decide) (c1)) rfl ?_
      refine EvF.gop 157 (go_aload_n d_Mod_pattern_156 rfl 0 rfl) rfl ?_
      refine EvF.gop 160 (go_get f_Mod_7 d_Mod_pattern_157 (hA) rfl) rfl ?_
      refine EvF.gop 161 (go_iload_n d_Mod_pattern_160 rfl 3 rfl) rfl ?_
      refine EvF.gop 162 (go_iald (j := k) d_Mod_pattern_161 (m0) (rfl) (by omega) (by omega)) rfl ?_
      refine EvF.gop 164 (go_bipush (v := 46) d_Mod_pattern_162 (by decide)) rfl ?_
      by_cases c2 : (g k) = 46
      · refine EvF.gop 167 (go_icmp_ne_f 181 d_Mod_pattern_164 (by decide) (c2)) rfl ?_
        refine EvF.gop 168 (go_iload_n d_Mod_pattern_167 rfl 2 rfl) rfl ?_
        by_cases c3 : (nI x) ≤ 0
        · have c3x : x ≤ 0 := (nI_leI (a := x) (b := 0) (by omega) (by decide)).mp c3
          have c3y : ¬ 0 < x := by omega
          refine EvF.gop 181 (go_if_le_t 181 d_Mod_pattern_168 (by decide) (c3)) rfl ?_
          refine EvF.gop 184 (go_inc1 (n0 := 2) (x := x) [(2, .int (nI (x + 1))), (0, .ref A), (1, .int (nI n)), (3, .int (nI k))] d_Mod_pattern_181 rfl (by decide) rfl) rfl ?_
          refine EvF.go (go_pick [1, 2, 0, 3] [(0, .ref A), (1, .int (nI n)), (2, .int (nI (x + 1))), (3, .int (nI k))] rfl) ?_
          refine EvF.gop 187 (go_inc1 (n0 := 3) (x := k) [(3, .int (nI (k + 1))), (0, .ref A), (1, .int (nI n)), (2, .int (nI (x + 1)))] d_Mod_pattern_184 rfl (by decide) rfl) rfl ?_
          refine EvF.go (go_pick [1, 2, 3, 0] [(0, .ref A), (1, .int (nI n)), (2, .int (nI (x + 1))), (3, .int (nI (k + 1)))] rfl) ?_
          refine EvF.gop 133 (go_goto 133 d_Mod_pattern_187 (by decide)) rfl ?_
          rw [if_neg (show ¬ cDig (g k) = true from by rw [‹cDig (g k) = false›]; decide)] at hp
          rw [if_neg (show ¬ (g k = 46 ∧ 0 < x ∧ x + 1 < n) from by rintro ⟨q1, q2, q3⟩; first | omega | exact absurd q1 (by assumption))] at hp
          exact ih (k + 1) _ (by omega) (by omega) hp
        · have c3x : 0 < x := Nat.lt_of_not_le (fun q9 => c3 ((nI_leI (a := x) (b := 0) (by omega) (by decide)).mpr q9))
          have c3y : ¬ x ≤ 0 := by omega
          refine EvF.gop 171 (go_if_le_f 181 d_Mod_pattern_168 (by decide) (c3)) rfl ?_
          refine EvF.gop 172 (go_iload_n d_Mod_pattern_171 rfl 2 rfl) rfl ?_
          refine EvF.gop 173 (go_iload_n d_Mod_pattern_172 rfl 1 rfl) rfl ?_
          refine EvF.gop 174 (go_iconst (v := 1) d_Mod_pattern_173 (by decide)) rfl ?_
          refine EvF.gop 175 (go_isub d_Mod_pattern_174) rfl ?_
          refine EvF.go (go_v (y := nI (n - 1)) (pk_sub (b := 1) (by omega))) ?_
          by_cases c4 : (nI (n - 1)) ≤ (nI x)
          · have c4x : (n - 1) ≤ x := (nI_leI (a := (n - 1)) (b := x) (by omega) (by omega)).mp c4
            have c4y : ¬ x < (n - 1) := by omega
            refine EvF.gop 181 (go_icmp_ge_t 181 d_Mod_pattern_175 (by decide) (c4)) rfl ?_
            refine EvF.gop 184 (go_inc1 (n0 := 2) (x := x) [(2, .int (nI (x + 1))), (0, .ref A), (1, .int (nI n)), (3, .int (nI k))] d_Mod_pattern_181 rfl (by decide) rfl) rfl ?_
            refine EvF.go (go_pick [1, 2, 0, 3] [(0, .ref A), (1, .int (nI n)), (2, .int (nI (x + 1))), (3, .int (nI k))] rfl) ?_
            refine EvF.gop 187 (go_inc1 (n0 := 3) (x := k) [(3, .int (nI (k + 1))), (0, .ref A), (1, .int (nI n)), (2, .int (nI (x + 1)))] d_Mod_pattern_184 rfl (by decide) rfl) rfl ?_
            refine EvF.go (go_pick [1, 2, 3, 0] [(0, .ref A), (1, .int (nI n)), (2, .int (nI (x + 1))), (3, .int (nI (k + 1)))] rfl) ?_
            refine EvF.gop 133 (go_goto 133 d_Mod_pattern_187 (by decide)) rfl ?_
            rw [if_neg (show ¬ cDig (g k) = true from by rw [‹cDig (g k) = false›]; decide)] at hp
            rw [if_neg (show ¬ (g k = 46 ∧ 0 < x ∧ x + 1 < n) from by rintro ⟨q1, q2, q3⟩; first | omega | exact absurd q1 (by assumption))] at hp
            exact ih (k + 1) _ (by omega) (by omega) hp
          · have c4x : x < (n - 1) := Nat.lt_of_not_le (fun q9 => c4 ((nI_leI (a := (n - 1)) (b := x) (by omega) (by omega)).mpr q9))
            have c4y : ¬ (n - 1) ≤ x := by omega
            refine EvF.gop 178 (go_icmp_ge_f 181 d_Mod_pattern_175 (by decide) (c4)) rfl ?_
            refine EvF.gop 180 (go_bipush (v := (-3)) d_Mod_pattern_178 (by decide)) rfl ?_
            rw [if_neg (show ¬ cDig (g k) = true from by rw [‹cDig (g k) = false›]; decide)] at hp
            rw [if_pos (show g k = 46 ∧ 0 < x ∧ x + 1 < n from ⟨by assumption, by omega, by omega⟩)] at hp
            exact EvF.ri d_Mod_pattern_180 rfl (rfl) (rfl)
      · refine EvF.gop 181 (go_icmp_ne_t 181 d_Mod_pattern_164 (by decide) (c2)) rfl ?_
        refine EvF.gop 184 (go_inc1 (n0 := 2) (x := x) [(2, .int (nI (x + 1))), (0, .ref A), (1, .int (nI n)), (3, .int (nI k))] d_Mod_pattern_181 rfl (by decide) rfl) rfl ?_
        refine EvF.go (go_pick [1, 2, 0, 3] [(0, .ref A), (1, .int (nI n)), (2, .int (nI (x + 1))), (3, .int (nI k))] rfl) ?_
        refine EvF.gop 187 (go_inc1 (n0 := 3) (x := k) [(3, .int (nI (k + 1))), (0, .ref A), (1, .int (nI n)), (2, .int (nI (x + 1)))] d_Mod_pattern_184 rfl (by decide) rfl) rfl ?_
        refine EvF.go (go_pick [1, 2, 3, 0] [(0, .ref A), (1, .int (nI n)), (2, .int (nI (x + 1))), (3, .int (nI (k + 1)))] rfl) ?_
        refine EvF.gop 133 (go_goto 133 d_Mod_pattern_187 (by decide)) rfl ?_
        rw [if_neg (show ¬ cDig (g k) = true from by rw [‹cDig (g k) = false›]; decide)] at hp
        rw [if_neg (show ¬ (g k = 46 ∧ 0 < x ∧ x + 1 < n) from by rintro ⟨q1, q2, q3⟩; first | omega | exact absurd q1 (by assumption))] at hp
        exact ih (k + 1) _ (by omega) (by omega) hp
    · have c1x : (cDig (g k)) = true := bI_n0.mp c1
      refine EvF.gop 153 (go_if_eq_f 156 d_Mod_pattern_150 (by decide) (c1)) rfl ?_
      refine EvF.gop 184 (go_goto 184 d_Mod_pattern_153 (by decide)) rfl ?_
      refine EvF.gop 187 (go_inc1 (n0 := 3) (x := k) [(3, .int (nI (k + 1))), (0, .ref A), (1, .int (nI n)), (2, .int (nI x))] d_Mod_pattern_184 rfl (by decide) rfl) rfl ?_
      refine EvF.go (go_pick [1, 2, 3, 0] [(0, .ref A), (1, .int (nI n)), (2, .int (nI x)), (3, .int (nI (k + 1)))] rfl) ?_
      refine EvF.gop 133 (go_goto 133 d_Mod_pattern_187 (by decide)) rfl ?_
      rw [if_pos (show cDig (g k) = true by assumption)] at hp
      exact ih (k + 1) _ (by omega) (by omega) hp
theorem g_Mod_pa3 (G : gG) (M : gM) (A : Nat) (a : Nat → Nat) (s : Nat → Int32) (c : Int64) (g lv : Nat → Int32) (m np n : Nat) (hI : InjA A a) (hA : gRd M A = some (.inr (11, oMod a s c))) (m0 : gRd M (a 0) = some (aI G 60 g)) (m7 : gRd M (a 7) = some (aI G 120 lv)) (h1 : s 1 = nI m) (hm : m ≤ 60) (h9 : s 9 = nI np) (hnp : np < 20) : ∀ r k : Nat, k + r = 6 → Go G m_Mod_pattern 1 (192, [(0, .ref A), (1, .int (nI n)), (3, .int (nI k))], [], (gWr M (a 7) (aI G 120 (cpO (fun _ => 0) (np * 6) k lv)))) (219, [(0, .ref A), (1, .int (nI n)), (3, .int (nI 6))], [], (gWr M (a 7) (aI G 120 (cpO (fun _ => 0) (np * 6) 6 lv)))) := by
  intro r
  induction r with
  | zero =>
    intro k hk
    rw [show k = 6 from by omega]
    refine Go.trp 193 (go_iload_n d_Mod_pattern_192 rfl 2 rfl) rfl ?_
    refine Go.trp 195 (go_bipush (v := 6) d_Mod_pattern_193 (by decide)) rfl ?_
    refine Go.trp 219 (go_icmp_ge_t 219 d_Mod_pattern_195 (by decide) (by decide)) rfl ?_
    exact Go.rf
  | succ r ih =>
    intro k hk
    refine Go.trp 193 (go_iload_n d_Mod_pattern_192 rfl 2 rfl) rfl ?_
    refine Go.trp 195 (go_bipush (v := 6) d_Mod_pattern_193 (by decide)) rfl ?_
    refine Go.trp 198 (go_icmp_ge_f 219 d_Mod_pattern_195 (by decide) (nI_ge (b := 6) (by omega) (by decide))) rfl ?_
    refine Go.trp 199 (go_aload_n d_Mod_pattern_198 rfl 0 rfl) rfl ?_
    refine Go.trp 202 (go_get f_Mod_28 d_Mod_pattern_199 ((gRd_n _ _ (hI.2 7)).trans (hA)) rfl) rfl ?_
    refine Go.trp 203 (go_aload_n d_Mod_pattern_202 rfl 0 rfl) rfl ?_
    refine Go.trp 206 (go_get f_Mod_122 d_Mod_pattern_203 ((gRd_n _ _ (hI.2 7)).trans (hA)) rfl) rfl ?_
    refine Go.trp 208 (go_bipush (v := 6) d_Mod_pattern_206 (by decide)) rfl ?_
    refine Go.trp 209 (go_imul d_Mod_pattern_208) rfl ?_
    refine (go_v (y := nI (np * 6)) (show s 9 * 6 = nI (np * 6) from by rw [h9]; exact pk_mul np 6)).tr ?_
    refine Go.trp 210 (go_iload_n d_Mod_pattern_209 rfl 2 rfl) rfl ?_
    refine Go.trp 211 (go_iadd d_Mod_pattern_210) rfl ?_
    refine (go_v (y := nI ((np * 6) + k)) (nI_add (np * 6) k)).tr ?_
    refine Go.trp 212 (go_iconst (v := 0) d_Mod_pattern_211 (by decide)) rfl ?_
    refine Go.trp 213 (go_iast (j := ((np * 6) + k)) d_Mod_pattern_212 (gRd_s _ _ _) (rfl) (by omega) (by omega)) rfl ?_
    refine (go_m (M' := (gWr M (a 7) (aI G 120 (upd (cpO (fun _ => 0) (np * 6) k lv) ((np * 6) + k) 0)))) (gWr_wr M (a 7) (aI G 120 (cpO (fun _ => 0) (np * 6) k lv)) (aI G 120 (upd (cpO (fun _ => 0) (np * 6) k lv) ((np * 6) + k) 0)))).tr ?_
    refine Go.trp 216 (go_inc1 (n0 := 2) (x := k) [(3, .int (nI (k + 1))), (0, .ref A), (1, .int (nI n))] d_Mod_pattern_213 rfl (by decide) rfl) rfl ?_
    refine (go_pick [1, 2, 0] [(0, .ref A), (1, .int (nI n)), (3, .int (nI (k + 1)))] rfl).tr ?_
    refine Go.trp 192 (go_goto 192 d_Mod_pattern_216 (by decide)) rfl ?_
    rw [cpO_s (fun _ => 0)]
    exact ih (k + 1) (by omega)
theorem g_Mod_pa4 (G : gG) (M : gM) (A : Nat) (a : Nat → Nat) (s : Nat → Int32) (c : Int64) (g : Nat → Int32) (m np n : Nat) (hI : InjA A a) (m0 : gRd M (a 0) = some (aI G 60 g)) (h1 : s 1 = nI m) (hm : m ≤ 60) (h9 : s 9 = nI np) (hnp : np < 20) (hn : n ≤ 5) : ∀ (r k x : Nat) (lv sg : Nat → Int32), k + r = m → x + nzF g r k = n → Go G m_Mod_pattern 1 (223, [(0, .ref A), (1, .int (nI n)), (2, .int (nI x)), (3, .int (nI k))], [], (gWr (gWr (gWr M (a 7) (aI G 120 lv)) (a 6) (aI G 100 sg)) A (.inr (11, oMod a s c)))) (297, [(0, .ref A), (1, .int (nI n))], [], (gWr (gWr (gWr M (a 7) (aI G 120 ((p4F g np r k x lv sg).1))) (a 6) (aI G 100 ((p4F g np r k x lv sg).2))) A (.inr (11, oMod a s c)))) := by
  intro r
  induction r with
  | zero =>
    intro k x lv sg hk hx
    refine Go.trp 224 (go_iload_n d_Mod_pattern_223 rfl 3 rfl) rfl ?_
    refine Go.trp 225 (go_aload_n d_Mod_pattern_224 rfl 0 rfl) rfl ?_
    refine Go.trp 228 (go_get f_Mod_118 d_Mod_pattern_225 (gRd_s _ _ _) rfl) rfl ?_
    refine Go.trp 297 (go_icmp_ge_t 297 d_Mod_pattern_228 (by decide) (show s 1 ≤ nI k from by rw [h1]; exact nI_le (by omega) (by omega))) rfl ?_
    refine (go_pick [0, 1] [(0, .ref A), (1, .int (nI n))] rfl).tr ?_
    exact Go.rf
  | succ r ih =>
    intro k x lv sg hk hx
    rw [show nzF g (r + 1) k = (if cDig (g k) = true then 0 else 1) + nzF g r (k + 1) from rfl] at hx
    refine Go.trp 224 (go_iload_n d_Mod_pattern_223 rfl 3 rfl) rfl ?_
    refine Go.trp 225 (go_aload_n d_Mod_pattern_224 rfl 0 rfl) rfl ?_
    refine Go.trp 228 (go_get f_Mod_118 d_Mod_pattern_225 (gRd_s _ _ _) rfl) rfl ?_
    refine Go.trp 231 (go_icmp_ge_f 297 d_Mod_pattern_228 (by decide) (show ¬ s 1 ≤ nI k from by rw [h1]; exact nI_ge (by omega) (by omega))) rfl ?_
    refine Go.trp 232 (go_aload_n d_Mod_pattern_231 rfl 0 rfl) rfl ?_
    refine Go.trp 235 (go_get f_Mod_7 d_Mod_pattern_232 (gRd_s _ _ _) rfl) rfl ?_
    refine Go.trp 236 (go_iload_n d_Mod_pattern_235 rfl 3 rfl) rfl ?_
    refine Go.trp 237 (go_iald (j := k) d_Mod_pattern_236 ((gRd_n _ _ (Ne.symm (hI.2 0))).trans ((gRd_n _ _ (hI.n (i := 0) (j := 6) (by decide))).trans ((gRd_n _ _ (hI.n (i := 0) (j := 7) (by decide))).trans (m0)))) (rfl) (by omega) (by omega)) rfl ?_
    refine Go.trp 240 (go_callS [.int (g k)] [.int (bI (cDig (g k)))] c0_Mod_digit sm_Mod_digit lk_Mod_115 d_Mod_pattern_237 (e_Mod_digit G _ (g k)) (by decide) rfl rfl (Nat.le_of_ble_eq_true rfl) rfl) rfl ?_
    by_cases c1 : (bI (cDig (g k))) = 0
    · have c1x : (cDig (g k)) = false := bI_0.mp c1
      refine Go.trp 269 (go_if_eq_t 269 d_Mod_pattern_240 (by decide) (c1)) rfl ?_
      rw [if_neg (show ¬ cDig (g k) = true from by rw [‹cDig (g k) = false›]; decide)] at hx
      refine Go.trp 270 (go_aload_n d_Mod_pattern_269 rfl 0 rfl) rfl ?_
      refine Go.trp 273 (go_get f_Mod_25 d_Mod_pattern_270 (gRd_s _ _ _) rfl) rfl ?_
      refine Go.trp 274 (go_aload_n d_Mod_pattern_273 rfl 0 rfl) rfl ?_
      refine Go.trp 277 (go_get f_Mod_122 d_Mod_pattern_274 (gRd_s _ _ _) rfl) rfl ?_
      refine Go.trp 278 (go_iconst (v := 5) d_Mod_pattern_277 (by decide)) rfl ?_
      refine Go.trp 279 (go_imul d_Mod_pattern_278) rfl ?_
      refine (go_v (y := nI (np * 5)) (show s 9 * 5 = nI (np * 5) from by rw [h9]; exact pk_mul np 5)).tr ?_
      refine Go.trp 280 (go_iload_n d_Mod_pattern_279 rfl 2 rfl) rfl ?_
      refine Go.trp 281 (go_iadd d_Mod_pattern_280) rfl ?_
      refine (go_v (y := nI ((np * 5) + x)) (nI_add (np * 5) x)).tr ?_
      refine Go.trp 282 (go_aload_n d_Mod_pattern_281 rfl 0 rfl) rfl ?_
      refine Go.trp 285 (go_get f_Mod_7 d_Mod_pattern_282 (gRd_s _ _ _) rfl) rfl ?_
      refine Go.trp 286 (go_iload_n d_Mod_pattern_285 rfl 3 rfl) rfl ?_
      refine Go.trp 287 (go_iald (j := k) d_Mod_pattern_286 ((gRd_n _ _ (Ne.symm (hI.2 0))).trans ((gRd_n _ _ (hI.n (i := 0) (j := 6) (by decide))).trans ((gRd_n _ _ (hI.n (i := 0) (j := 7) (by decide))).trans (m0)))) (rfl) (by omega) (by omega)) rfl ?_
      refine Go.trp 288 (go_iast (j := ((np * 5) + x)) d_Mod_pattern_287 ((gRd_n _ _ (Ne.symm (hI.2 6))).trans (gRd_s _ _ _)) (rfl) (by omega) (by omega)) rfl ?_
      refine (go_m (M' := (gWr (gWr (gWr M (a 7) (aI G 120 lv)) (a 6) (aI G 100 (upd sg ((np * 5) + x) (g k)))) A (.inr (11, oMod a s c)))) ((gWr_cm (gWr (gWr M (a 7) (aI G 120 lv)) (a 6) (aI G 100 sg)) (.inr (11, oMod a s c)) (aI G 100 (upd sg ((np * 5) + x) (g k))) (hI.2 6)).trans (congrArg (fun mZ => gWr mZ A (.inr (11, oMod a s c))) (gWr_wr (gWr M (a 7) (aI G 120 lv)) (a 6) (aI G 100 sg) (aI G 100 (upd sg ((np * 5) + x) (g k))))))).tr ?_
      refine Go.trp 291 (go_inc1 (n0 := 2) (x := x) [(2, .int (nI (x + 1))), (0, .ref A), (1, .int (nI n)), (3, .int (nI k))] d_Mod_pattern_288 rfl (by decide) rfl) rfl ?_
      refine (go_pick [1, 2, 0, 3] [(0, .ref A), (1, .int (nI n)), (2, .int (nI (x + 1))), (3, .int (nI k))] rfl).tr ?_
      refine Go.trp 294 (go_inc1 (n0 := 3) (x := k) [(3, .int (nI (k + 1))), (0, .ref A), (1, .int (nI n)), (2, .int (nI (x + 1)))] d_Mod_pattern_291 rfl (by decide) rfl) rfl ?_
      refine (go_pick [1, 2, 3, 0] [(0, .ref A), (1, .int (nI n)), (2, .int (nI (x + 1))), (3, .int (nI (k + 1)))] rfl).tr ?_
      refine Go.trp 223 (go_goto 223 d_Mod_pattern_294 (by decide)) rfl ?_
      rw [show (p4F g np (r + 1) k x lv sg) = (p4F g np r (k + 1) (x + 1) lv (upd sg (np * 5 + x) (g k))) from if_neg (by rw [‹cDig (g k) = false›]; decide)]
      exact ih (k + 1) _ _ _ (by omega) (by omega)
    · have c1x : (cDig (g k)) = true := bI_n0.mp c1
      refine Go.trp 243 (go_if_eq_f 269 d_Mod_pattern_240 (by decide) (c1)) rfl ?_
      rw [if_pos (show cDig (g k) = true by assumption)] at hx
      refine Go.trp 244 (go_aload_n d_Mod_pattern_243 rfl 0 rfl) rfl ?_
      refine Go.trp 247 (go_get f_Mod_28 d_Mod_pattern_244 (gRd_s _ _ _) rfl) rfl ?_
      refine Go.trp 248 (go_aload_n d_Mod_pattern_247 rfl 0 rfl) rfl ?_
      refine Go.trp 251 (go_get f_Mod_122 d_Mod_pattern_248 (gRd_s _ _ _) rfl) rfl ?_
      refine Go.trp 253 (go_bipush (v := 6) d_Mod_pattern_251 (by decide)) rfl ?_
      refine Go.trp 254 (go_imul d_Mod_pattern_253) rfl ?_
      refine (go_v (y := nI (np * 6)) (show s 9 * 6 = nI (np * 6) from by rw [h9]; exact pk_mul np 6)).tr ?_
      refine Go.trp 255 (go_iload_n d_Mod_pattern_254 rfl 2 rfl) rfl ?_
      refine Go.trp 256 (go_iadd d_Mod_pattern_255) rfl ?_
      refine (go_v (y := nI ((np * 6) + x)) (nI_add (np * 6) x)).tr ?_
      refine Go.trp 257 (go_aload_n d_Mod_pattern_256 rfl 0 rfl) rfl ?_
      refine Go.trp 260 (go_get f_Mod_7 d_Mod_pattern_257 (gRd_s _ _ _) rfl) rfl ?_
      refine Go.trp 261 (go_iload_n d_Mod_pattern_260 rfl 3 rfl) rfl ?_
      refine Go.trp 262 (go_iald (j := k) d_Mod_pattern_261 ((gRd_n _ _ (Ne.symm (hI.2 0))).trans ((gRd_n _ _ (hI.n (i := 0) (j := 6) (by decide))).trans ((gRd_n _ _ (hI.n (i := 0) (j := 7) (by decide))).trans (m0)))) (rfl) (by omega) (by omega)) rfl ?_
      refine Go.trp 264 (go_bipush (v := 48) d_Mod_pattern_262 (by decide)) rfl ?_
      refine Go.trp 265 (go_isub d_Mod_pattern_264) rfl ?_
      refine Go.trp 266 (go_iast (j := ((np * 6) + x)) d_Mod_pattern_265 ((gRd_n _ _ (Ne.symm (hI.2 7))).trans ((gRd_n _ _ (hI.n (i := 7) (j := 6) (by decide))).trans (gRd_s _ _ _))) (rfl) (by omega) (by omega)) rfl ?_
      refine (go_m (M' := (gWr (gWr (gWr M (a 7) (aI G 120 (upd lv ((np * 6) + x) ((g k) - 48)))) (a 6) (aI G 100 sg)) A (.inr (11, oMod a s c)))) ((gWr_cm (gWr (gWr M (a 7) (aI G 120 lv)) (a 6) (aI G 100 sg)) (.inr (11, oMod a s c)) (aI G 120 (upd lv ((np * 6) + x) ((g k) - 48))) (hI.2 7)).trans (congrArg (fun mZ => gWr mZ A (.inr (11, oMod a s c))) ((gWr_cm (gWr M (a 7) (aI G 120 lv)) (aI G 100 sg) (aI G 120 (upd lv ((np * 6) + x) ((g k) - 48))) (hI.n (i := 6) (j := 7) (by decide))).trans (congrArg (fun mZ => gWr mZ (a 6) (aI G 100 sg)) (gWr_wr M (a 7) (aI G 120 lv) (aI G 120 (upd lv ((np * 6) + x) ((g k) - 48))))))))).tr ?_
      refine Go.trp 291 (go_goto 291 d_Mod_pattern_266 (by decide)) rfl ?_
      refine Go.trp 294 (go_inc1 (n0 := 3) (x := k) [(3, .int (nI (k + 1))), (0, .ref A), (1, .int (nI n)), (2, .int (nI x))] d_Mod_pattern_291 rfl (by decide) rfl) rfl ?_
      refine (go_pick [1, 2, 3, 0] [(0, .ref A), (1, .int (nI n)), (2, .int (nI x)), (3, .int (nI (k + 1)))] rfl).tr ?_
      refine Go.trp 223 (go_goto 223 d_Mod_pattern_294 (by decide)) rfl ?_
      rw [show (p4F g np (r + 1) k x lv sg) = (p4F g np r (k + 1) x (upd lv (np * 6 + x) (g k - 48)) sg) from if_pos (by assumption)]
      exact ih (k + 1) _ _ _ (by omega) (by omega)
theorem e_Mod_patternF (G : gG) (M : gM) (A : Nat) (a : Nat → Nat) (s : Nat → Int32) (c : Int64) (hI : InjA A a) (hA : gRd M A = some (.inr (11, oMod a s c))) (h9 : s 9 = 20) : Ev G 1 m_Mod_pattern [.ref A] M (some (.int (-2))) M := by
  refine Ev.of (Nat.le_of_ble_eq_true rfl) ?_
  show EvF G 1 m_Mod_pattern (0, [(0, .ref A)], [], M) _ _
  refine EvF.gop 1 (go_aload_n d_Mod_pattern_0 rfl 0 rfl) rfl ?_
  refine EvF.gop 4 (go_get f_Mod_122 d_Mod_pattern_1 (hA) rfl) rfl ?_
  refine EvF.gop 6 (go_bipush (v := 20) d_Mod_pattern_4 (by decide)) rfl ?_
  refine EvF.gop 9 (go_icmp_ne_f 12 d_Mod_pattern_6 (by decide) (h9)) rfl ?_
  refine EvF.gop 11 (go_bipush (v := (-2)) d_Mod_pattern_9 (by decide)) rfl ?_
  exact EvF.ri d_Mod_pattern_11 rfl (rfl) (rfl)
theorem nzF_le (g : Nat → Int32) : ∀ r k, nzF g r k ≤ r
  | 0, _ => Nat.le_refl 0
  | r + 1, k => by
    have := nzF_le g r (k + 1)
    rw [show nzF g (r + 1) k = (if cDig (g k) = true then 0 else 1) + nzF g r (k + 1) from rfl]
    split <;> omega
theorem e_Mod_patternS (G : gG) (M : gM) (A : Nat) (a : Nat → Nat) (s : Nat → Int32) (c : Int64) (g : Nat → Int32) (m : Nat) (hI : InjA A a) (hA : gRd M A = some (.inr (11, oMod a s c))) (m0 : gRd M (a 0) = some (aI G 60 g)) (h1 : s 1 = nI m) (hm : m ≤ 60) (np : Nat) (h9 : s 9 = nI np) (hnp : np < 20) (hp : patF g m = none) : Ev G 1 m_Mod_pattern [.ref A] M (some (.int (-3))) M := by
  refine Ev.of (Nat.le_of_ble_eq_true rfl) ?_
  show EvF G 1 m_Mod_pattern (0, [(0, .ref A)], [], M) _ _
  refine EvF.gop 1 (go_aload_n d_Mod_pattern_0 rfl 0 rfl) rfl ?_
  refine EvF.gop 4 (go_get f_Mod_122 d_Mod_pattern_1 (hA) rfl) rfl ?_
  refine EvF.gop 6 (go_bipush (v := 20) d_Mod_pattern_4 (by decide)) rfl ?_
  refine EvF.gop 12 (go_icmp_ne_t 12 d_Mod_pattern_6 (by decide) (show ¬ s 9 = 20 from by rw [h9]; exact fun q => absurd ((nI_eq (a := np) (b := 20) (by omega) (by decide)).mp q) (by omega))) rfl ?_
  refine EvF.gop 13 (go_iconst (v := nI 0) d_Mod_pattern_12 (rfl)) rfl ?_
  refine EvF.gop 14 (go_istore_n [(1, .int (nI 0)), (0, .ref A)] d_Mod_pattern_13 rfl (by decide) rfl) rfl ?_
  refine EvF.go (go_pick [1, 0] [(0, .ref A), (1, .int (nI 0))] rfl) ?_
  refine EvF.gop 15 (go_iconst (v := nI 0) d_Mod_pattern_14 (rfl)) rfl ?_
  refine EvF.gop 16 (go_istore_n [(2, .int (nI 0)), (0, .ref A), (1, .int (nI 0))] d_Mod_pattern_15 rfl (by decide) rfl) rfl ?_
  refine EvF.go (go_pick [1, 2, 0] [(0, .ref A), (1, .int (nI 0)), (2, .int (nI 0))] rfl) ?_
  cases h1F : p1F g m 0 0 with
  | none => exact g_Mod_pa1S G M A a s c g m hI hA m0 h1 hm m 0 0 (by omega) h1F
  | some n =>
    have hnz := p1F_nz g m 0 0 n h1F
    have hnl : nzF g m 0 ≤ m := nzF_le g m 0
    refine EvF.go (g_Mod_pa1 G M A a s c g m hI hA m0 h1 hm m 0 0 n (by omega) h1F) ?_
    unfold patF at hp
    rw [h1F] at hp
    refine EvF.gop 117 (go_iload_n d_Mod_pattern_116 rfl 1 rfl) rfl ?_
    refine EvF.gop 118 (go_iconst (v := 1) d_Mod_pattern_117 (by decide)) rfl ?_
    by_cases c1 : (nI n) < 1
    · have c1x : n < 1 := (nI_ltI (a := n) (b := 1) (by omega) (by decide)).mp c1
      have c1y : ¬ 1 ≤ n := by omega
      refine EvF.gop 126 (go_icmp_lt_t 126 d_Mod_pattern_118 (by decide) (c1)) rfl ?_
      refine EvF.gop 128 (go_bipush (v := (-3)) d_Mod_pattern_126 (by decide)) rfl ?_
      exact EvF.ri d_Mod_pattern_128 rfl (rfl) (rfl)
    · have c1x : 1 ≤ n := Nat.le_of_not_lt (fun q9 => c1 ((nI_ltI (a := n) (b := 1) (by omega) (by decide)).mpr q9))
      have c1y : ¬ n < 1 := by omega
      refine EvF.gop 121 (go_icmp_lt_f 126 d_Mod_pattern_118 (by decide) (c1)) rfl ?_
      refine EvF.gop 122 (go_iload_n d_Mod_pattern_121 rfl 1 rfl) rfl ?_
      refine EvF.gop 123 (go_iconst (v := 5) d_Mod_pattern_122 (by decide)) rfl ?_
      by_cases c2 : (nI n) ≤ 5
      · have c2x : n ≤ 5 := (nI_leI (a := n) (b := 5) (by omega) (by decide)).mp c2
        have c2y : ¬ 5 < n := by omega
        refine EvF.gop 129 (go_icmp_le_t 129 d_Mod_pattern_123 (by decide) (c2)) rfl ?_
        refine EvF.gop 130 (go_iconst (v := nI 0) d_Mod_pattern_129 (rfl)) rfl ?_
        refine EvF.gop 131 (go_istore_n [(2, .int (nI 0)), (0, .ref A), (1, .int (nI n))] d_Mod_pattern_130 rfl (by decide) rfl) rfl ?_
        refine EvF.go (go_pick [1, 2, 0] [(0, .ref A), (1, .int (nI n)), (2, .int (nI 0))] rfl) ?_
        refine EvF.gop 132 (go_iconst (v := nI 0) d_Mod_pattern_131 (rfl)) rfl ?_
        refine EvF.gop 133 (go_istore_n [(3, .int (nI 0)), (0, .ref A), (1, .int (nI n)), (2, .int (nI 0))] d_Mod_pattern_132 rfl (by decide) rfl) rfl ?_
        refine EvF.go (go_pick [1, 2, 3, 0] [(0, .ref A), (1, .int (nI n)), (2, .int (nI 0)), (3, .int (nI 0))] rfl) ?_
        have h2F : p2F g n m 0 0 = false := by cases h : p2F g n m 0 0; rfl; rw [show (match some n with | none => none | some n => if 1 ≤ n ∧ n ≤ 5 ∧ p2F g n m 0 0 = true then some n else none) = some n from if_pos ⟨by omega, by omega, h⟩] at hp; cases hp
        exact g_Mod_pa2S G M A a s c g m hI hA m0 h1 hm n (by omega) (by omega) m 0 0 (by omega) (by omega) h2F
      · have c2x : 5 < n := Nat.lt_of_not_le (fun q9 => c2 ((nI_leI (a := n) (b := 5) (by omega) (by decide)).mpr q9))
        have c2y : ¬ n ≤ 5 := by omega
        refine EvF.gop 126 (go_icmp_le_f 129 d_Mod_pattern_123 (by decide) (c2)) rfl ?_
        refine EvF.gop 128 (go_bipush (v := (-3)) d_Mod_pattern_126 (by decide)) rfl ?_
        exact EvF.ri d_Mod_pattern_128 rfl (rfl) (rfl)
theorem e_Mod_pattern (G : gG) (M : gM) (A : Nat) (a : Nat → Nat) (s : Nat → Int32) (c : Int64) (g sg lv f8 : Nat → Int32) (m np n : Nat) (hI : InjA A a) (hA : gRd M A = some (.inr (11, oMod a s c))) (m0 : gRd M (a 0) = some (aI G 60 g)) (m6 : gRd M (a 6) = some (aI G 100 sg)) (m7 : gRd M (a 7) = some (aI G 120 lv)) (m8 : gRd M (a 8) = some (aI G 20 f8)) (h1 : s 1 = nI m) (hm : m ≤ 60) (h9 : s 9 = nI np) (hnp : np < 20) (hp : patF g m = some n) : Ev G 1 m_Mod_pattern [.ref A] M (some (.int (nI (np + 1)))) (gWr (gWr (gWr (gWr M (a 7) (aI G 120 ((p4F g np m 0 0 (cpO (fun _ => 0) (np * 6) 6 lv) sg).1))) (a 6) (aI G 100 ((p4F g np m 0 0 (cpO (fun _ => 0) (np * 6) 6 lv) sg).2))) A (.inr (11, oMod a (upd (upd s 1 (nI 0)) 9 (nI (np + 1))) c))) (a 8) (aI G 20 (upd f8 np (nI n)))) := by
  unfold patF at hp
  cases h1F : p1F g m 0 0 with
  | none => rw [h1F] at hp; cases hp
  | some n9 =>
    rw [h1F] at hp
    by_cases hc9 : 1 ≤ n9 ∧ n9 ≤ 5 ∧ p2F g n9 m 0 0 = true
    · rw [show (match some n9 with | none => none | some n => if 1 ≤ n ∧ n ≤ 5 ∧ p2F g n m 0 0 = true then some n else none) = some n9 from if_pos hc9] at hp
      cases hp
      obtain ⟨hn1, hn5, h2F⟩ := hc9
      have hnz := p1F_nz g m 0 0 n h1F
      refine Ev.of (Nat.le_of_ble_eq_true rfl) ?_
      show EvF G 1 m_Mod_pattern (0, [(0, .ref A)], [], M) _ _
      refine EvF.gop 1 (go_aload_n d_Mod_pattern_0 rfl 0 rfl) rfl ?_
      refine EvF.gop 4 (go_get f_Mod_122 d_Mod_pattern_1 (hA) rfl) rfl ?_
      refine EvF.gop 6 (go_bipush (v := 20) d_Mod_pattern_4 (by decide)) rfl ?_
      refine EvF.gop 12 (go_icmp_ne_t 12 d_Mod_pattern_6 (by decide) (show ¬ s 9 = 20 from by rw [h9]; exact fun q => absurd ((nI_eq (a := np) (b := 20) (by omega) (by decide)).mp q) (by omega))) rfl ?_
      refine EvF.gop 13 (go_iconst (v := nI 0) d_Mod_pattern_12 (rfl)) rfl ?_
      refine EvF.gop 14 (go_istore_n [(1, .int (nI 0)), (0, .ref A)] d_Mod_pattern_13 rfl (by decide) rfl) rfl ?_
      refine EvF.go (go_pick [1, 0] [(0, .ref A), (1, .int (nI 0))] rfl) ?_
      refine EvF.gop 15 (go_iconst (v := nI 0) d_Mod_pattern_14 (rfl)) rfl ?_
      refine EvF.gop 16 (go_istore_n [(2, .int (nI 0)), (0, .ref A), (1, .int (nI 0))] d_Mod_pattern_15 rfl (by decide) rfl) rfl ?_
      refine EvF.go (go_pick [1, 2, 0] [(0, .ref A), (1, .int (nI 0)), (2, .int (nI 0))] rfl) ?_
      refine EvF.go (g_Mod_pa1 G M A a s c g m hI hA m0 h1 hm m 0 0 n (by omega) h1F) ?_
      refine EvF.gop 117 (go_iload_n d_Mod_pattern_116 rfl 1 rfl) rfl ?_
      refine EvF.gop 118 (go_iconst (v := 1) d_Mod_pattern_117 (by decide)) rfl ?_
      refine EvF.gop 121 (go_icmp_lt_f 126 d_Mod_pattern_118 (by decide) (show ¬ nI n < nI 1 from nI_nlt hn1 (by omega))) rfl ?_
      refine EvF.gop 122 (go_iload_n d_Mod_pattern_121 rfl 1 rfl) rfl ?_
      refine EvF.gop 123 (go_iconst (v := 5) d_Mod_pattern_122 (by decide)) rfl ?_
      refine EvF.gop 129 (go_icmp_le_t 129 d_Mod_pattern_123 (by decide) (show nI n ≤ nI 5 from nI_le hn5 (by decide))) rfl ?_
      refine EvF.gop 130 (go_iconst (v := nI 0) d_Mod_pattern_129 (rfl)) rfl ?_
      refine EvF.gop 131 (go_istore_n [(2, .int (nI 0)), (0, .ref A), (1, .int (nI n))] d_Mod_pattern_130 rfl (by decide) rfl) rfl ?_
      refine EvF.go (go_pick [1, 2, 0] [(0, .ref A), (1, .int (nI n)), (2, .int (nI 0))] rfl) ?_
      refine EvF.gop 132 (go_iconst (v := nI 0) d_Mod_pattern_131 (rfl)) rfl ?_
      refine EvF.gop 133 (go_istore_n [(3, .int (nI 0)), (0, .ref A), (1, .int (nI n)), (2, .int (nI 0))] d_Mod_pattern_132 rfl (by decide) rfl) rfl ?_
      refine EvF.go (go_pick [1, 2, 3, 0] [(0, .ref A), (1, .int (nI n)), (2, .int (nI 0)), (3, .int (nI 0))] rfl) ?_
      refine EvF.go (g_Mod_pa2 G M A a s c g m hI hA m0 h1 hm n hn1 hn5 m 0 0 (by omega) (by omega) h2F) ?_
      refine EvF.gop 191 (go_iconst (v := nI 0) d_Mod_pattern_190 (rfl)) rfl ?_
      refine EvF.gop 192 (go_istore_n [(3, .int (nI 0)), (0, .ref A), (1, .int (nI n))] d_Mod_pattern_191 rfl (by decide) rfl) rfl ?_
      refine EvF.go (go_pick [1, 2, 0] [(0, .ref A), (1, .int (nI n)), (3, .int (nI 0))] rfl) ?_
      refine EvF.go (go_m (M' := (gWr M (a 7) (aI G 120 lv))) (gWr_id (m7)).symm) ?_
      refine EvF.go (go_m (M' := (gWr M (a 7) (aI G 120 (cpO (fun _ => 0) (np * 6) 0 lv)))) (by rw [cpO_0])) ?_
      refine EvF.go (g_Mod_pa3 G M A a s c g lv m np n hI hA m0 m7 h1 hm h9 hnp 6 0 (by omega)) ?_
      refine EvF.gop 220 (go_iconst (v := nI 0) d_Mod_pattern_219 (rfl)) rfl ?_
      refine EvF.gop 221 (go_istore_n [(2, .int (nI 0)), (0, .ref A), (1, .int (nI n)), (3, .int (nI 6))] d_Mod_pattern_220 rfl (by decide) rfl) rfl ?_
      refine EvF.go (go_pick [1, 2, 0, 3] [(0, .ref A), (1, .int (nI n)), (2, .int (nI 0)), (3, .int (nI 6))] rfl) ?_
      refine EvF.gop 222 (go_iconst (v := nI 0) d_Mod_pattern_221 (rfl)) rfl ?_
      refine EvF.gop 223 (go_istore_n [(3, .int (nI 0)), (0, .ref A), (1, .int (nI n)), (2, .int (nI 0))] d_Mod_pattern_222 rfl (by decide) rfl) rfl ?_
      refine EvF.go (go_pick [1, 2, 3, 0] [(0, .ref A), (1, .int (nI n)), (2, .int (nI 0)), (3, .int (nI 0))] rfl) ?_
      refine EvF.go (go_m (M' := (gWr (gWr M (a 7) (aI G 120 (cpO (fun _ => 0) (np * 6) 6 lv))) (a 6) (aI G 100 sg))) (gWr_id ((gRd_n _ _ (hI.n (i := 6) (j := 7) (by decide))).trans (m6))).symm) ?_
      refine EvF.go (go_m (M' := (gWr (gWr (gWr M (a 7) (aI G 120 (cpO (fun _ => 0) (np * 6) 6 lv))) (a 6) (aI G 100 sg)) A (.inr (11, oMod a s c)))) (gWr_id ((gRd_n _ _ (hI.2 6)).trans ((gRd_n _ _ (hI.2 7)).trans (hA)))).symm) ?_
      refine EvF.go (g_Mod_pa4 G M A a s c g m np n hI m0 h1 hm h9 hnp hn5 m 0 0 _ _ (by omega) (by omega)) ?_
      refine EvF.gop 298 (go_aload_n d_Mod_pattern_297 rfl 0 rfl) rfl ?_
      refine EvF.gop 301 (go_get f_Mod_31 d_Mod_pattern_298 (gRd_s _ _ _) rfl) rfl ?_
      refine EvF.gop 302 (go_aload_n d_Mod_pattern_301 rfl 0 rfl) rfl ?_
      refine EvF.gop 305 (go_get f_Mod_122 d_Mod_pattern_302 (gRd_s _ _ _) rfl) rfl ?_
      refine EvF.gop 306 (go_iload_n d_Mod_pattern_305 rfl 1 rfl) rfl ?_
      refine EvF.gop 307 (go_iast (j := np) d_Mod_pattern_306 ((gRd_n _ _ (Ne.symm (hI.2 8))).trans ((gRd_n _ _ (hI.n (i := 8) (j := 6) (by decide))).trans ((gRd_n _ _ (hI.n (i := 8) (j := 7) (by decide))).trans (m8)))) (h9) (hnp) (by omega)) rfl ?_
      refine EvF.gop 308 (go_aload_n d_Mod_pattern_307 rfl 0 rfl) rfl ?_
      refine EvF.gop 309 (go_dup d_Mod_pattern_308 rfl) rfl ?_
      refine EvF.gop 312 (go_get f_Mod_122 d_Mod_pattern_309 ((gRd_n _ _ (hI.2 8)).trans (gRd_s _ _ _)) rfl) rfl ?_
      refine EvF.gop 313 (go_iconst (v := 1) d_Mod_pattern_312 (by decide)) rfl ?_
      refine EvF.gop 314 (go_iadd d_Mod_pattern_313) rfl ?_
      refine EvF.go (go_v (y := nI (np + 1)) (show s 9 + 1 = nI (np + 1) from by rw [h9]; exact nI_1 np)) ?_
      refine EvF.gop 317 (go_put (oMod a (upd s 9 (nI (np + 1))) c) f_Mod_122 ft_Mod_9 d_Mod_pattern_314 ((gRd_n _ _ (hI.2 8)).trans (gRd_s _ _ _)) rfl rfl (Nat.le_of_ble_eq_true rfl) rfl) rfl ?_
      refine EvF.go (go_m (M' := (gWr (gWr (gWr (gWr M (a 7) (aI G 120 ((p4F g np m 0 0 (cpO (fun _ => 0) (np * 6) 6 lv) sg).1))) (a 6) (aI G 100 ((p4F g np m 0 0 (cpO (fun _ => 0) (np * 6) 6 lv) sg).2))) A (.inr (11, oMod a (upd s 9 (nI (np + 1))) c))) (a 8) (aI G 20 (upd f8 np (nI n))))) ((gWr_cm (gWr (gWr (gWr M (a 7) (aI G 120 ((p4F g np m 0 0 (cpO (fun _ => 0) (np * 6) 6 lv) sg).1))) (a 6) (aI G 100 ((p4F g np m 0 0 (cpO (fun _ => 0) (np * 6) 6 lv) sg).2))) A (.inr (11, oMod a s c))) (aI G 20 (upd f8 np (nI n))) (.inr (11, oMod a (upd s 9 (nI (np + 1))) c)) (Ne.symm (hI.2 8))).trans (congrArg (fun mZ => gWr mZ (a 8) (aI G 20 (upd f8 np (nI n)))) (gWr_wr (gWr (gWr M (a 7) (aI G 120 ((p4F g np m 0 0 (cpO (fun _ => 0) (np * 6) 6 lv) sg).1))) (a 6) (aI G 100 ((p4F g np m 0 0 (cpO (fun _ => 0) (np * 6) 6 lv) sg).2))) A (.inr (11, oMod a s c)) (.inr (11, oMod a (upd s 9 (nI (np + 1))) c)))))) ?_
      refine EvF.gop 318 (go_aload_n d_Mod_pattern_317 rfl 0 rfl) rfl ?_
      refine EvF.gop 319 (go_iconst (v := nI 0) d_Mod_pattern_318 (rfl)) rfl ?_
      refine EvF.gop 322 (go_put (oMod a (upd (upd s 1 (nI 0)) 9 (nI (np + 1))) c) f_Mod_118 ft_Mod_1 d_Mod_pattern_319 ((gRd_n _ _ (hI.2 8)).trans (gRd_s _ _ _)) rfl rfl (Nat.le_of_ble_eq_true rfl) rfl) rfl ?_
      refine EvF.go (go_m (M' := (gWr (gWr (gWr (gWr M (a 7) (aI G 120 ((p4F g np m 0 0 (cpO (fun _ => 0) (np * 6) 6 lv) sg).1))) (a 6) (aI G 100 ((p4F g np m 0 0 (cpO (fun _ => 0) (np * 6) 6 lv) sg).2))) A (.inr (11, oMod a (upd (upd s 1 (nI 0)) 9 (nI (np + 1))) c))) (a 8) (aI G 20 (upd f8 np (nI n))))) ((gWr_cm (gWr (gWr (gWr M (a 7) (aI G 120 ((p4F g np m 0 0 (cpO (fun _ => 0) (np * 6) 6 lv) sg).1))) (a 6) (aI G 100 ((p4F g np m 0 0 (cpO (fun _ => 0) (np * 6) 6 lv) sg).2))) A (.inr (11, oMod a (upd s 9 (nI (np + 1))) c))) (aI G 20 (upd f8 np (nI n))) (.inr (11, oMod a (upd (upd s 1 (nI 0)) 9 (nI (np + 1))) c)) (Ne.symm (hI.2 8))).trans (congrArg (fun mZ => gWr mZ (a 8) (aI G 20 (upd f8 np (nI n)))) (gWr_wr (gWr (gWr M (a 7) (aI G 120 ((p4F g np m 0 0 (cpO (fun _ => 0) (np * 6) 6 lv) sg).1))) (a 6) (aI G 100 ((p4F g np m 0 0 (cpO (fun _ => 0) (np * 6) 6 lv) sg).2))) A (.inr (11, oMod a (upd s 9 (nI (np + 1))) c)) (.inr (11, oMod a (upd (upd s 1 (nI 0)) 9 (nI (np + 1))) c)))))) ?_
      refine EvF.gop 323 (go_aload_n d_Mod_pattern_322 rfl 0 rfl) rfl ?_
      refine EvF.gop 326 (go_get f_Mod_122 d_Mod_pattern_323 ((gRd_n _ _ (hI.2 8)).trans (gRd_s _ _ _)) rfl) rfl ?_
      exact EvF.ri d_Mod_pattern_326 rfl (rfl) (rfl)
    · rw [show (match some n9 with | none => none | some n => if 1 ≤ n ∧ n ≤ 5 ∧ p2F g n m 0 0 = true then some n else none) = none from if_neg hc9] at hp
      cases hp
