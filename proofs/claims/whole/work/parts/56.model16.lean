/-- k numbers of g, put at place o on -/
def cpO (g : Nat → Int32) (o k : Nat) (f : Nat → Int32) : Nat → Int32 := fun q => if o ≤ q ∧ q < o + k then g (q - o) else f q
theorem cpO_0 (g : Nat → Int32) (o : Nat) (f : Nat → Int32) : cpO g o 0 f = f := by funext q; exact if_neg (by omega)
theorem cpO_s (g : Nat → Int32) (o k : Nat) (f : Nat → Int32) : upd (cpO g o k f) (o + k) (g k) = cpO g o (k + 1) f := by
  funext q
  by_cases h : q = o + k
  · subst h
    have h3 : o ≤ o + k ∧ o + k < o + (k + 1) := by omega
    simp [upd, cpO, h3]
  · by_cases h2 : o ≤ q ∧ q < o + k
    · have h3 : o ≤ q ∧ q < o + (k + 1) := by omega
      simp [upd, cpO, h, h2, h3]
    · have h3 : ¬ (o ≤ q ∧ q < o + (k + 1)) := by omega
      simp only [upd, cpO, h, h2, h3, if_false]
theorem g_Mod_define (G : gG) (M : gM) (A : Nat) (a : Nat → Nat) (s : Nat → Int32) (c : Int64) (ln bo bl : Nat → Int32) (n j : Nat) (hI : InjA A a) (hA : gRd M A = some (.inr (11, oMod a s c))) (m0 : gRd M (a 0) = some (aI G 60 ln)) (m4 : gRd M (a 4) = some (aI G 96 bo)) (m5 : gRd M (a 5) = some (aI G 4 bl)) (h1 : s 1 = nI n) (hn : n ≤ 24) (hj : j < 4) : ∀ r k : Nat, k + r = n → Go G m_Mod_define 0 (25, [(0, .ref A), (1, .int (nI j)), (2, .int (nI k))], [], (gWr M (a 4) (aI G 96 (cpO ln (j * 24) k bo)))) (56, [(0, .ref A), (1, .int (nI j)), (2, .int (nI n))], [], (gWr M (a 4) (aI G 96 (cpO ln (j * 24) n bo)))) := by
  intro r
  induction r with
  | zero =>
    intro k hk
    rw [show k = n from by omega]
    refine Go.trp 26 (go_iload_n d_Mod_define_25 rfl 2 rfl) rfl ?_
    refine Go.trp 27 (go_aload_n d_Mod_define_26 rfl 0 rfl) rfl ?_
    refine Go.trp 30 (go_get f_Mod_118 d_Mod_define_27 ((gRd_n _ _ (hI.2 4)).trans (hA)) rfl) rfl ?_
    refine Go.trp 56 (go_icmp_ge_t 56 d_Mod_define_30 (by decide) (show s 1 ≤ nI n from by rw [h1]; exact nI_le (Nat.le_refl _) (by omega))) rfl ?_
    exact Go.rf
  | succ r ih =>
    intro k hk
    refine Go.trp 26 (go_iload_n d_Mod_define_25 rfl 2 rfl) rfl ?_
    refine Go.trp 27 (go_aload_n d_Mod_define_26 rfl 0 rfl) rfl ?_
    refine Go.trp 30 (go_get f_Mod_118 d_Mod_define_27 ((gRd_n _ _ (hI.2 4)).trans (hA)) rfl) rfl ?_
    refine Go.trp 33 (go_icmp_ge_f 56 d_Mod_define_30 (by decide) (show ¬ s 1 ≤ nI k from by rw [h1]; exact nI_ge (by omega) (by omega))) rfl ?_
    refine Go.trp 34 (go_aload_n d_Mod_define_33 rfl 0 rfl) rfl ?_
    refine Go.trp 37 (go_get f_Mod_19 d_Mod_define_34 ((gRd_n _ _ (hI.2 4)).trans (hA)) rfl) rfl ?_
    refine Go.trp 38 (go_iload_n d_Mod_define_37 rfl 1 rfl) rfl ?_
    refine Go.trp 40 (go_bipush (v := 24) d_Mod_define_38 (by decide)) rfl ?_
    refine Go.trp 41 (go_imul d_Mod_define_40) rfl ?_
    refine (go_v (y := nI (j * 24)) (pk_mul j 24)).tr ?_
    refine Go.trp 42 (go_iload_n d_Mod_define_41 rfl 2 rfl) rfl ?_
    refine Go.trp 43 (go_iadd d_Mod_define_42) rfl ?_
    refine (go_v (y := nI ((j * 24) + k)) (nI_add (j * 24) k)).tr ?_
    refine Go.trp 44 (go_aload_n d_Mod_define_43 rfl 0 rfl) rfl ?_
    refine Go.trp 47 (go_get f_Mod_7 d_Mod_define_44 ((gRd_n _ _ (hI.2 4)).trans (hA)) rfl) rfl ?_
    refine Go.trp 48 (go_iload_n d_Mod_define_47 rfl 2 rfl) rfl ?_
    refine Go.trp 49 (go_iald (j := k) d_Mod_define_48 ((gRd_n _ _ (hI.n (i := 0) (j := 4) (by decide))).trans (m0)) (rfl) (by omega) (by omega)) rfl ?_
    refine Go.trp 50 (go_iast (j := ((j * 24) + k)) d_Mod_define_49 (gRd_s _ _ _) (rfl) (by omega) (by omega)) rfl ?_
    refine (go_m (M' := (gWr M (a 4) (aI G 96 (upd (cpO ln (j * 24) k bo) ((j * 24) + k) (ln k))))) (gWr_wr M (a 4) (aI G 96 (cpO ln (j * 24) k bo)) (aI G 96 (upd (cpO ln (j * 24) k bo) ((j * 24) + k) (ln k))))).tr ?_
    refine Go.trp 53 (go_inc1 (n0 := 2) (x := k) [(2, .int (nI (k + 1))), (0, .ref A), (1, .int (nI j))] d_Mod_define_50 rfl (by decide) rfl) rfl ?_
    refine (go_pick [1, 2, 0] [(0, .ref A), (1, .int (nI j)), (2, .int (nI (k + 1)))] rfl).tr ?_
    refine Go.trp 25 (go_goto 25 d_Mod_define_53 (by decide)) rfl ?_
    rw [cpO_s]
    exact ih (k + 1) (by omega)
theorem e_Mod_define (G : gG) (M : gM) (A : Nat) (a : Nat → Nat) (s : Nat → Int32) (c : Int64) (ln bo bl : Nat → Int32) (n j : Nat) (hI : InjA A a) (hA : gRd M A = some (.inr (11, oMod a s c))) (m0 : gRd M (a 0) = some (aI G 60 ln)) (m4 : gRd M (a 4) = some (aI G 96 bo)) (m5 : gRd M (a 5) = some (aI G 4 bl)) (h1 : s 1 = nI n) (hn : n ≤ 24) (hj : j < 4) : Ev G 0 m_Mod_define [.ref A, .int (nI j)] M (some (.int 0)) (gWr (gWr (gWr M (a 4) (aI G 96 (cpO ln (j * 24) n bo))) (a 5) (aI G 4 (upd bl j (nI n)))) A (.inr (11, oMod a (upd s 1 (nI 0)) c))) := by
  refine Ev.of (Nat.le_of_ble_eq_true rfl) ?_
  show EvF G 0 m_Mod_define (0, [(0, .ref A), (1, .int (nI j))], [], M) _ _
  refine EvF.gop 1 (go_iload_n d_Mod_define_0 rfl 1 rfl) rfl ?_
  refine EvF.gop 4 (go_if_lt_f 9 d_Mod_define_1 (by decide) (nI_pos (by omega))) rfl ?_
  refine EvF.gop 5 (go_iload_n d_Mod_define_4 rfl 1 rfl) rfl ?_
  refine EvF.gop 6 (go_iconst (v := 3) d_Mod_define_5 (by decide)) rfl ?_
  refine EvF.gop 11 (go_icmp_le_t 11 d_Mod_define_6 (by decide) (show nI j ≤ nI 3 from nI_le (by omega) (by decide))) rfl ?_
  refine EvF.gop 12 (go_aload_n d_Mod_define_11 rfl 0 rfl) rfl ?_
  refine EvF.gop 15 (go_get f_Mod_118 d_Mod_define_12 (hA) rfl) rfl ?_
  refine EvF.gop 17 (go_bipush (v := 24) d_Mod_define_15 (by decide)) rfl ?_
  refine EvF.gop 23 (go_icmp_le_t 23 d_Mod_define_17 (by decide) (show s 1 ≤ nI 24 from by rw [h1]; exact nI_le hn (by decide))) rfl ?_
  refine EvF.gop 24 (go_iconst (v := nI 0) d_Mod_define_23 (rfl)) rfl ?_
  refine EvF.gop 25 (go_istore_n [(2, .int (nI 0)), (0, .ref A), (1, .int (nI j))] d_Mod_define_24 rfl (by decide) rfl) rfl ?_
  refine EvF.go (go_pick [1, 2, 0] [(0, .ref A), (1, .int (nI j)), (2, .int (nI 0))] rfl) ?_
  refine EvF.go (go_m (M' := (gWr M (a 4) (aI G 96 bo))) (gWr_id (m4)).symm) ?_
  refine EvF.go (go_m (M' := (gWr M (a 4) (aI G 96 (cpO ln (j * 24) 0 bo)))) (by rw [cpO_0])) ?_
  refine EvF.go (g_Mod_define G M A a s c ln bo bl n j hI hA m0 m4 m5 h1 hn hj n 0 (by omega)) ?_
  refine EvF.gop 57 (go_aload_n d_Mod_define_56 rfl 0 rfl) rfl ?_
  refine EvF.gop 60 (go_get f_Mod_22 d_Mod_define_57 ((gRd_n _ _ (hI.2 4)).trans (hA)) rfl) rfl ?_
  refine EvF.gop 61 (go_iload_n d_Mod_define_60 rfl 1 rfl) rfl ?_
  refine EvF.gop 62 (go_aload_n d_Mod_define_61 rfl 0 rfl) rfl ?_
  refine EvF.gop 65 (go_get f_Mod_118 d_Mod_define_62 ((gRd_n _ _ (hI.2 4)).trans (hA)) rfl) rfl ?_
  refine EvF.gop 66 (go_iast (j := j) d_Mod_define_65 ((gRd_n _ _ (hI.n (i := 5) (j := 4) (by decide))).trans (m5)) (rfl) (by omega) (by omega)) rfl ?_
  refine EvF.gop 67 (go_aload_n d_Mod_define_66 rfl 0 rfl) rfl ?_
  refine EvF.gop 68 (go_iconst (v := nI 0) d_Mod_define_67 (rfl)) rfl ?_
  refine EvF.gop 71 (go_put (oMod a (upd s 1 (nI 0)) c) f_Mod_118 ft_Mod_1 d_Mod_define_68 ((gRd_n _ _ (hI.2 5)).trans ((gRd_n _ _ (hI.2 4)).trans (hA))) rfl rfl (Nat.le_of_ble_eq_true rfl) rfl) rfl ?_
  refine EvF.gop 72 (go_iconst (v := 0) d_Mod_define_71 (by decide)) rfl ?_
  exact EvF.ri d_Mod_define_72 rfl (rfl) (by rw [h1])
theorem e_Mod_defineR (G : gG) (M : gM) (A : Nat) (a : Nat → Nat) (s : Nat → Int32) (c : Int64) (x : Int32) (hI : InjA A a) (hA : gRd M A = some (.inr (11, oMod a s c))) (hx : x < 0 ∨ 3 < x) : Ev G 0 m_Mod_define [.ref A, .int x] M (some (.int (-1))) M := by
  refine Ev.of (Nat.le_of_ble_eq_true rfl) ?_
  show EvF G 0 m_Mod_define (0, [(0, .ref A), (1, .int x)], [], M) _ _
  refine EvF.gop 1 (go_iload_n d_Mod_define_0 rfl 1 rfl) rfl ?_
  by_cases c1 : x < 0
  · have c1x : ¬ 0 ≤ x := Int32.not_le.mpr c1
    refine EvF.gop 9 (go_if_lt_t 9 d_Mod_define_1 (by decide) (c1)) rfl ?_
    refine EvF.gop 10 (go_iconst (v := (-1)) d_Mod_define_9 (by decide)) rfl ?_
    exact EvF.ri d_Mod_define_10 rfl (rfl) (rfl)
  · have c1x : 0 ≤ x := Int32.not_lt.mp c1
    refine EvF.gop 4 (go_if_lt_f 9 d_Mod_define_1 (by decide) (c1)) rfl ?_
    refine EvF.gop 5 (go_iload_n d_Mod_define_4 rfl 1 rfl) rfl ?_
    refine EvF.gop 6 (go_iconst (v := 3) d_Mod_define_5 (by decide)) rfl ?_
    by_cases c2 : x ≤ 3
    · have c2x : ¬ 3 < x := Int32.not_lt.mpr c2
      refine EvF.gop 11 (go_icmp_le_t 11 d_Mod_define_6 (by decide) (c2)) rfl ?_
      exact absurd hx (by rintro (q | q) <;> first | exact absurd q (by assumption) | exact absurd q (Int32.not_lt.mpr (by assumption)))
    · have c2x : 3 < x := Int32.not_le.mp c2
      refine EvF.gop 9 (go_icmp_le_f 11 d_Mod_define_6 (by decide) (c2)) rfl ?_
      refine EvF.gop 10 (go_iconst (v := (-1)) d_Mod_define_9 (by decide)) rfl ?_
      exact EvF.ri d_Mod_define_10 rfl (rfl) (rfl)
theorem e_Mod_defineF (G : gG) (M : gM) (A : Nat) (a : Nat → Nat) (s : Nat → Int32) (c : Int64) (n j : Nat) (hI : InjA A a) (hA : gRd M A = some (.inr (11, oMod a s c))) (h1 : s 1 = nI n) (hn : 24 < n) (hn2 : n ≤ 60) (hj : j < 4) : Ev G 0 m_Mod_define [.ref A, .int (nI j)] M (some (.int (-2))) M := by
  refine Ev.of (Nat.le_of_ble_eq_true rfl) ?_
  show EvF G 0 m_Mod_define (0, [(0, .ref A), (1, .int (nI j))], [], M) _ _
  refine EvF.gop 1 (go_iload_n d_Mod_define_0 rfl 1 rfl) rfl ?_
  refine EvF.gop 4 (go_if_lt_f 9 d_Mod_define_1 (by decide) (nI_pos (by omega))) rfl ?_
  refine EvF.gop 5 (go_iload_n d_Mod_define_4 rfl 1 rfl) rfl ?_
  refine EvF.gop 6 (go_iconst (v := 3) d_Mod_define_5 (by decide)) rfl ?_
  refine EvF.gop 11 (go_icmp_le_t 11 d_Mod_define_6 (by decide) (show nI j ≤ nI 3 from nI_le (by omega) (by decide))) rfl ?_
  refine EvF.gop 12 (go_aload_n d_Mod_define_11 rfl 0 rfl) rfl ?_
  refine EvF.gop 15 (go_get f_Mod_118 d_Mod_define_12 (hA) rfl) rfl ?_
  refine EvF.gop 17 (go_bipush (v := 24) d_Mod_define_15 (by decide)) rfl ?_
  refine EvF.gop 20 (go_icmp_le_f 23 d_Mod_define_17 (by decide) (show ¬ s 1 ≤ nI 24 from by rw [h1]; exact nI_ge hn (by omega))) rfl ?_
  refine EvF.gop 22 (go_bipush (v := (-2)) d_Mod_define_20 (by decide)) rfl ?_
  exact EvF.ri d_Mod_define_22 rfl (rfl) (rfl)
def p1F (g : Nat → Int32) : Nat → Nat → Nat → Option Nat
  | 0, _, q => some q
  | r + 1, k, q => if cDig (g k) = true then (if 0 < k ∧ cDig (g (k - 1)) = true then none else p1F g r (k + 1) q) else (if cLet (g k) = true ∨ g k = 46 then p1F g r (k + 1) (q + 1) else none)
def p2F (g : Nat → Int32) (n : Nat) : Nat → Nat → Nat → Bool
  | 0, _, _ => true
  | r + 1, k, x => if cDig (g k) = true then p2F g n r (k + 1) x else if g k = 46 ∧ 0 < x ∧ x + 1 < n then false else p2F g n r (k + 1) (x + 1)
def nzF (g : Nat → Int32) : Nat → Nat → Nat
  | 0, _ => 0
  | r + 1, k => (if cDig (g k) = true then 0 else 1) + nzF g r (k + 1)
def p4F (g : Nat → Int32) (np : Nat) : Nat → Nat → Nat → (Nat → Int32) → (Nat → Int32) → (Nat → Int32) × (Nat → Int32)
  | 0, _, _, lv, sg => (lv, sg)
  | r + 1, k, x, lv, sg => if cDig (g k) = true then p4F g np r (k + 1) x (upd lv (np * 6 + x) (g k - 48)) sg else p4F g np r (k + 1) (x + 1) lv (upd sg (np * 5 + x) (g k))
theorem p1F_nz (g : Nat → Int32) : ∀ r k q n, p1F g r k q = some n → n = q + nzF g r k
  | 0, k, q, n, h => by
    simp only [p1F, Option.some.injEq] at h
    simp [nzF, h]
  | r + 1, k, q, n, h => by
    unfold p1F at h
    rw [show nzF g (r + 1) k = (if cDig (g k) = true then 0 else 1) + nzF g r (k + 1) from rfl]
    split at h
    · rename_i hd
      split at h
      · cases h
      · have := p1F_nz g r _ _ _ h
        rw [if_pos hd]; omega
    · rename_i hd
      split at h
      · have := p1F_nz g r _ _ _ h
        rw [if_neg hd]; omega
      · cases h
def patF (g : Nat → Int32) (m : Nat) : Option Nat := match p1F g m 0 0 with
  | none => none
  | some n => if 1 ≤ n ∧ n ≤ 5 ∧ p2F g n m 0 0 = true then some n else none
theorem g_Mod_pa1 (G : gG) (M : gM) (A : Nat) (a : Nat → Nat) (s : Nat → Int32) (c : Int64) (g : Nat → Int32) (m : Nat) (hI : InjA A a) (hA : gRd M A = some (.inr (11, oMod a s c))) (m0 : gRd M (a 0) = some (aI G 60 g)) (h1 : s 1 = nI m) (hm : m ≤ 60) : ∀ r k q n : Nat, k + r = m → p1F g r k q = some n → Go G m_Mod_pattern 1 (16, [(0, .ref A), (1, .int (nI q)), (2, .int (nI k))], [], M) (116, [(0, .ref A), (1, .int (nI n))], [], M) := by
  intro r
  induction r with
  | zero =>
    intro k q n hk hp
    cases hp
    refine Go.trp 17 (go_iload_n d_Mod_pattern_16 rfl 2 rfl) rfl ?_
    refine Go.trp 18 (go_aload_n d_Mod_pattern_17 rfl 0 rfl) rfl ?_
    refine Go.trp 21 (go_get f_Mod_118 d_Mod_pattern_18 (hA) rfl) rfl ?_
    refine Go.trp 116 (go_icmp_ge_t 116 d_Mod_pattern_21 (by decide) (show s 1 ≤ nI k from by rw [h1]; exact nI_le (by omega) (by omega))) rfl ?_
    refine (go_pick [0, 1] [(0, .ref A), (1, .int (nI q))] rfl).tr ?_
    exact Go.rf
  | succ r ih =>
    intro k q n hk hp
    unfold p1F at hp
    refine Go.trp 17 (go_iload_n d_Mod_pattern_16 rfl 2 rfl) rfl ?_
    refine Go.trp 18 (go_aload_n d_Mod_pattern_17 rfl 0 rfl) rfl ?_
    refine Go.trp 21 (go_get f_Mod_118 d_Mod_pattern_18 (hA) rfl) rfl ?_
    refine Go.trp 24 (go_icmp_ge_f 116 d_Mod_pattern_21 (by decide) (show ¬ s 1 ≤ nI k from by rw [h1]; exact nI_ge (by omega) (by omega))) rfl ?_
    refine Go.trp 25 (go_aload_n d_Mod_pattern_24 rfl 0 rfl) rfl ?_
    refine Go.trp 28 (go_get f_Mod_7 d_Mod_pattern_25 (hA) rfl) rfl ?_
    refine Go.trp 29 (go_iload_n d_Mod_pattern_28 rfl 2 rfl) rfl ?_
    refine Go.trp 30 (go_iald (j := k) d_Mod_pattern_29 (m0) (rfl) (by omega) (by omega)) rfl ?_
    refine Go.trp 33 (go_callS [.int (g k)] [.int (bI (cDig (g k)))] c0_Mod_digit sm_Mod_digit lk_Mod_115 d_Mod_pattern_30 (e_Mod_digit G _ (g k)) (by decide) rfl rfl (Nat.le_of_ble_eq_true rfl) rfl) rfl ?_
    by_cases c1 : (bI (cDig (g k))) = 0
    · have c1x : (cDig (g k)) = false := bI_0.mp c1
      refine Go.trp 57 (go_if_eq_t 57 d_Mod_pattern_33 (by decide) (c1)) rfl ?_
      refine Go.trp 58 (go_aload_n d_Mod_pattern_57 rfl 0 rfl) rfl ?_
      refine Go.trp 61 (go_get f_Mod_7 d_Mod_pattern_58 (hA) rfl) rfl ?_
      refine Go.trp 62 (go_iload_n d_Mod_pattern_61 rfl 2 rfl) rfl ?_
      refine Go.trp 63 (go_iald (j := k) d_Mod_pattern_62 (m0) (rfl) (by omega) (by omega)) rfl ?_
      refine Go.trp 66 (go_callS [.int (g k)] [.int (bI (cDig (g k)))] c0_Mod_digit sm_Mod_digit lk_Mod_115 d_Mod_pattern_63 (e_Mod_digit G _ (g k)) (by decide) rfl rfl (Nat.le_of_ble_eq_true rfl) rfl) rfl ?_
      refine Go.trp 69 (go_if_ne_f 95 d_Mod_pattern_66 (by decide) (c1)) rfl ?_
      refine Go.trp 70 (go_aload_n d_Mod_pattern_69 rfl 0 rfl) rfl ?_
      refine Go.trp 73 (go_get f_Mod_7 d_Mod_pattern_70 (hA) rfl) rfl ?_
      refine Go.trp 74 (go_iload_n d_Mod_pattern_73 rfl 2 rfl) rfl ?_
      refine Go.trp 75 (go_iald (j := k) d_Mod_pattern_74 (m0) (rfl) (by omega) (by omega)) rfl ?_
      refine Go.trp 78 (go_callS [.int (g k)] [.int (bI (cLet (g k)))] c0_Mod_letter sm_Mod_letter lk_Mod_111 d_Mod_pattern_75 (e_Mod_letter G _ (g k)) (by decide) rfl rfl (Nat.le_of_ble_eq_true rfl) rfl) rfl ?_
      by_cases c2 : (bI (cLet (g k))) = 0
      · have c2x : (cLet (g k)) = false := bI_0.mp c2
        refine Go.trp 81 (go_if_ne_f 95 d_Mod_pattern_78 (by decide) (c2)) rfl ?_
        refine Go.trp 82 (go_aload_n d_Mod_pattern_81 rfl 0 rfl) rfl ?_
        refine Go.trp 85 (go_get f_Mod_7 d_Mod_pattern_82 (hA) rfl) rfl ?_
        refine Go.trp 86 (go_iload_n d_Mod_pattern_85 rfl 2 rfl) rfl ?_
        refine Go.trp 87 (go_iald (j := k) d_Mod_pattern_86 (m0) (rfl) (by omega) (by omega)) rfl ?_
        refine Go.trp 89 (go_bipush (v := 46) d_Mod_pattern_87 (by decide)) rfl ?_
        by_cases c3 : (g k) = 46
        · refine Go.trp 95 (go_icmp_eq_t 95 d_Mod_pattern_89 (by decide) (c3)) rfl ?_
          refine Go.trp 96 (go_aload_n d_Mod_pattern_95 rfl 0 rfl) rfl ?_
          refine Go.trp 99 (go_get f_Mod_7 d_Mod_pattern_96 (hA) rfl) rfl ?_
          refine Go.trp 100 (go_iload_n d_Mod_pattern_99 rfl 2 rfl) rfl ?_
          refine Go.trp 101 (go_iald (j := k) d_Mod_pattern_100 (m0) (rfl) (by omega) (by omega)) rfl ?_
          refine Go.trp 104 (go_callS [.int (g k)] [.int (bI (cDig (g k)))] c0_Mod_digit sm_Mod_digit lk_Mod_115 d_Mod_pattern_101 (e_Mod_digit G _ (g k)) (by decide) rfl rfl (Nat.le_of_ble_eq_true rfl) rfl) rfl ?_
          refine Go.trp 107 (go_if_ne_f 110 d_Mod_pattern_104 (by decide) (c1)) rfl ?_
          refine Go.trp 110 (go_inc1 (n0 := 1) (x := q) [(1, .int (nI (q + 1))), (0, .ref A), (2, .int (nI k))] d_Mod_pattern_107 rfl (by decide) rfl) rfl ?_
          refine (go_pick [1, 0, 2] [(0, .ref A), (1, .int (nI (q + 1))), (2, .int (nI k))] rfl).tr ?_
          refine Go.trp 113 (go_inc1 (n0 := 2) (x := k) [(2, .int (nI (k + 1))), (0, .ref A), (1, .int (nI (q + 1)))] d_Mod_pattern_110 rfl (by decide) rfl) rfl ?_
          refine (go_pick [1, 2, 0] [(0, .ref A), (1, .int (nI (q + 1))), (2, .int (nI (k + 1)))] rfl).tr ?_
          refine Go.trp 16 (go_goto 16 d_Mod_pattern_113 (by decide)) rfl ?_
          rw [if_neg (show ¬ cDig (g k) = true from by rw [‹cDig (g k) = false›]; decide)] at hp
          rw [if_pos (show cLet (g k) = true ∨ g k = 46 from by first | (left; assumption) | (right; assumption))] at hp
          exact ih (k + 1) _ _ (by omega) hp
        · refine Go.trp 92 (go_icmp_eq_f 95 d_Mod_pattern_89 (by decide) (c3)) rfl ?_
          refine Go.trp 94 (go_bipush (v := (-3)) d_Mod_pattern_92 (by decide)) rfl ?_
          rw [if_neg (show ¬ cDig (g k) = true from by rw [‹cDig (g k) = false›]; decide)] at hp
          rw [if_neg (show ¬ (cLet (g k) = true ∨ g k = 46) from by rintro (q1 | q1) <;> first | exact absurd q1 (by assumption) | (rw [q1] at *; contradiction) | exact absurd (q1.symm.trans ‹cLet (g k) = false›) (by decide))] at hp
          cases hp
      · have c2x : (cLet (g k)) = true := bI_n0.mp c2
        refine Go.trp 95 (go_if_ne_t 95 d_Mod_pattern_78 (by decide) (c2)) rfl ?_
        refine Go.trp 96 (go_aload_n d_Mod_pattern_95 rfl 0 rfl) rfl ?_
        refine Go.trp 99 (go_get f_Mod_7 d_Mod_pattern_96 (hA) rfl) rfl ?_
        refine Go.trp 100 (go_iload_n d_Mod_pattern_99 rfl 2 rfl) rfl ?_
        refine Go.trp 101 (go_iald (j := k) d_Mod_pattern_100 (m0) (rfl) (by omega) (by omega)) rfl ?_
        refine Go.trp 104 (go_callS [.int (g k)] [.int (bI (cDig (g k)))] c0_Mod_digit sm_Mod_digit lk_Mod_115 d_Mod_pattern_101 (e_Mod_digit G _ (g k)) (by decide) rfl rfl (Nat.le_of_ble_eq_true rfl) rfl) rfl ?_
        refine Go.trp 107 (go_if_ne_f 110 d_Mod_pattern_104 (by decide) (c1)) rfl ?_
        refine Go.trp 110 (go_inc1 (n0 := 1) (x := q) [(1, .int (nI (q + 1))), (0, .ref A), (2, .int (nI k))] d_Mod_pattern_107 rfl (by decide) rfl) rfl ?_
        refine (go_pick [1, 0, 2] [(0, .ref A), (1, .int (nI (q + 1))), (2, .int (nI k))] rfl).tr ?_
        refine Go.trp 113 (go_inc1 (n0 := 2) (x := k) [(2, .int (nI (k + 1))), (0, .ref A), (1, .int (nI (q + 1)))] d_Mod_pattern_110 rfl (by decide) rfl) rfl ?_
        refine (go_pick [1, 2, 0] [(0, .ref A), (1, .int (nI (q + 1))), (2, .int (nI (k + 1)))] rfl).tr ?_
        refine Go.trp 16 (go_goto 16 d_Mod_pattern_113 (by decide)) rfl ?_
        rw [if_neg (show ¬ cDig (g k) = true from by rw [‹cDig (g k) = false›]; decide)] at hp
        rw [if_pos (show cLet (g k) = true ∨ g k = 46 from by first | (left; assumption) | (right; assumption))] at hp
        exact ih (k + 1) _ _ (by omega) hp
    · have c1x : (cDig (g k)) = true := bI_n0.mp c1
      refine Go.trp 36 (go_if_eq_f 57 d_Mod_pattern_33 (by decide) (c1)) rfl ?_
      refine Go.trp 37 (go_iload_n d_Mod_pattern_36 rfl 2 rfl) rfl ?_
      by_cases c4 : (nI k) ≤ 0
      · have c4x : k ≤ 0 := (nI_leI (a := k) (b := 0) (by omega) (by decide)).mp c4
        have c4y : ¬ 0 < k := by omega
        refine Go.trp 57 (go_if_le_t 57 d_Mod_pattern_37 (by decide) (c4)) rfl ?_
        refine Go.trp 58 (go_aload_n d_Mod_pattern_57 rfl 0 rfl) rfl ?_
        refine Go.trp 61 (go_get f_Mod_7 d_Mod_pattern_58 (hA) rfl) rfl ?_
        refine Go.trp 62 (go_iload_n d_Mod_pattern_61 rfl 2 rfl) rfl ?_
        refine Go.trp 63 (go_iald (j := k) d_Mod_pattern_62 (m0) (rfl) (by omega) (by omega)) rfl ?_
        refine Go.trp 66 (go_callS [.int (g k)] [.int (bI (cDig (g k)))] c0_Mod_digit sm_Mod_digit lk_Mod_115 d_Mod_pattern_63 (e_Mod_digit G _ (g k)) (by decide) rfl rfl (Nat.le_of_ble_eq_true rfl) rfl) rfl ?_
        refine Go.trp 95 (go_if_ne_t 95 d_Mod_pattern_66 (by decide) (c1)) rfl ?_
        refine Go.trp 96 (go_aload_n d_Mod_pattern_95 rfl 0 rfl) rfl ?_
        refine Go.trp 99 (go_get f_Mod_7 d_Mod_pattern_96 (hA) rfl) rfl ?_
        refine Go.trp 100 (go_iload_n d_Mod_pattern_99 rfl 2 rfl) rfl ?_
        refine Go.trp 101 (go_iald (j := k) d_Mod_pattern_100 (m0) (rfl) (by omega) (by omega)) rfl ?_
        refine Go.trp 104 (go_callS [.int (g k)] [.int (bI (cDig (g k)))] c0_Mod_digit sm_Mod_digit lk_Mod_115 d_Mod_pattern_101 (e_Mod_digit G _ (g k)) (by decide) rfl rfl (Nat.le_of_ble_eq_true rfl) rfl) rfl ?_
        refine Go.trp 110 (go_if_ne_t 110 d_Mod_pattern_104 (by decide) (c1)) rfl ?_
        refine Go.trp 113 (go_inc1 (n0 := 2) (x := k) [(2, .int (nI (k + 1))), (0, .ref A), (1, .int (nI q))] d_Mod_pattern_110 rfl (by decide) rfl) rfl ?_
        refine (go_pick [1, 2, 0] [(0, .ref A), (1, .int (nI q)), (2, .int (nI (k + 1)))] rfl).tr ?_
        refine Go.trp 16 (go_goto 16 d_Mod_pattern_113 (by decide)) rfl ?_
        rw [if_pos (show cDig (g k) = true by assumption)] at hp
        rw [if_neg (show ¬ (0 < k ∧ cDig (g (k - 1)) = true) from by rintro ⟨q1, q2⟩; first | omega | exact absurd (q2.symm.trans ‹cDig (g (k - 1)) = false›) (by decide))] at hp
        exact ih (k + 1) _ _ (by omega) hp
      · have c4x : 0 < k := Nat.lt_of_not_le (fun q9 => c4 ((nI_leI (a := k) (b := 0) (by omega) (by decide)).mpr q9))
        have c4y : ¬ k ≤ 0 := by omega
        refine Go.trp 40 (go_if_le_f 57 d_Mod_pattern_37 (by decide) (c4)) rfl ?_
        refine Go.trp 41 (go_aload_n d_Mod_pattern_40 rfl 0 rfl) rfl ?_
        refine Go.trp 44 (go_get f_Mod_7 d_Mod_pattern_41 (hA) rfl) rfl ?_
        refine Go.trp 45 (go_iload_n d_Mod_pattern_44 rfl 2 rfl) rfl ?_
        refine Go.trp 46 (go_iconst (v := 1) d_Mod_pattern_45 (by decide)) rfl ?_
        refine Go.trp 47 (go_isub d_Mod_pattern_46) rfl ?_
        refine (go_v (y := nI (k - 1)) (pk_sub (b := 1) (by omega))).tr ?_
        refine Go.trp 48 (go_iald (j := (k - 1)) d_Mod_pattern_47 (m0) (rfl) (by omega) (by omega)) rfl ?_
        refine Go.trp 51 (go_callS [.int (g (k - 1))] [.int (bI (cDig (g (k - 1))))] c0_Mod_digit sm_Mod_digit lk_Mod_115 d_Mod_pattern_48 (e_Mod_digit G _ (g (k - 1))) (by decide) rfl rfl (Nat.le_of_ble_eq_true rfl) rfl) rfl ?_
        by_cases c5 : (bI (cDig (g (k - 1)))) = 0
        · have c5x : (cDig (g (k - 1))) = false := bI_0.mp c5
          refine Go.trp 57 (go_if_eq_t 57 d_Mod_pattern_51 (by decide) (c5)) rfl ?_
          refine Go.trp 58 (go_aload_n d_Mod_pattern_57 rfl 0 rfl) rfl ?_
          refine Go.trp 61 (go_get f_Mod_7 d_Mod_pattern_58 (hA) rfl) rfl ?_
          refine Go.trp 62 (go_iload_n d_Mod_pattern_61 rfl 2 rfl) rfl ?_
          refine Go.trp 63 (go_iald (j := k) d_Mod_pattern_62 (m0) (rfl) (by omega) (by omega)) rfl ?_
          refine Go.trp 66 (go_callS [.int (g k)] [.int (bI (cDig (g k)))] c0_Mod_digit sm_Mod_digit lk_Mod_115 d_Mod_pattern_63 (e_Mod_digit G _ (g k)) (by decide) rfl rfl (Nat.le_of_ble_eq_true rfl) rfl) rfl ?_
          refine Go.trp 95 (go_if_ne_t 95 d_Mod_pattern_66 (by decide) (c1)) rfl ?_
          refine Go.trp 96 (go_aload_n d_Mod_pattern_95 rfl 0 rfl) rfl ?_
          refine Go.trp 99 (go_get f_Mod_7 d_Mod_pattern_96 (hA) rfl) rfl ?_
          refine Go.trp 100 (go_iload_n d_Mod_pattern_99 rfl 2 rfl) rfl ?_
          refine Go.trp 101 (go_iald (j := k) d_Mod_pattern_100 (m0) (rfl) (by omega) (by omega)) rfl ?_
          refine Go.trp 104 (go_callS [.int (g k)] [.int (bI (cDig (g k)))] c0_Mod_digit sm_Mod_digit lk_Mod_115 d_Mod_pattern_101 (e_Mod_digit G _ (g k)) (by decide) rfl rfl (Nat.le_of_ble_eq_true rfl) rfl) rfl ?_
          refine Go.trp 110 (go_if_ne_t 110 d_Mod_pattern_104 (by decide) (c1)) rfl ?_
          refine Go.trp 113 (go_inc1 (n0 := 2) (x := k) [(2, .int (nI (k + 1))), (0, .ref A), (1, .int (nI q))] d_Mod_pattern_110 rfl (by decide) rfl) rfl ?_
          refine (go_pick [1, 2, 0] [(0, .ref A), (1, .int (nI q)), (2, .int (nI (k + 1)))] rfl).tr ?_
          refine Go.trp 16 (go_goto 16 d_Mod_pattern_113 (by decide)) rfl ?_
          rw [if_pos (show cDig (g k) = true by assumption)] at hp
          rw [if_neg (show ¬ (0 < k ∧ cDig (g (k - 1)) = true) from by rintro ⟨q1, q2⟩; first | omega | exact absurd (q2.symm.trans ‹cDig (g (k - 1)) = false›) (by decide))] at hp
          exact ih (k + 1) _ _ (by omega) hp
        · have c5x : (cDig (g (k - 1))) = true := bI_n0.mp c5
          refine Go.trp 54 (go_if_eq_f 57 d_Mod_pattern_51 (by decide) (c5)) rfl ?_
          refine Go.trp 56 (go_bipush (v := (-3)) d_Mod_pattern_54 (by decide)) rfl ?_
          rw [if_pos (show cDig (g k) = true by assumption)] at hp
          rw [if_pos (show 0 < k ∧ cDig (g (k - 1)) = true from ⟨by omega, by assumption⟩)] at hp
          cases hp
theorem g_Mod_pa1S (G : gG) (M : gM) (A : Nat) (a : Nat → Nat) (s : Nat → Int32) (c : Int64) (g : Nat → Int32) (m : Nat) (hI : InjA A a) (hA : gRd M A = some (.inr (11, oMod a s c))) (m0 : gRd M (a 0) = some (aI G 60 g)) (h1 : s 1 = nI m) (hm : m ≤ 60) : ∀ r k q : Nat, k + r = m → p1F g r k q = none → EvF G 1 m_Mod_pattern (16, [(0, .ref A), (1, .int (nI q)), (2, .int (nI k))], [], M) (some (.int (-3))) M := by
  intro r
  induction r with
  | zero =>
    intro k q hk hp
    cases hp
  | succ r ih =>
    intro k q hk hp
    unfold p1F at hp
    refine EvF.gop 17 (go_iload_n d_Mod_pattern_16 rfl 2 rfl) rfl ?_
    refine EvF.gop 18 (go_aload_n d_Mod_pattern_17 rfl 0 rfl) rfl ?_
    refine EvF.gop 21 (go_get f_Mod_118 d_Mod_pattern_18 (hA) rfl) rfl ?_
    refine EvF.gop 24 (go_icmp_ge_f 116 d_Mod_pattern_21 (by decide) (show ¬ s 1 ≤ nI k from by rw [h1]; exact nI_ge (by omega) (by omega))) rfl ?_
    refine EvF.gop 25 (go_aload_n d_Mod_pattern_24 rfl 0 rfl) rfl ?_
    refine EvF.gop 28 (go_get f_Mod_7 d_Mod_pattern_25 (hA) rfl) rfl ?_
    refine EvF.gop 29 (go_iload_n d_Mod_pattern_28 rfl 2 rfl) rfl ?_
    refine EvF.gop 30 (go_iald (j := k) d_Mod_pattern_29 (m0) (rfl) (by omega) (by omega)) rfl ?_
    refine EvF.gop 33 (go_callS [.int (g k)] [.int (bI (cDig (g k)))] c0_Mod_digit sm_Mod_digit lk_Mod_115 d_Mod_pattern_30 (e_Mod_digit G _ (g k)) (by decide) rfl rfl (Nat.le_of_ble_eq_true rfl) rfl) rfl ?_
    by_cases c1 : (bI (cDig (g k))) = 0
    · have c1x : (cDig (g k)) = false := bI_0.mp c1
      refine EvF.gop 57 (go_if_eq_t 57 d_Mod_pattern_33 (by decide) (c1)) rfl ?_
      refine EvF.gop 58 (go_aload_n d_Mod_pattern_57 rfl 0 rfl) rfl ?_
      refine EvF.gop 61 (go_get f_Mod_7 d_Mod_pattern_58 (hA) rfl) rfl ?_
      refine EvF.gop 62 (go_iload_n d_Mod_pattern_61 rfl 2 rfl) rfl ?_
      refine EvF.gop 63 (go_iald (j := k) d_Mod_pattern_62 (m0) (rfl) (by omega) (by omega)) rfl ?_
      refine EvF.gop 66 (go_callS [.int (g k)] [.int (bI (cDig (g k)))] c0_Mod_digit sm_Mod_digit lk_Mod_115 d_Mod_pattern_63 (e_Mod_digit G _ (g k)) (by decide) rfl rfl (Nat.le_of_ble_eq_true rfl) rfl) rfl ?_
      refine EvF.gop 69 (go_if_ne_f 95 d_Mod_pattern_66 (by decide) (c1)) rfl ?_
      refine EvF.gop 70 (go_aload_n d_Mod_pattern_69 rfl 0 rfl) rfl ?_
      refine EvF.gop 73 (go_get f_Mod_7 d_Mod_pattern_70 (hA) rfl) rfl ?_
      refine EvF.gop 74 (go_iload_n d_Mod_pattern_73 rfl 2 rfl) rfl ?_
      refine EvF.gop 75 (go_iald (j := k) d_Mod_pattern_74 (m0) (rfl) (by omega) (by omega)) rfl ?_
      refine EvF.gop 78 (go_callS [.int (g k)] [.int (bI (cLet (g k)))] c0_Mod_letter sm_Mod_letter lk_Mod_111 d_Mod_pattern_75 (e_Mod_letter G _ (g k)) (by decide) rfl rfl (Nat.le_of_ble_eq_true rfl) rfl) rfl ?_
      by_cases c2 : (bI (cLet (g k))) = 0
      · have c2x : (cLet (g k)) = false := bI_0.mp c2
        refine EvF.gop 81 (go_if_ne_f 95 d_Mod_pattern_78 (by decide) (c2)) rfl ?_
        refine EvF.gop 82 (go_aload_n d_Mod_pattern_81 rfl 0 rfl) rfl ?_
        refine EvF.gop 85 (go_get f_Mod_7 d_Mod_pattern_82 (hA) rfl) rfl ?_
        refine EvF.gop 86 (go_iload_n d_Mod_pattern_85 rfl 2 rfl) rfl ?_
        refine EvF.gop 87 (go_iald (j := k) d_Mod_pattern_86 (m0) (rfl) (by omega) (by omega)) rfl ?_
        refine EvF.gop 89 (go_bipush (v := 46) d_Mod_pattern_87 (by decide)) rfl ?_
        by_cases c3 : (g k) = 46
        · refine EvF.gop 95 (go_icmp_eq_t 95 d_Mod_pattern_89 (by decide) (c3)) rfl ?_
          refine EvF.gop 96 (go_aload_n d_Mod_pattern_95 rfl 0 rfl) rfl ?_
          refine EvF.gop 99 (go_get f_Mod_7 d_Mod_pattern_96 (hA) rfl) rfl ?_
          refine EvF.gop 100 (go_iload_n d_Mod_pattern_99 rfl 2 rfl) rfl ?_
          refine EvF.gop 101 (go_iald (j := k) d_Mod_pattern_100 (m0) (rfl) (by omega) (by omega)) rfl ?_
          refine EvF.gop 104 (go_callS [.int (g k)] [.int (bI (cDig (g k)))] c0_Mod_digit sm_Mod_digit lk_Mod_115 d_Mod_pattern_101 (e_Mod_digit G _ (g k)) (by decide) rfl rfl (Nat.le_of_ble_eq_true rfl) rfl) rfl ?_
          refine EvF.gop 107 (go_if_ne_f 110 d_Mod_pattern_104 (by decide) (c1)) rfl ?_
          refine EvF.gop 110 (go_inc1 (n0 := 1) (x := q) [(1, .int (nI (q + 1))), (0, .ref A), (2, .int (nI k))] d_Mod_pattern_107 rfl (by decide) rfl) rfl ?_
          refine EvF.go (go_pick [1, 0, 2] [(0, .ref A), (1, .int (nI (q + 1))), (2, .int (nI k))] rfl) ?_
          refine EvF.gop 113 (go_inc1 (n0 := 2) (x := k) [(2, .int (nI (k + 1))), (0, .ref A), (1, .int (nI (q + 1)))] d_Mod_pattern_110 rfl (by decide) rfl) rfl ?_
          refine EvF.go (go_pick [1, 2, 0] [(0, .ref A), (1, .int (nI (q + 1))), (2, .int (nI (k + 1)))] rfl) ?_
          refine EvF.gop 16 (go_goto 16 d_Mod_pattern_113 (by decide)) rfl ?_
          rw [if_neg (show ¬ cDig (g k) = true from by rw [‹cDig (g k) = false›]; decide)] at hp
          rw [if_pos (show cLet (g k) = true ∨ g k = 46 from by first | (left; assumption) | (right; assumption))] at hp
          exact ih (k + 1) _ (by omega) hp
        · refine EvF.gop 92 (go_icmp_eq_f 95 d_Mod_pattern_89 (by decide) (c3)) rfl ?_
          refine EvF.gop 94 (go_bipush (v := (-3)) d_Mod_pattern_92 (by decide)) rfl ?_
          rw [if_neg (show ¬ cDig (g k) = true from by rw [‹cDig (g k) = false›]; decide)] at hp
          rw [if_neg (show ¬ (cLet (g k) = true ∨ g k = 46) from by rintro (q1 | q1) <;> first | exact absurd q1 (by assumption) | (rw [q1] at *; contradiction) | exact absurd (q1.symm.trans ‹cLet (g k) = false›) (by decide))] at hp
          exact EvF.ri d_Mod_pattern_94 rfl (rfl) (rfl)
      · have c2x : (cLet (g k)) = true := bI_n0.mp c2
        refine EvF.gop 95 (go_if_ne_t 95 d_Mod_pattern_78 (by decide) (c2)) rfl ?_
        refine EvF.gop 96 (go_aload_n d_Mod_pattern_95 rfl 0 rfl) rfl ?_
        refine EvF.gop 99 (go_get f_Mod_7 d_Mod_pattern_96 (hA) rfl) rfl ?_
        refine EvF.gop 100 (go_iload_n d_Mod_pattern_99 rfl 2 rfl) rfl ?_
        refine EvF.gop 101 (go_iald (j := k) d_Mod_pattern_100 (m0) (rfl) (by omega) (by omega)) rfl ?_
        refine EvF.gop 104 (go_callS [.int (g k)] [.int (bI (cDig (g k)))] c0_Mod_digit sm_Mod_digit lk_Mod_115 d_Mod_pattern_101 (e_Mod_digit G _ (g k)) (by decide) rfl rfl (Nat.le_of_ble_eq_true rfl) rfl) rfl ?_
        refine EvF.gop 107 (go_if_ne_f 110 d_Mod_pattern_104 (by decide) (c1)) rfl ?_
        refine EvF.gop 110 (go_inc1 (n0 := 1) (x := q) [(1, .int (nI (q + 1))), (0, .ref A), (2, .int (nI k))] d_Mod_pattern_107 rfl (by decide) rfl) rfl ?_
        refine EvF.go (go_pick [1, 0, 2] [(0, .ref A), (1, .int (nI (q + 1))), (2, .int (nI k))] rfl) ?_
        refine EvF.gop 113 (go_inc1 (n0 := 2) (x := k) [(2, .int (nI (k + 1))), (0, .ref A), (1, .int (nI (q + 1)))] d_Mod_pattern_110 rfl (by decide) rfl) rfl ?_
        refine EvF.go (go_pick [1, 2, 0] [(0, .ref A), (1, .int (nI (q + 1))), (2, .int (nI (k + 1)))] rfl) ?_
        refine EvF.gop 16 (go_goto 16 d_Mod_pattern_113 (by decide)) rfl ?_
        rw [if_neg (show ¬ cDig (g k) = true from by rw [‹cDig (g k) = false›]; decide)] at hp
        rw [if_pos (show cLet (g k) = true ∨ g k = 46 from by first | (left; assumption) | (right; assumption))] at hp
        exact ih (k + 1) _ (by omega) hp
    · have c1x : (cDig (g k)) = true := bI_n0.mp c1
      refine EvF.gop 36 (go_if_eq_f 57 d_Mod_pattern_33 (by decide) (c1)) rfl ?_
      refine EvF.gop 37 (go_iload_n d_Mod_pattern_36 rfl 2 rfl) rfl ?_
      by_cases c4 : (nI k) ≤ 0
      · have c4x : k ≤ 0 := (nI_leI (a := k) (b := 0) (by omega) (by decide)).mp c4
        have c4y : ¬ 0 < k := by omega
        refine EvF.gop 57 (go_if_le_t 57 d_Mod_pattern_37 (by decide) (c4)) rfl ?_
        refine EvF.gop 58 (go_aload_n d_Mod_pattern_57 rfl 0 rfl) rfl ?_
        refine EvF.gop 61 (go_get f_Mod_7 d_Mod_pattern_58 (hA) rfl) rfl ?_
        refine EvF.gop 62 (go_iload_n d_Mod_pattern_61 rfl 2 rfl) rfl ?_
        refine EvF.gop 63 (go_iald (j := k) d_Mod_pattern_62 (m0) (rfl) (by omega) (by omega)) rfl ?_
        refine EvF.gop 66 (go_callS [.int (g k)] [.int (bI (cDig (g k)))] c0_Mod_digit sm_Mod_digit lk_Mod_115 d_Mod_pattern_63 (e_Mod_digit G _ (g k)) (by decide) rfl rfl (Nat.le_of_ble_eq_true rfl) rfl) rfl ?_
        refine EvF.gop 95 (go_if_ne_t 95 d_Mod_pattern_66 (by decide) (c1)) rfl ?_
        refine EvF.gop 96 (go_aload_n d_Mod_pattern_95 rfl 0 rfl) rfl ?_
        refine EvF.gop 99 (go_get f_Mod_7 d_Mod_pattern_96 (hA) rfl) rfl ?_
        refine EvF.gop 100 (go_iload_n d_Mod_pattern_99 rfl 2 rfl) rfl ?_
        refine EvF.gop 101 (go_iald (j := k) d_Mod_pattern_100 (m0) (rfl) (by omega) (by omega)) rfl ?_
        refine EvF.gop 104 (go_callS [.int (g k)] [.int (bI (cDig (g k)))] c0_Mod_digit sm_Mod_digit lk_Mod_115 d_Mod_pattern_101 (e_Mod_digit G _ (g k)) (by decide) rfl rfl (Nat.le_of_ble_eq_true rfl) rfl) rfl ?_
        refine EvF.gop 110 (go_if_ne_t 110 d_Mod_pattern_104 (by decide) (c1)) rfl ?_
        refine EvF.gop 113 (go_inc1 (n0 := 2) (x := k) [(2, .int (nI (k + 1))), (0, .ref A), (1, .int (nI q))] d_Mod_pattern_110 rfl (by decide) rfl) rfl ?_
        refine EvF.go (go_pick [1, 2, 0] [(0, .ref A), (1, .int (nI q)), (2, .int (nI (k + 1)))] rfl) ?_
        refine EvF.gop 16 (go_goto 16 d_Mod_pattern_113 (by decide)) rfl ?_
        rw [if_pos (show cDig (g k) = true by assumption)] at hp
        rw [if_neg (show ¬ (0 < k ∧ cDig (g (k - 1)) = true) from by rintro ⟨q1, q2⟩; first | omega | exact absurd (q2.symm.trans ‹cDig (g (k - 1)) = false›) (by decide))] at hp
        exact ih (k + 1) _ (by omega) hp
      · have c4x : 0 < k := Nat.lt_of_not_le (fun q9 => c4 ((nI_leI (a := k) (b := 0) (by omega) (by decide)).mpr q9))
        have c4y : ¬ k ≤ 0 := by omega
        refine EvF.gop 40 (go_if_le_f 57 d_Mod_pattern_37 (by decide) (c4)) rfl ?_
        refine EvF.gop 41 (go_aload_n d_Mod_pattern_40 rfl 0 rfl) rfl ?_
        refine EvF.gop 44 (go_get f_Mod_7 d_Mod_pattern_41 (hA) rfl) rfl ?_
        refine EvF.gop 45 (go_iload_n d_Mod_pattern_44 rfl 2 rfl) rfl ?_
        refine EvF.gop 46 (go_iconst (v := 1) d_Mod_pattern_45 (by decide)) rfl ?_
        refine EvF.gop 47 (go_isub d_Mod_pattern_46) rfl ?_
        refine EvF.go (go_v (y := nI (k - 1)) (pk_sub (b := 1) (by omega))) ?_
        refine EvF.gop 48 (go_iald (j := (k - 1)) d_Mod_pattern_47 (m0) (rfl) (by omega) (by omega)) rfl ?_
        refine EvF.gop 51 (go_callS [.int (g (k - 1))] [.int (bI (cDig (g (k - 1))))] c0_Mod_digit sm_Mod_digit lk_Mod_115 d_Mod_pattern_48 (e_Mod_digit G _ (g (k - 1))) (by decide) rfl rfl (Nat.le_of_ble_eq_true rfl) rfl) rfl ?_
        by_cases c5 : (bI (cDig (g (k - 1)))) = 0
        · have c5x : (cDig (g (k - 1))) = false := bI_0.mp c5
          refine EvF.gop 57 (go_if_eq_t 57 d_Mod_pattern_51 (by decide) (c5)) rfl ?_
          refine EvF.gop 58 (go_aload_n d_Mod_pattern_57 rfl 0 rfl) rfl ?_
          refine EvF.gop 61 (go_get f_Mod_7 d_Mod_pattern_58 (hA) rfl) rfl ?_
          refine EvF.gop 62 (go_iload_n d_Mod_pattern_61 rfl 2 rfl) rfl ?_
          refine EvF.gop 63 (go_iald (j := k) d_Mod_pattern_62 (m0) (rfl) (by omega) (by omega)) rfl ?_
          refine EvF.gop 66 (go_callS [.int (g k)] [.int (bI (cDig (g k)))] c0_Mod_digit sm_Mod_digit lk_Mod_115 d_Mod_pattern_63 (e_Mod_digit G _ (g k)) (by decide) rfl rfl (Nat.le_of_ble_eq_true rfl) rfl) rfl ?_
          refine EvF.gop 95 (go_if_ne_t 95 d_Mod_pattern_66 (by decide) (c1)) rfl ?_
          refine EvF.gop 96 (go_aload_n d_Mod_pattern_95 rfl 0 rfl) rfl ?_
          refine EvF.gop 99 (go_get f_Mod_7 d_Mod_pattern_96 (hA) rfl) rfl ?_
          refine EvF.gop 100 (go_iload_n d_Mod_pattern_99 rfl 2 rfl) rfl ?_
          refine EvF.gop 101 (go_iald (j := k) d_Mod_pattern_100 (m0) (rfl) (by omega) (by omega)) rfl ?_
          refine EvF.gop 104 (go_callS [.int (g k)] [.int (bI (cDig (g k)))] c0_Mod_digit sm_Mod_digit lk_Mod_115 d_Mod_pattern_101 (e_Mod_digit G _ (g k)) (by decide) rfl rfl (Nat.le_of_ble_eq_true rfl) rfl) rfl ?_
          refine EvF.gop 110 (go_if_ne_t 110 d_Mod_pattern_104 (by decide) (c1)) rfl ?_
          refine EvF.gop 113 (go_inc1 (n0 := 2) (x := k) [(2, .int (nI (k + 1))), (0, .ref A), (1, .int (nI q))] d_Mod_pattern_110 rfl (by decide) rfl) rfl ?_
          refine EvF.go (go_pick [1, 2, 0] [(0, .ref A), (1, .int (nI q)), (2, .int (nI (k + 1)))] rfl) ?_
          refine EvF.gop 16 (go_goto 16 d_Mod_pattern_113 (by decide)) rfl ?_
          rw [if_pos (show cDig (g k) = true by assumption)] at hp
          rw [if_neg (show ¬ (0 < k ∧ cDig (g (k - 1)) = true) from by rintro ⟨q1, q2⟩; first | omega | exact absurd (q2.symm.trans ‹cDig (g (k - 1)) = false›) (by decide))] at hp
          exact ih (k + 1) _ (by omega) hp
        · have c5x : (cDig (g (k - 1))) = true := bI_n0.mp c5
          refine EvF.gop 54 (go_if_eq_f 57 d_Mod_pattern_51 (by decide) (c5)) rfl ?_
          refine EvF.gop 56 (go_bipush (v := (-3)) d_Mod_pattern_54 (by decide)) rfl ?_
          rw [if_pos (show cDig (g k) = true by assumption)] at hp
          rw [if_pos (show 0 < k ∧ cDig (g (k - 1)) = true from ⟨by omega, by assumption⟩)] at hp
          exact EvF.ri d_Mod_pattern_56 rfl (rfl) (rfl)
