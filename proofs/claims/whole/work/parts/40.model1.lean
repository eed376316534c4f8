/-- the fields of the model: array cells by a, numbers by s, the cost c -/
def oMod (a : Nat → Nat) (s : Nat → Int32) (c : Int64) : List Value := [.ref (a 0), .int (s 1), .ref (a 2), .ref (a 3), .ref (a 4), .ref (a 5), .ref (a 6), .ref (a 7), .ref (a 8), .int (s 9), .ref (a 10), .ref (a 11), .ref (a 12), .ref (a 13), .int (s 14), .int (s 15), .int (s 16), .ref (a 17), .ref (a 18), .ref (a 19), .ref (a 20), .ref (a 21), .int (s 22), .int (s 23), .ref (a 24), .ref (a 25), .ref (a 26), .ref (a 27), .int (s 28), .int (s 29), .ref (a 30), .ref (a 31), .ref (a 32), .int (s 33), .int (s 34), .int (s 35), .int (s 36), .int (s 37), .ref (a 38), .ref (a 39), .ref (a 40), .ref (a 41), .ref (a 42), .ref (a 43), .ref (a 44), .ref (a 45), .ref (a 46), .int (s 47), .int (s 48), .int (s 49), .int (s 50), .long c]
def InjA (A : Nat) (a : Nat → Nat) : Prop := (∀ i j, a i = a j → i = j) ∧ ∀ i, A ≠ a i
theorem InjA.n {A : Nat} {a : Nat → Nat} (h : InjA A a) {i j : Nat} (hij : i ≠ j) : a i ≠ a j := fun e => hij (h.1 i j e)
/-- a list of n + 1 numbers, its first one taken off -/
def shF (l : Nat → Int32) (n : Nat) : Nat → Int32 := fun j => if j < n then l (j + 1) else l j
theorem shF_0 (l : Nat → Int32) : shF l 0 = l := by funext j; simp [shF]
theorem shF_s (l : Nat → Int32) (n : Nat) : upd (shF l n) n (l (n + 1)) = shF l (n + 1) := by
  funext j
  by_cases h : j = n
  · subst h; simp [upd, shF]
  · by_cases h2 : j < n
    · have h3 : j < n + 1 := by omega
      simp [upd, shF, h, h2, h3]
    · have h3 : ¬ j < n + 1 := by omega
      simp only [upd, shF, h, h2, h3, if_false]
theorem shF_n (l : Nat → Int32) (n : Nat) : shF l n (n + 1) = l (n + 1) := if_neg (by omega)
theorem g_Mod_take (G : gG) (M : gM) (A : Nat) (a : Nat → Nat) (s : Nat → Int32) (c : Int64) (l : Nat → Int32) (n : Nat) (c0 : Int32) (hI : InjA A a) (hA : gRd M A = some (.inr (11, oMod a s c))) (m10 : gRd M (a 10) = some (aI G 200 l)) (hn : n < 200) : ∀ r k : Nat, k + r = n → Go G m_Mod_take 0 (28, [(0, .ref A), (1, .int c0), (2, .int (nI k))], [], (gWr (gWr M A (.inr (11, oMod a (upd s 14 (nI n)) c))) (a 10) (aI G 200 (shF l k)))) (56, [(0, .ref A), (1, .int c0), (2, .int (nI n))], [], (gWr (gWr M A (.inr (11, oMod a (upd s 14 (nI n)) c))) (a 10) (aI G 200 (shF l n)))) := by
  intro r
  induction r with
  | zero =>
    intro k hk
    rw [show k = n from by omega]
    refine Go.trp 29 (go_iload_n d_Mod_take_28 rfl 2 rfl) rfl ?_
    refine Go.trp 30 (go_aload_n d_Mod_take_29 rfl 0 rfl) rfl ?_
    refine Go.trp 33 (go_get f_Mod_125 d_Mod_take_30 ((gRd_n _ _ (hI.2 10)).trans (gRd_s _ _ _)) rfl) rfl ?_
    refine Go.trp 56 (go_icmp_ge_t 56 d_Mod_take_33 (by decide) (nI_le (Nat.le_refl n) (by omega))) rfl ?_
    exact Go.rf
  | succ r ih =>
    intro k hk
    refine Go.trp 29 (go_iload_n d_Mod_take_28 rfl 2 rfl) rfl ?_
    refine Go.trp 30 (go_aload_n d_Mod_take_29 rfl 0 rfl) rfl ?_
    refine Go.trp 33 (go_get f_Mod_125 d_Mod_take_30 ((gRd_n _ _ (hI.2 10)).trans (gRd_s _ _ _)) rfl) rfl ?_
    refine Go.trp 36 (go_icmp_ge_f 56 d_Mod_take_33 (by decide) (nI_ge (by omega) (by omega))) rfl ?_
    refine Go.trp 37 (go_aload_n d_Mod_take_36 rfl 0 rfl) rfl ?_
    refine Go.trp 40 (go_get f_Mod_34 d_Mod_take_37 ((gRd_n _ _ (hI.2 10)).trans (gRd_s _ _ _)) rfl) rfl ?_
    refine Go.trp 41 (go_iload_n d_Mod_take_40 rfl 2 rfl) rfl ?_
    refine Go.trp 42 (go_aload_n d_Mod_take_41 rfl 0 rfl) rfl ?_
    refine Go.trp 45 (go_get f_Mod_34 d_Mod_take_42 ((gRd_n _ _ (hI.2 10)).trans (gRd_s _ _ _)) rfl) rfl ?_
    refine Go.trp 46 (go_iload_n d_Mod_take_45 rfl 2 rfl) rfl ?_
    refine Go.trp 47 (go_iconst (v := 1) d_Mod_take_46 (by decide)) rfl ?_
    refine Go.trp 48 (go_iadd d_Mod_take_47) rfl ?_
    refine (go_v (y := nI (k + 1)) (nI_1 k)).tr ?_
    refine Go.trp 49 (go_iald (j := (k + 1)) d_Mod_take_48 (gRd_s _ _ _) (rfl) (by omega) (by omega)) rfl ?_
    refine (go_v (y := l (k + 1)) (shF_n l k)).tr ?_
    refine Go.trp 50 (go_iast (j := k) d_Mod_take_49 (gRd_s _ _ _) (rfl) (by omega) (by omega)) rfl ?_
    refine (go_m (M' := (gWr (gWr M A (.inr (11, oMod a (upd s 14 (nI n)) c))) (a 10) (aI G 200 (upd (shF l k) k (l (k + 1)))))) (gWr_wr (gWr M A (.inr (11, oMod a (upd s 14 (nI n)) c))) (a 10) (aI G 200 (shF l k)) (aI G 200 (upd (shF l k) k (l (k + 1)))))).tr ?_
    refine Go.trp 53 (go_inc1 (n0 := 2) (x := k) [(2, .int (nI (k + 1))), (0, .ref A), (1, .int c0)] d_Mod_take_50 rfl (by decide) rfl) rfl ?_
    refine (go_pick [1, 2, 0] [(0, .ref A), (1, .int c0), (2, .int (nI (k + 1)))] rfl).tr ?_
    refine Go.trp 28 (go_goto 28 d_Mod_take_53 (by decide)) rfl ?_
    rw [shF_s]
    exact ih (k + 1) (by omega)
theorem e_Mod_takeE (G : gG) (M : gM) (A : Nat) (a : Nat → Nat) (s : Nat → Int32) (c : Int64) (l : Nat → Int32) (hI : InjA A a) (hA : gRd M A = some (.inr (11, oMod a s c))) (m10 : gRd M (a 10) = some (aI G 200 l)) (hn : s 14 = 0) : Ev G 0 m_Mod_take [.ref A] M (some (.int (-1))) M := by
  refine Ev.of (Nat.le_of_ble_eq_true rfl) ?_
  show EvF G 0 m_Mod_take (0, [(0, .ref A)], [], M) _ _
  refine EvF.gop 1 (go_aload_n d_Mod_take_0 rfl 0 rfl) rfl ?_
  refine EvF.gop 4 (go_get f_Mod_125 d_Mod_take_1 (hA) rfl) rfl ?_
  refine EvF.gop 7 (go_if_ne_f 9 d_Mod_take_4 (by decide) (hn)) rfl ?_
  refine EvF.gop 8 (go_iconst (v := (-1)) d_Mod_take_7 (by decide)) rfl ?_
  exact EvF.ri d_Mod_take_8 rfl (rfl) (rfl)
theorem e_Mod_take (G : gG) (M : gM) (A : Nat) (a : Nat → Nat) (s : Nat → Int32) (c : Int64) (l : Nat → Int32) (n : Nat) (hI : InjA A a) (hA : gRd M A = some (.inr (11, oMod a s c))) (m10 : gRd M (a 10) = some (aI G 200 l)) (hs : s 14 = nI (n + 1)) (hn : n < 200) : Ev G 0 m_Mod_take [.ref A] M (some (.int (l 0))) (gWr (gWr M A (.inr (11, oMod a (upd s 14 (nI n)) c))) (a 10) (aI G 200 (shF l n))) := by
  refine Ev.of (Nat.le_of_ble_eq_true rfl) ?_
  show EvF G 0 m_Mod_take (0, [(0, .ref A)], [], M) _ _
  refine EvF.gop 1 (go_aload_n d_Mod_take_0 rfl 0 rfl) rfl ?_
  refine EvF.gop 4 (go_get f_Mod_125 d_Mod_take_1 (hA) rfl) rfl ?_
  refine EvF.gop 9 (go_if_ne_t 9 d_Mod_take_4 (by decide) (by rw [hs]; exact nI_ne0 (by omega) (by omega))) rfl ?_
  refine EvF.gop 10 (go_aload_n d_Mod_take_9 rfl 0 rfl) rfl ?_
  refine EvF.gop 13 (go_get f_Mod_34 d_Mod_take_10 (hA) rfl) rfl ?_
  refine EvF.gop 14 (go_iconst (v := 0) d_Mod_take_13 (by decide)) rfl ?_
  refine EvF.gop 15 (go_iald (j := 0) d_Mod_take_14 (m10) (rfl) (by decide) (by decide)) rfl ?_
  refine EvF.gop 16 (go_istore_n [(1, .int (l 0)), (0, .ref A)] d_Mod_take_15 rfl (by decide) rfl) rfl ?_
  refine EvF.go (go_pick [1, 0] [(0, .ref A), (1, .int (l 0))] rfl) ?_
  refine EvF.gop 17 (go_aload_n d_Mod_take_16 rfl 0 rfl) rfl ?_
  refine EvF.gop 18 (go_dup d_Mod_take_17 rfl) rfl ?_
  refine EvF.gop 21 (go_get f_Mod_125 d_Mod_take_18 (hA) rfl) rfl ?_
  refine EvF.gop 22 (go_iconst (v := 1) d_Mod_take_21 (by decide)) rfl ?_
  refine EvF.gop 23 (go_isub d_Mod_take_22) rfl ?_
  refine EvF.go (go_v (y := nI n) (by rw [hs]; exact nI_pred n)) ?_
  refine EvF.gop 26 (go_put (oMod a (upd s 14 (nI n)) c) f_Mod_125 ft_Mod_14 d_Mod_take_23 (hA) rfl rfl (Nat.le_of_ble_eq_true rfl) rfl) rfl ?_
  refine EvF.gop 27 (go_iconst (v := nI 0) d_Mod_take_26 (rfl)) rfl ?_
  refine EvF.gop 28 (go_istore_n [(2, .int (nI 0)), (0, .ref A), (1, .int (l 0))] d_Mod_take_27 rfl (by decide) rfl) rfl ?_
  refine EvF.go (go_pick [1, 2, 0] [(0, .ref A), (1, .int (l 0)), (2, .int (nI 0))] rfl) ?_
  refine EvF.go (go_m (M' := (gWr (gWr M A (.inr (11, oMod a (upd s 14 (nI n)) c))) (a 10) (aI G 200 l))) (gWr_id ((gRd_n _ _ (Ne.symm (hI.2 10))).trans (m10))).symm) ?_
  refine EvF.go (go_m (M' := (gWr (gWr M A (.inr (11, oMod a (upd s 14 (nI n)) c))) (a 10) (aI G 200 (shF l 0)))) (by rw [shF_0])) ?_
  refine EvF.go (g_Mod_take G M A a s c l n (l 0) hI hA m10 hn n 0 (by omega)) ?_
  refine EvF.gop 57 (go_iload_n d_Mod_take_56 rfl 1 rfl) rfl ?_
  exact EvF.ri d_Mod_take_57 rfl (rfl) (rfl)
theorem e_Mod_addBreak (G : gG) (M : gM) (A : Nat) (a : Nat → Nat) (s : Nat → Int32) (c : Int64) (K E B : Nat → Int32) (n : Nat) (x y z : Int32) (hI : InjA A a) (hA : gRd M A = some (.inr (11, oMod a s c))) (m25 : gRd M (a 25) = some (aI G 26 K)) (m26 : gRd M (a 26) = some (aI G 26 E)) (m27 : gRd M (a 27) = some (aI G 26 B)) (hs : s 28 = nI n) (hn : n < 24) : Ev G 0 m_Mod_addBreak [.ref A, .int x, .int y, .int z] M (some (.int 1)) (gWr (gWr (gWr (gWr M A (.inr (11, oMod a (upd s 28 (nI (n + 1))) c))) (a 25) (aI G 26 (upd K (n + 1) x))) (a 26) (aI G 26 (upd E (n + 1) y))) (a 27) (aI G 26 (upd B (n + 1) z))) := by
  refine Ev.of (Nat.le_of_ble_eq_true rfl) ?_
  show EvF G 0 m_Mod_addBreak (0, [(0, .ref A), (1, .int x), (2, .int y), (3, .int z)], [], M) _ _
  refine EvF.gop 1 (go_aload_n d_Mod_addBreak_0 rfl 0 rfl) rfl ?_
  refine EvF.gop 4 (go_get f_Mod_163 d_Mod_addBreak_1 (hA) rfl) rfl ?_
  refine EvF.gop 6 (go_bipush (v := 24) d_Mod_addBreak_4 (by decide)) rfl ?_
  refine EvF.gop 11 (go_icmp_ne_t 11 d_Mod_addBreak_6 (by decide) (by rw [hs]; exact fun q => absurd ((nI_eq (a := n) (b := 24) (by omega) (by decide)).mp q) (by omega))) rfl ?_
  refine EvF.gop 12 (go_aload_n d_Mod_addBreak_11 rfl 0 rfl) rfl ?_
  refine EvF.gop 13 (go_dup d_Mod_addBreak_12 rfl) rfl ?_
  refine EvF.gop 16 (go_get f_Mod_163 d_Mod_addBreak_13 (hA) rfl) rfl ?_
  refine EvF.gop 17 (go_iconst (v := 1) d_Mod_addBreak_16 (by decide)) rfl ?_
  refine EvF.gop 18 (go_iadd d_Mod_addBreak_17) rfl ?_
  refine EvF.go (go_v (y := nI (n + 1)) (by rw [hs]; exact nI_1 n)) ?_
  refine EvF.gop 21 (go_put (oMod a (upd s 28 (nI (n + 1))) c) f_Mod_163 ft_Mod_28 d_Mod_addBreak_18 (hA) rfl rfl (Nat.le_of_ble_eq_true rfl) rfl) rfl ?_
  refine EvF.gop 22 (go_aload_n d_Mod_addBreak_21 rfl 0 rfl) rfl ?_
  refine EvF.gop 25 (go_get f_Mod_65 d_Mod_addBreak_22 (gRd_s _ _ _) rfl) rfl ?_
  refine EvF.gop 26 (go_aload_n d_Mod_addBreak_25 rfl 0 rfl) rfl ?_
  refine EvF.gop 29 (go_get f_Mod_163 d_Mod_addBreak_26 (gRd_s _ _ _) rfl) rfl ?_
  refine EvF.gop 30 (go_iload_n d_Mod_addBreak_29 rfl 1 rfl) rfl ?_
  refine EvF.gop 31 (go_iast (j := (n + 1)) d_Mod_addBreak_30 ((gRd_n _ _ (Ne.symm (hI.2 25))).trans (m25)) (rfl) (by omega) (by omega)) rfl ?_
  refine EvF.gop 32 (go_aload_n d_Mod_addBreak_31 rfl 0 rfl) rfl ?_
  refine EvF.gop 35 (go_get f_Mod_68 d_Mod_addBreak_32 ((gRd_n _ _ (hI.2 25)).trans (gRd_s _ _ _)) rfl) rfl ?_
  refine EvF.gop 36 (go_aload_n d_Mod_addBreak_35 rfl 0 rfl) rfl ?_
  refine EvF.gop 39 (go_get f_Mod_163 d_Mod_addBreak_36 ((gRd_n _ _ (hI.2 25)).trans (gRd_s _ _ _)) rfl) rfl ?_
  refine EvF.gop 40 (go_iload_n d_Mod_addBreak_39 rfl 2 rfl) rfl ?_
  refine EvF.gop 41 (go_iast (j := (n + 1)) d_Mod_addBreak_40 ((gRd_n _ _ (hI.n (i := 26) (j := 25) (by decide))).trans ((gRd_n _ _ (Ne.symm (hI.2 26))).trans (m26))) (rfl) (by omega) (by omega)) rfl ?_
  refine EvF.gop 42 (go_aload_n d_Mod_addBreak_41 rfl 0 rfl) rfl ?_
  refine EvF.gop 45 (go_get f_Mod_71 d_Mod_addBreak_42 ((gRd_n _ _ (hI.2 26)).trans ((gRd_n _ _ (hI.2 25)).trans (gRd_s _ _ _))) rfl) rfl ?_
  refine EvF.gop 46 (go_aload_n d_Mod_addBreak_45 rfl 0 rfl) rfl ?_
  refine EvF.gop 49 (go_get f_Mod_163 d_Mod_addBreak_46 ((gRd_n _ _ (hI.2 26)).trans ((gRd_n _ _ (hI.2 25)).trans (gRd_s _ _ _))) rfl) rfl ?_
  refine EvF.gop 50 (go_iload_n d_Mod_addBreak_49 rfl 3 rfl) rfl ?_
  refine EvF.gop 51 (go_iast (j := (n + 1)) d_Mod_addBreak_50 ((gRd_n _ _ (hI.n (i := 27) (j := 26) (by decide))).trans ((gRd_n _ _ (hI.n (i := 27) (j := 25) (by decide))).trans ((gRd_n _ _ (Ne.symm (hI.2 27))).trans (m27)))) (rfl) (by omega) (by omega)) rfl ?_
  refine EvF.gop 52 (go_iconst (v := 1) d_Mod_addBreak_51 (by decide)) rfl ?_
  exact EvF.rz d_Mod_addBreak_52 rfl (by decide) (rfl) (rfl)
theorem e_Mod_addBreakF (G : gG) (M : gM) (A : Nat) (a : Nat → Nat) (s : Nat → Int32) (c : Int64) (K E B : Nat → Int32) (x y z : Int32) (hI : InjA A a) (hA : gRd M A = some (.inr (11, oMod a s c))) (m25 : gRd M (a 25) = some (aI G 26 K)) (m26 : gRd M (a 26) = some (aI G 26 E)) (m27 : gRd M (a 27) = some (aI G 26 B)) (hs : s 28 = 24) : Ev G 0 m_Mod_addBreak [.ref A, .int x, .int y, .int z] M (some (.int 0)) M := by
  refine Ev.of (Nat.le_of_ble_eq_true rfl) ?_
  show EvF G 0 m_Mod_addBreak (0, [(0, .ref A), (1, .int x), (2, .int y), (3, .int z)], [], M) _ _
  refine EvF.gop 1 (go_aload_n d_Mod_addBreak_0 rfl 0 rfl) rfl ?_
  refine EvF.gop 4 (go_get f_Mod_163 d_Mod_addBreak_1 (hA) rfl) rfl ?_
  refine EvF.gop 6 (go_bipush (v := 24) d_Mod_addBreak_4 (by decide)) rfl ?_
  refine EvF.gop 9 (go_icmp_ne_f 11 d_Mod_addBreak_6 (by decide) (hs)) rfl ?_
  refine EvF.gop 10 (go_iconst (v := 0) d_Mod_addBreak_9 (by decide)) rfl ?_
  exact EvF.rz d_Mod_addBreak_10 rfl (by decide) (rfl) (rfl)
/-- what stands behind place i comes one place nearer, up to place k -/
def dsF (l : Nat → Int32) (i k : Nat) : Nat → Int32 := fun j => if i ≤ j ∧ j < k then l (j + 1) else l j
theorem dsF_0 (l : Nat → Int32) (i : Nat) : dsF l i i = l := by funext j; exact if_neg (by omega)
theorem dsF_s {i k : Nat} (l : Nat → Int32) (h : i ≤ k) : upd (dsF l i k) k (l (k + 1)) = dsF l i (k + 1) := by
  funext j
  by_cases h1 : j = k
  · subst h1
    have h3 : i ≤ j ∧ j < j + 1 := by omega
    simp [upd, dsF, h3]
  · by_cases h2 : i ≤ j ∧ j < k
    · have h3 : i ≤ j ∧ j < k + 1 := by omega
      simp [upd, dsF, h1, h2, h3]
    · have h3 : ¬ (i ≤ j ∧ j < k + 1) := by omega
      simp only [upd, dsF, h1, h2, h3, if_false]
theorem dsF_n (l : Nat → Int32) (i k : Nat) : dsF l i k (k + 1) = l (k + 1) := if_neg (by omega)
theorem g_Mod_drop (G : gG) (M : gM) (A : Nat) (a : Nat → Nat) (s : Nat → Int32) (c : Int64) (ci si : Nat → Int32) (n i : Nat) (hI : InjA A a) (hA : gRd M A = some (.inr (11, oMod a s c))) (m17 : gRd M (a 17) = some (aI G 120 ci)) (m18 : gRd M (a 18) = some (aI G 120 si)) (hn : n < 120) : ∀ r k : Nat, k + r = n → i ≤ k → Go G m_Mod_drop 0 (12, [(0, .ref A), (1, .int (nI i)), (2, .int (nI k))], [], (gWr (gWr (gWr M A (.inr (11, oMod a (upd s 22 (nI n)) c))) (a 17) (aI G 120 (dsF ci i k))) (a 18) (aI G 120 (dsF si i k)))) (54, [(0, .ref A), (1, .int (nI i)), (2, .int (nI n))], [], (gWr (gWr (gWr M A (.inr (11, oMod a (upd s 22 (nI n)) c))) (a 17) (aI G 120 (dsF ci i n))) (a 18) (aI G 120 (dsF si i n)))) := by
  intro r
  induction r with
  | zero =>
    intro k hk hik
    rw [show k = n from by omega]
    refine Go.trp 13 (go_iload_n d_Mod_drop_12 rfl 2 rfl) rfl ?_
    refine Go.trp 14 (go_aload_n d_Mod_drop_13 rfl 0 rfl) rfl ?_
    refine Go.trp 17 (go_get f_Mod_142 d_Mod_drop_14 ((gRd_n _ _ (hI.2 18)).trans ((gRd_n _ _ (hI.2 17)).trans (gRd_s _ _ _))) rfl) rfl ?_
    refine Go.trp 54 (go_icmp_ge_t 54 d_Mod_drop_17 (by decide) (nI_le (Nat.le_refl n) (by omega))) rfl ?_
    exact Go.rf
  | succ r ih =>
    intro k hk hik
    refine Go.trp 13 (go_iload_n d_Mod_drop_12 rfl 2 rfl) rfl ?_
    refine Go.trp 14 (go_aload_n d_Mod_drop_13 rfl 0 rfl) rfl ?_
    refine Go.trp 17 (go_get f_Mod_142 d_Mod_drop_14 ((gRd_n _ _ (hI.2 18)).trans ((gRd_n _ _ (hI.2 17)).trans (gRd_s _ _ _))) rfl) rfl ?_
    refine Go.trp 20 (go_icmp_ge_f 54 d_Mod_drop_17 (by decide) (nI_ge (by omega) (by omega))) rfl ?_
    refine Go.trp 21 (go_aload_n d_Mod_drop_20 rfl 0 rfl) rfl ?_
    refine Go.trp 24 (go_get f_Mod_46 d_Mod_drop_21 ((gRd_n _ _ (hI.2 18)).trans ((gRd_n _ _ (hI.2 17)).trans (gRd_s _ _ _))) rfl) rfl ?_
    refine Go.trp 25 (go_iload_n d_Mod_drop_24 rfl 2 rfl) rfl ?_
    refine Go.trp 26 (go_aload_n d_Mod_drop_25 rfl 0 rfl) rfl ?_
    refine Go.trp 29 (go_get f_Mod_46 d_Mod_drop_26 ((gRd_n _ _ (hI.2 18)).trans ((gRd_n _ _ (hI.2 17)).trans (gRd_s _ _ _))) rfl) rfl ?_
    refine Go.trp 30 (go_iload_n d_Mod_drop_29 rfl 2 rfl) rfl ?_
    refine Go.trp 31 (go_iconst (v := 1) d_Mod_drop_30 (by decide)) rfl ?_
    refine Go.trp 32 (go_iadd d_Mod_drop_31) rfl ?_
    refine (go_v (y := nI (k + 1)) (nI_1 k)).tr ?_
    refine Go.trp 33 (go_iald (j := (k + 1)) d_Mod_drop_32 ((gRd_n _ _ (hI.n (i := 17) (j := 18) (by decide))).trans (gRd_s _ _ _)) (rfl) (by omega) (by omega)) rfl ?_
    refine (go_v (y := ci (k + 1)) (dsF_n ci i k)).tr ?_
    refine Go.trp 34 (go_iast (j := k) d_Mod_drop_33 ((gRd_n _ _ (hI.n (i := 17) (j := 18) (by decide))).trans (gRd_s _ _ _)) (rfl) (by omega) (by omega)) rfl ?_
    refine (go_m (M' := (gWr (gWr (gWr M A (.inr (11, oMod a (upd s 22 (nI n)) c))) (a 17) (aI G 120 (upd (dsF ci i k) k (ci (k + 1))))) (a 18) (aI G 120 (dsF si i k)))) ((gWr_cm (gWr (gWr M A (.inr (11, oMod a (upd s 22 (nI n)) c))) (a 17) (aI G 120 (dsF ci i k))) (aI G 120 (dsF si i k)) (aI G 120 (upd (dsF ci i k) k (ci (k + 1)))) (hI.n (i := 18) (j := 17) (by decide))).trans (congrArg (fun mZ => gWr mZ (a 18) (aI G 120 (dsF si i k))) (gWr_wr (gWr M A (.inr (11, oMod a (upd s 22 (nI n)) c))) (a 17) (aI G 120 (dsF ci i k)) (aI G 120 (upd (dsF ci i k) k (ci (k + 1)))))))).tr ?_
    refine Go.trp 35 (go_aload_n d_Mod_drop_34 rfl 0 rfl) rfl ?_
    refine Go.trp 38 (go_get f_Mod_49 d_Mod_drop_35 ((gRd_n _ _ (hI.2 18)).trans ((gRd_n _ _ (hI.2 17)).trans (gRd_s _ _ _))) rfl) rfl ?_
    refine Go.trp 39 (go_iload_n d_Mod_drop_38 rfl 2 rfl) rfl ?_
    refine Go.trp 40 (go_aload_n d_Mod_drop_39 rfl 0 rfl) rfl ?_
    refine Go.trp 43 (go_get f_Mod_49 d_Mod_drop_40 ((gRd_n _ _ (hI.2 18)).trans ((gRd_n _ _ (hI.2 17)).trans (gRd_s _ _ _))) rfl) rfl ?_
    refine Go.trp 44 (go_iload_n d_Mod_drop_43 rfl 2 rfl) rfl ?_
    refine Go.trp 45 (go_iconst (v := 1) d_Mod_drop_44 (by decide)) rfl ?_
    refine Go.trp 46 (go_iadd d_Mod_drop_45) rfl ?_
    refine (go_v (y := nI (k + 1)) (nI_1 k)).tr ?_
    refine Go.trp 47 (go_iald (j := (k + 1)) d_Mod_drop_46 (gRd_s _ _ _) (rfl) (by omega) (by omega)) rfl ?_
    refine (go_v (y := si (k + 1)) (dsF_n si i k)).tr ?_
    refine Go.trp 48 (go_iast (j := k) d_Mod_drop_47 (gRd_s _ _ _) (rfl) (by omega) (by omega)) rfl ?_
    refine (go_m (M' := (gWr (gWr (gWr M A (.inr (11, oMod a (upd s 22 (nI n)) c))) (a 17) (aI G 120 (upd (dsF ci i k) k (ci (k + 1))))) (a 18) (aI G 120 (upd (dsF si i k) k (si (k + 1)))))) (gWr_wr (gWr (gWr M A (.inr (11, oMod a (upd s 22 (nI n)) c))) (a 17) (aI G 120 (upd (dsF ci i k) k (ci (k + 1))))) (a 18) (aI G 120 (dsF si i k)) (aI G 120 (upd (dsF si i k) k (si (k + 1)))))).tr ?_
    refine Go.trp 51 (go_inc1 (n0 := 2) (x := k) [(2, .int (nI (k + 1))), (0, .ref A), (1, .int (nI i))] d_Mod_drop_48 rfl (by decide) rfl) rfl ?_
    refine (go_pick [1, 2, 0] [(0, .ref A), (1, .int (nI i)), (2, .int (nI (k + 1)))] rfl).tr ?_
    refine Go.trp 12 (go_goto 12 d_Mod_drop_51 (by decide)) rfl ?_
    rw [dsF_s ci hik, dsF_s si hik]
    exact ih (k + 1) (by omega) (by omega)
theorem e_Mod_drop (G : gG) (M : gM) (A : Nat) (a : Nat → Nat) (s : Nat → Int32) (c : Int64) (ci si : Nat → Int32) (n i : Nat) (hI : InjA A a) (hA : gRd M A = some (.inr (11, oMod a s c))) (m17 : gRd M (a 17) = some (aI G 120 ci)) (m18 : gRd M (a 18) = some (aI G 120 si)) (hs : s 22 = nI (n + 1)) (hn : n < 120) (hi : i ≤ n) : Ev G 0 m_Mod_drop [.ref A, .int (nI i)] M none (gWr (gWr (gWr M A (.inr (11, oMod a (upd s 22 (nI n)) c))) (a 17) (aI G 120 (dsF ci i n))) (a 18) (aI G 120 (dsF si i n))) := by
  refine Ev.of (Nat.le_of_ble_eq_true rfl) ?_
  show EvF G 0 m_Mod_drop (0, [(0, .ref A), (1, .int (nI i))], [], M) _ _
  refine EvF.gop 1 (go_aload_n d_Mod_drop_0 rfl 0 rfl) rfl ?_
  refine EvF.gop 2 (go_dup d_Mod_drop_1 rfl) rfl ?_
  refine EvF.gop 5 (go_get f_Mod_142 d_Mod_drop_2 (hA) rfl) rfl ?_
  refine EvF.gop 6 (go_iconst (v := 1) d_Mod_drop_5 (by decide)) rfl ?_
  refine EvF.gop 7 (go_isub d_Mod_drop_6) rfl ?_
  refine EvF.go (go_v (y := nI n) (by rw [hs]; exact nI_pred n)) ?_
  refine EvF.gop 10 (go_put (oMod a (upd s 22 (nI n)) c) f_Mod_142 ft_Mod_22 d_Mod_drop_7 (hA) rfl rfl (Nat.le_of_ble_eq_true rfl) rfl) rfl ?_
  refine EvF.gop 11 (go_iload_n d_Mod_drop_10 rfl 1 rfl) rfl ?_
  refine EvF.gop 12 (go_istore_n [(2, .int (nI i)), (0, .ref A), (1, .int (nI i))] d_Mod_drop_11 rfl (by decide) rfl) rfl ?_
  refine EvF.go (go_pick [1, 2, 0] [(0, .ref A), (1, .int (nI i)), (2, .int (nI i))] rfl) ?_
  refine EvF.go (go_m (M' := (gWr (gWr M A (.inr (11, oMod a (upd s 22 (nI n)) c))) (a 17) (aI G 120 ci))) (gWr_id ((gRd_n _ _ (Ne.symm (hI.2 17))).trans (m17))).symm) ?_
  refine EvF.go (go_m (M' := (gWr (gWr (gWr M A (.inr (11, oMod a (upd s 22 (nI n)) c))) (a 17) (aI G 120 ci)) (a 18) (aI G 120 si))) (gWr_id ((gRd_n _ _ (hI.n (i := 18) (j := 17) (by decide))).trans ((gRd_n _ _ (Ne.symm (hI.2 18))).trans (m18)))).symm) ?_
  refine EvF.go (go_m (M' := (gWr (gWr (gWr M A (.inr (11, oMod a (upd s 22 (nI n)) c))) (a 17) (aI G 120 (dsF ci i i))) (a 18) (aI G 120 (dsF si i i)))) (by rw [dsF_0, dsF_0])) ?_
  refine EvF.go (g_Mod_drop G M A a s c ci si n i hI hA m17 m18 hn (n - i) i (by omega) (Nat.le_refl i)) ?_
  exact EvF.rv d_Mod_drop_54 rfl rfl
