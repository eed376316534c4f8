/-- Row.isFull -/
theorem e_Row_isFull (G : gG) (M : gM) (a ar n sz : Nat) (f : Nat → Int32) (h1 : gRd M a = some (.inr (0, [.ref ar, .int (nI sz)]))) (h2 : gRd M ar = some (aI G n f)) (hsz : sz ≤ n) (hn : n < 2 ^ 31) : Ev G 0 m_Row_isFull [.ref a] M (some (.int (bI (decide (sz = n))))) M := by
  have q1 : nI sz = nI n ↔ sz = n := nI_eq (by omega) hn
  refine Ev.of (Nat.le_of_ble_eq_true rfl) ?_
  show EvF G 0 m_Row_isFull (0, [(0, .ref a)], [], M) _ _
  refine EvF.gop 1 (go_aload_n d_Row_isFull_0 rfl 0 rfl) rfl ?_
  refine EvF.gop 4 (go_get f_Row_13 d_Row_isFull_1 (h1) rfl) rfl ?_
  refine EvF.gop 5 (go_aload_n d_Row_isFull_4 rfl 0 rfl) rfl ?_
  refine EvF.gop 8 (go_get f_Row_7 d_Row_isFull_5 (h1) rfl) rfl ?_
  refine EvF.gop 9 (go_alenI d_Row_isFull_8 (h2)) rfl ?_
  by_cases c1 : (nI sz) = (nI n)
  · have c1x : sz = n := (nI_eq (a := sz) (b := n) (by omega) (by omega)).mp c1
    refine EvF.gop 12 (go_icmp_ne_f 16 d_Row_isFull_9 (by decide) (c1)) rfl ?_
    refine EvF.gop 13 (go_iconst (v := 1) d_Row_isFull_12 (by decide)) rfl ?_
    refine EvF.gop 17 (go_goto 17 d_Row_isFull_13 (by decide)) rfl ?_
    exact EvF.rz d_Row_isFull_17 rfl (by decide) (by simp_all [bI]) (rfl)
  · have c1x : ¬ sz = n := fun q9 => c1 ((nI_eq (a := sz) (b := n) (by omega) (by omega)).mpr q9)
    refine EvF.gop 16 (go_icmp_ne_t 16 d_Row_isFull_9 (by decide) (c1)) rfl ?_
    refine EvF.gop 17 (go_iconst (v := 0) d_Row_isFull_16 (by decide)) rfl ?_
    exact EvF.rz d_Row_isFull_17 rfl (by decide) (by simp_all [bI]) (rfl)
/-- Row.clear -/
theorem e_Row_clear (G : gG) (M : gM) (a ar : Nat) (x : Int32) (h1 : gRd M a = some (.inr (0, [.ref ar, .int x]))) : Ev G 0 m_Row_clear [.ref a] M none (gWr M a (.inr (0, [.ref ar, .int (nI 0)]))) := by
  refine Ev.of (Nat.le_of_ble_eq_true rfl) ?_
  show EvF G 0 m_Row_clear (0, [(0, .ref a)], [], M) _ _
  refine EvF.gop 1 (go_aload_n d_Row_clear_0 rfl 0 rfl) rfl ?_
  refine EvF.gop 2 (go_iconst (v := nI 0) d_Row_clear_1 (rfl)) rfl ?_
  refine EvF.gop 5 (go_put [.ref ar, .int (nI 0)] f_Row_13 ft_Row_1 d_Row_clear_2 (h1) (rfl) (rfl) (Nat.le_of_ble_eq_true rfl) rfl) rfl ?_
  exact EvF.rv d_Row_clear_5 rfl (rfl)
/-- Row.add where there is room -/
theorem e_Row_add (G : gG) (M : gM) (a ar n sz : Nat) (f : Nat → Int32) (c : Int32) (h1 : gRd M a = some (.inr (0, [.ref ar, .int (nI sz)]))) (h2 : gRd M ar = some (aI G n f)) (hsz : sz < n) (hn : n < 2 ^ 31) : Ev G 0 m_Row_add [.ref a, .int c] M none (gWr (gWr M ar (aI G n (upd f sz c))) a (.inr (0, [.ref ar, .int (nI (sz + 1))]))) := by
  refine Ev.of (Nat.le_of_ble_eq_true rfl) ?_
  show EvF G 0 m_Row_add (0, [(0, .ref a), (1, .int c)], [], M) _ _
  refine EvF.gop 1 (go_aload_n d_Row_add_0 rfl 0 rfl) rfl ?_
  refine EvF.gop 4 (go_get f_Row_13 d_Row_add_1 (h1) rfl) rfl ?_
  refine EvF.gop 5 (go_aload_n d_Row_add_4 rfl 0 rfl) rfl ?_
  refine EvF.gop 8 (go_get f_Row_7 d_Row_add_5 (h1) rfl) rfl ?_
  refine EvF.gop 9 (go_alenI d_Row_add_8 (h2)) rfl ?_
  refine EvF.gop 12 (go_icmp_ge_f 32 d_Row_add_9 (by decide) (nI_ge hsz hn)) rfl ?_
  refine EvF.gop 13 (go_aload_n d_Row_add_12 rfl 0 rfl) rfl ?_
  refine EvF.gop 16 (go_get f_Row_7 d_Row_add_13 (h1) rfl) rfl ?_
  refine EvF.gop 17 (go_aload_n d_Row_add_16 rfl 0 rfl) rfl ?_
  refine EvF.gop 20 (go_get f_Row_13 d_Row_add_17 (h1) rfl) rfl ?_
  refine EvF.gop 21 (go_iload_n d_Row_add_20 rfl 1 rfl) rfl ?_
  refine EvF.gop 22 (go_iast (j := sz) d_Row_add_21 (h2) (rfl) (hsz) (by omega)) rfl ?_
  refine EvF.gop 23 (go_aload_n d_Row_add_22 rfl 0 rfl) rfl ?_
  refine EvF.gop 24 (go_dup d_Row_add_23 rfl) rfl ?_
  refine EvF.gop 27 (go_get f_Row_13 d_Row_add_24 ((gRd_n _ _ (gNe h1 h2)).trans (h1)) rfl) rfl ?_
  refine EvF.gop 28 (go_iconst (v := 1) d_Row_add_27 (by decide)) rfl ?_
  refine EvF.gop 29 (go_iadd d_Row_add_28) rfl ?_
  refine EvF.go (go_v (y := nI (sz + 1)) (nI_1 sz)) ?_
  refine EvF.gop 32 (go_put [.ref ar, .int (nI (sz + 1))] f_Row_13 ft_Row_1 d_Row_add_29 ((gRd_n _ _ (gNe h1 h2)).trans (h1)) (rfl) (rfl) (Nat.le_of_ble_eq_true rfl) rfl) rfl ?_
  exact EvF.rv d_Row_add_32 rfl (rfl)
def cpI (g : Nat → Int32) (m : Nat) (f : Nat → Int32) : Nat → Int32 := fun j => if j < m then g j else f j
theorem cpI_s (g : Nat → Int32) (m : Nat) (f : Nat → Int32) : upd (cpI g m f) m (g m) = cpI g (m + 1) f := by
  funext j
  by_cases h : j = m
  · subst h; simp [upd, cpI]
  · by_cases h2 : j < m
    · simp [upd, cpI, h, h2, Nat.lt_succ_of_lt h2]
    · have h3 : ¬ j < m + 1 := by omega
      simp [upd, cpI, h, h2, h3]
theorem cpI_0 (g f : Nat → Int32) : cpI g 0 f = f := by funext j; simp [cpI]
theorem g_Row_become (G : gG) (M : gM) (a ar n b br nb m : Nat) (x : Int32) (f g : Nat → Int32) (h1 : gRd M a = some (.inr (0, [.ref ar, .int x]))) (h2 : gRd M ar = some (aI G n f)) (h3 : gRd M b = some (.inr (0, [.ref br, .int (nI m)]))) (h4 : gRd M br = some (aI G nb g)) (hab : a ≠ b) (habr : ar ≠ br) (hm : m ≤ n) (hmb : m ≤ nb) (hn : n < 2 ^ 31) (hnb : nb < 2 ^ 31) : ∀ r k : Nat, k + r = m → Go G m_Row_become 1 (6, [(0, .ref a), (1, .ref b), (2, .int (nI k))], [], (gWr (gWr M a (.inr (0, [.ref ar, .int (nI k)]))) ar (aI G n (cpI g k f)))) (30, [(0, .ref a), (1, .ref b), (2, .int (nI m))], [], (gWr (gWr M a (.inr (0, [.ref ar, .int (nI m)]))) ar (aI G n (cpI g m f)))) := by
  intro r
  induction r with
  | zero =>
    intro k hk
    have hk : k = m := by omega
    subst hk
    refine Go.trp 7 (go_iload_n d_Row_become_6 rfl 2 rfl) rfl ?_
    refine Go.trp 8 (go_aload_n d_Row_become_7 rfl 1 rfl) rfl ?_
    refine Go.trp 11 (go_get f_Row_13 d_Row_become_8 ((gRd_n _ _ (gNe h3 h2)).trans ((gRd_n _ _ (Ne.symm hab)).trans (h3))) rfl) rfl ?_
    refine Go.trp 30 (go_icmp_ge_t 30 d_Row_become_11 (by decide) (nI_le (Nat.le_refl k) (by omega))) rfl ?_
    exact Go.rf
  | succ r ih =>
    intro k hk
    refine Go.trp 7 (go_iload_n d_Row_become_6 rfl 2 rfl) rfl ?_
    refine Go.trp 8 (go_aload_n d_Row_become_7 rfl 1 rfl) rfl ?_
    refine Go.trp 11 (go_get f_Row_13 d_Row_become_8 ((gRd_n _ _ (gNe h3 h2)).trans ((gRd_n _ _ (Ne.symm hab)).trans (h3))) rfl) rfl ?_
    refine Go.trp 14 (go_icmp_ge_f 30 d_Row_become_11 (by decide) (nI_ge (by omega) (by omega))) rfl ?_
    refine Go.trp 15 (go_aload_n d_Row_become_14 rfl 0 rfl) rfl ?_
    refine Go.trp 16 (go_aload_n d_Row_become_15 rfl 1 rfl) rfl ?_
    refine Go.trp 19 (go_get f_Row_7 d_Row_become_16 ((gRd_n _ _ (gNe h3 h2)).trans ((gRd_n _ _ (Ne.symm hab)).trans (h3))) rfl) rfl ?_
    refine Go.trp 20 (go_iload_n d_Row_become_19 rfl 2 rfl) rfl ?_
    refine Go.trp 21 (go_iald (j := k) d_Row_become_20 ((gRd_n _ _ (Ne.symm habr)).trans ((gRd_n _ _ (Ne.symm (gNe h1 h4))).trans (h4))) (rfl) (by omega) (by omega)) rfl ?_
    refine Go.trp 24 (go_callV [.int (g k)] [] c0_Row_add im_Row_add se_Row_add lk_Row_20 d_Row_become_21 rfl rfl ((gRd_n _ _ (gNe h1 h2)).trans (gRd_s _ _ _)) (e_Row_add G _ a ar n k (cpI g k f) (g k) (((gRd_n _ _ (gNe h1 h2)).trans (gRd_s _ _ _))) ((gRd_s _ _ _)) (by omega) hn) (by decide) rfl rfl (Nat.le_of_ble_eq_true rfl) rfl) rfl ?_
    refine (go_m (M' := (gWr (gWr M a (.inr (0, [.ref ar, .int (nI (k + 1))]))) ar (aI G n (upd (cpI g k f) k (g k))))) ((congrArg (fun m => gWr m a (.inr (0, [.ref ar, .int (nI (k + 1))]))) (gWr_wr (gWr M a (.inr (0, [.ref ar, .int (nI k)]))) ar (aI G n (cpI g k f)) (aI G n (upd (cpI g k f) k (g k))))).trans ((gWr_cm (gWr M a (.inr (0, [.ref ar, .int (nI k)]))) (aI G n (upd (cpI g k f) k (g k))) (.inr (0, [.ref ar, .int (nI (k + 1))])) (Ne.symm (gNe h1 h2))).trans (congrArg (fun m => gWr m ar (aI G n (upd (cpI g k f) k (g k)))) (gWr_wr M a (.inr (0, [.ref ar, .int (nI k)])) (.inr (0, [.ref ar, .int (nI (k + 1))]))))))).tr ?_
    refine Go.trp 27 (go_inc1 (n0 := 2) (x := k) [(2, .int (nI (k + 1))), (0, .ref a), (1, .ref b)] d_Row_become_24 rfl (by decide) rfl) rfl ?_
    refine (go_pick [1, 2, 0] [(0, .ref a), (1, .ref b), (2, .int (nI (k + 1)))] rfl).tr ?_
    refine Go.trp 6 (go_goto 6 d_Row_become_27 (by decide)) rfl ?_
    rw [cpI_s]
    exact ih (k + 1) (by omega)
theorem e_Row_become (G : gG) (M : gM) (a ar n b br nb m : Nat) (x : Int32) (f g : Nat → Int32) (h1 : gRd M a = some (.inr (0, [.ref ar, .int x]))) (h2 : gRd M ar = some (aI G n f)) (h3 : gRd M b = some (.inr (0, [.ref br, .int (nI m)]))) (h4 : gRd M br = some (aI G nb g)) (hab : a ≠ b) (habr : ar ≠ br) (hm : m ≤ n) (hmb : m ≤ nb) (hn : n < 2 ^ 31) (hnb : nb < 2 ^ 31) : Ev G 1 m_Row_become [.ref a, .ref b] M none (gWr (gWr M a (.inr (0, [.ref ar, .int (nI m)]))) ar (aI G n (cpI g m f))) := by
  refine Ev.of (Nat.le_of_ble_eq_true rfl) ?_
  show EvF G 1 m_Row_become (0, [(0, .ref a), (1, .ref b)], [], M) _ _
  refine EvF.gop 1 (go_aload_n d_Row_become_0 rfl 0 rfl) rfl ?_
  refine EvF.gop 4 (go_callV [] [] c0_Row_clear im_Row_clear se_Row_clear lk_Row_17 d_Row_become_1 rfl rfl (h1) (e_Row_clear G M a ar x h1) (by decide) rfl rfl (Nat.le_of_ble_eq_true rfl) rfl) rfl ?_
  refine EvF.go (go_m (M' := (gWr (gWr M a (.inr (0, [.ref ar, .int (nI 0)]))) ar (aI G n f))) (gWr_id ((gRd_n _ _ (Ne.symm (gNe h1 h2))).trans (h2))).symm) ?_
  refine EvF.gop 5 (go_iconst (v := nI 0) d_Row_become_4 (rfl)) rfl ?_
  refine EvF.gop 6 (go_istore_n [(2, .int (nI 0)), (0, .ref a), (1, .ref b)] d_Row_become_5 rfl (by decide) rfl) rfl ?_
  refine EvF.go (go_pick [1, 2, 0] [(0, .ref a), (1, .ref b), (2, .int (nI 0))] rfl) ?_
  rw [← cpI_0 g f]
  refine EvF.go (g_Row_become G M a ar n b br nb m x f g h1 h2 h3 h4 hab habr hm hmb hn hnb m 0 (by omega)) ?_
  exact EvF.rv d_Row_become_30 rfl rfl
def cntI (f : Nat → Int32) (c : Int32) : Nat → Nat
  | 0 => 0
  | k + 1 => cntI f c k + (if f k = c then 1 else 0)
theorem cntI_le (f : Nat → Int32) (c : Int32) : ∀ k, cntI f c k ≤ k
  | 0 => Nat.le_refl 0
  | k + 1 => by
    have := cntI_le f c k
    show cntI f c k + _ ≤ k + 1
    split <;> omega
theorem g_Row_howMany (G : gG) (M : gM) (a ar n sz : Nat) (f : Nat → Int32) (c : Int32) (h1 : gRd M a = some (.inr (0, [.ref ar, .int (nI sz)]))) (h2 : gRd M ar = some (aI G n f)) (hsz : sz ≤ n) (hn : n < 2 ^ 31) : ∀ r k : Nat, k + r = sz → Go G m_Row_howMany 0 (4, [(0, .ref a), (1, .int c), (2, .int (nI (cntI f c k))), (3, .int (nI k))], [], M) (31, [(0, .ref a), (1, .int c), (2, .int (nI (cntI f c sz))), (3, .int (nI sz))], [], M) := by
  intro r
  induction r with
  | zero =>
    intro k hk
    have hk : k = sz := by omega
    subst hk
    refine Go.trp 5 (go_iload_n d_Row_howMany_4 rfl 3 rfl) rfl ?_
    refine Go.trp 6 (go_aload_n d_Row_howMany_5 rfl 0 rfl) rfl ?_
    refine Go.trp 9 (go_get f_Row_13 d_Row_howMany_6 (h1) rfl) rfl ?_
    refine Go.trp 31 (go_icmp_ge_t 31 d_Row_howMany_9 (by decide) (nI_le (Nat.le_refl k) (by omega))) rfl ?_
    exact Go.rf
  | succ r ih =>
    intro k hk
    refine Go.trp 5 (go_iload_n d_Row_howMany_4 rfl 3 rfl) rfl ?_
    refine Go.trp 6 (go_aload_n d_Row_howMany_5 rfl 0 rfl) rfl ?_
    refine Go.trp 9 (go_get f_Row_13 d_Row_howMany_6 (h1) rfl) rfl ?_
    refine Go.trp 12 (go_icmp_ge_f 31 d_Row_howMany_9 (by decide) (nI_ge (by omega) (by omega))) rfl ?_
    refine Go.trp 13 (go_aload_n d_Row_howMany_12 rfl 0 rfl) rfl ?_
    refine Go.trp 16 (go_get f_Row_7 d_Row_howMany_13 (h1) rfl) rfl ?_
    refine Go.trp 17 (go_iload_n d_Row_howMany_16 rfl 3 rfl) rfl ?_
    refine Go.trp 18 (go_iald (j := k) d_Row_howMany_17 (h2) (rfl) (by omega) (by omega)) rfl ?_
    refine Go.trp 19 (go_iload_n d_Row_howMany_18 rfl 1 rfl) rfl ?_
    by_cases hc : f k = c
    · refine Go.trp 22 (go_icmp_ne_f 25 d_Row_howMany_19 (by decide) (hc)) rfl ?_
      refine Go.trp 25 (go_inc1 (n0 := 2) (x := (cntI f c k)) [(2, .int (nI ((cntI f c k) + 1))), (0, .ref a), (1, .int c), (3, .int (nI k))] d_Row_howMany_22 rfl (by decide) rfl) rfl ?_
      refine (go_pick [1, 2, 0, 3] [(0, .ref a), (1, .int c), (2, .int (nI ((cntI f c k) + 1))), (3, .int (nI k))] rfl).tr ?_
      refine Go.trp 28 (go_inc1 (n0 := 3) (x := k) [(3, .int (nI (k + 1))), (0, .ref a), (1, .int c), (2, .int (nI ((cntI f c k) + 1)))] d_Row_howMany_25 rfl (by decide) rfl) rfl ?_
      refine (go_pick [1, 2, 3, 0] [(0, .ref a), (1, .int c), (2, .int (nI ((cntI f c k) + 1))), (3, .int (nI (k + 1)))] rfl).tr ?_
      refine Go.trp 4 (go_goto 4 d_Row_howMany_28 (by decide)) rfl ?_
      have e1 : cntI f c (k + 1) = cntI f c k + 1 := by simp [cntI, hc]
      rw [← e1]
      exact ih (k + 1) (by omega)
    · refine Go.trp 25 (go_icmp_ne_t 25 d_Row_howMany_19 (by decide) (hc)) rfl ?_
      refine Go.trp 28 (go_inc1 (n0 := 3) (x := k) [(3, .int (nI (k + 1))), (0, .ref a), (1, .int c), (2, .int (nI (cntI f c k)))] d_Row_howMany_25 rfl (by decide) rfl) rfl ?_
      refine (go_pick [1, 2, 3, 0] [(0, .ref a), (1, .int c), (2, .int (nI (cntI f c k))), (3, .int (nI (k + 1)))] rfl).tr ?_
      refine Go.trp 4 (go_goto 4 d_Row_howMany_28 (by decide)) rfl ?_
      have e1 : cntI f c (k + 1) = cntI f c k := by simp [cntI, hc]
      rw [← e1]
      exact ih (k + 1) (by omega)
theorem e_Row_howMany (G : gG) (M : gM) (a ar n sz : Nat) (f : Nat → Int32) (c : Int32) (h1 : gRd M a = some (.inr (0, [.ref ar, .int (nI sz)]))) (h2 : gRd M ar = some (aI G n f)) (hsz : sz ≤ n) (hn : n < 2 ^ 31) : Ev G 0 m_Row_howMany [.ref a, .int c] M (some (.int (nI (cntI f c sz)))) M := by
  refine Ev.of (Nat.le_of_ble_eq_true rfl) ?_
  show EvF G 0 m_Row_howMany (0, [(0, .ref a), (1, .int c)], [], M) _ _
  refine EvF.gop 1 (go_iconst (v := nI (cntI f c 0)) d_Row_howMany_0 (rfl)) rfl ?_
  refine EvF.gop 2 (go_istore_n [(2, .int (nI (cntI f c 0))), (0, .ref a), (1, .int c)] d_Row_howMany_1 rfl (by decide) rfl) rfl ?_
  refine EvF.go (go_pick [1, 2, 0] [(0, .ref a), (1, .int c), (2, .int (nI (cntI f c 0)))] rfl) ?_
  refine EvF.gop 3 (go_iconst (v := nI 0) d_Row_howMany_2 (rfl)) rfl ?_
  refine EvF.gop 4 (go_istore_n [(3, .int (nI 0)), (0, .ref a), (1, .int c), (2, .int (nI (cntI f c 0)))] d_Row_howMany_3 rfl (by decide) rfl) rfl ?_
  refine EvF.go (go_pick [1, 2, 3, 0] [(0, .ref a), (1, .int c), (2, .int (nI (cntI f c 0))), (3, .int (nI 0))] rfl) ?_
  refine EvF.go (g_Row_howMany G M a ar n sz f c h1 h2 hsz hn sz 0 (by omega)) ?_
  refine EvF.gop 32 (go_iload_n d_Row_howMany_31 rfl 2 rfl) rfl ?_
  exact EvF.ri d_Row_howMany_32 rfl rfl rfl
theorem e_Mac_become (G : gG) (M : gM) (q : Nat) (z : Int32) (a ar n b br nb m : Nat) (x : Int32) (f g : Nat → Int32) (h0 : gRd M q = some (.inr (1, [.ref a, .int z]))) (h1 : gRd M a = some (.inr (0, [.ref ar, .int x]))) (h2 : gRd M ar = some (aI G n f)) (h3 : gRd M b = some (.inr (0, [.ref br, .int (nI m)]))) (h4 : gRd M br = some (aI G nb g)) (hab : a ≠ b) (habr : ar ≠ br) (hm : m ≤ n) (hmb : m ≤ nb) (hn : n < 2 ^ 31) (hnb : nb < 2 ^ 31) (hqa : q ≠ a) (hqb : q ≠ b) : Ev G 2 m_Mac_become [.ref q, .ref b] M none (gWr (gWr (gWr M a (.inr (0, [.ref ar, .int (nI m)]))) ar (aI G n (cpI g m f))) q (.inr (1, [.ref a, .int 1]))) := by
  refine Ev.of (Nat.le_of_ble_eq_true rfl) ?_
  show EvF G 2 m_Mac_become (0, [(0, .ref q), (1, .ref b)], [], M) _ _
  refine EvF.gop 1 (go_aload_n d_Mac_become_0 rfl 0 rfl) rfl ?_
  refine EvF.gop 4 (go_get f_Mac_14 d_Mac_become_1 (h0) rfl) rfl ?_
  refine EvF.gop 5 (go_aload_n d_Mac_become_4 rfl 1 rfl) rfl ?_
  refine EvF.gop 8 (go_callV [.ref b] [] c0_Row_become im_Row_become se_Row_become lk_Mac_24 d_Mac_become_5 rfl rfl (h1) (e_Row_become G M a ar n b br nb m x f g h1 h2 h3 h4 hab habr hm hmb hn hnb) (by decide) rfl rfl (Nat.le_of_ble_eq_true rfl) rfl) rfl ?_
  refine EvF.gop 9 (go_aload_n d_Mac_become_8 rfl 0 rfl) rfl ?_
  refine EvF.gop 10 (go_iconst (v := 1) d_Mac_become_9 (by decide)) rfl ?_
  refine EvF.gop 13 (go_put [.ref a, .int 1] f_Mac_20 ft_Mac_1 d_Mac_become_10 ((gRd_n _ _ (gNe h0 h2)).trans ((gRd_n _ _ hqa).trans (h0))) (rfl) (rfl) (Nat.le_of_ble_eq_true rfl) rfl) rfl ?_
  exact EvF.rv d_Mac_become_13 rfl rfl
