/-- Text.add with room -/
theorem e_Txt_add (G : gG) (M : gM) (t tc ts n : Nat) (c s : Nat → Int32) (x y : Int32) (h1 : gRd M t = some (.inr (3, [.ref tc, .ref ts, .int (nI n)]))) (h2 : gRd M tc = some (aI G 120 c)) (h3 : gRd M ts = some (aI G 120 s)) (hcs : tc ≠ ts) (hn : n ≤ 120) (hlt : n < 120) : Ev G 0 m_Txt_add [.ref t, .int x, .int y] M (some (.int (1))) (gWr (gWr (gWr M tc (aI G 120 (upd c n x))) ts (aI G 120 (upd s n y))) t (.inr (3, [.ref tc, .ref ts, .int (nI (n + 1))]))) := by
  refine Ev.of (Nat.le_of_ble_eq_true rfl) ?_
  show EvF G 0 m_Txt_add (0, [(0, .ref t), (1, .int x), (2, .int y)], [], M) _ _
  refine EvF.gop 1 (go_aload_n d_Txt_add_0 rfl 0 rfl) rfl ?_
  refine EvF.gop 4 (go_get f_Txt_18 d_Txt_add_1 (h1) rfl) rfl ?_
  refine EvF.gop 6 (go_bipush (v := 120) d_Txt_add_4 (by decide)) rfl ?_
  refine EvF.gop 11 (go_icmp_ne_t 11 d_Txt_add_6 (by decide) (fun q => absurd ((nI_eq (a := n) (b := 120) (by omega) (by decide)).mp q) (by omega))) rfl ?_
  refine EvF.gop 12 (go_aload_n d_Txt_add_11 rfl 0 rfl) rfl ?_
  refine EvF.gop 15 (go_get f_Txt_9 d_Txt_add_12 (h1) rfl) rfl ?_
  refine EvF.gop 16 (go_aload_n d_Txt_add_15 rfl 0 rfl) rfl ?_
  refine EvF.gop 19 (go_get f_Txt_18 d_Txt_add_16 (h1) rfl) rfl ?_
  refine EvF.gop 20 (go_iload_n d_Txt_add_19 rfl 1 rfl) rfl ?_
  refine EvF.gop 21 (go_iast (j := n) d_Txt_add_20 (h2) (rfl) (hlt) (by omega)) rfl ?_
  refine EvF.gop 22 (go_aload_n d_Txt_add_21 rfl 0 rfl) rfl ?_
  refine EvF.gop 25 (go_get f_Txt_15 d_Txt_add_22 ((gRd_n _ _ (gNe h1 h2)).trans (h1)) rfl) rfl ?_
  refine EvF.gop 26 (go_aload_n d_Txt_add_25 rfl 0 rfl) rfl ?_
  refine EvF.gop 29 (go_get f_Txt_18 d_Txt_add_26 ((gRd_n _ _ (gNe h1 h2)).trans (h1)) rfl) rfl ?_
  refine EvF.gop 30 (go_iload_n d_Txt_add_29 rfl 2 rfl) rfl ?_
  refine EvF.gop 31 (go_iast (j := n) d_Txt_add_30 ((gRd_n _ _ (Ne.symm hcs)).trans (h3)) (rfl) (hlt) (by omega)) rfl ?_
  refine EvF.gop 32 (go_aload_n d_Txt_add_31 rfl 0 rfl) rfl ?_
  refine EvF.gop 33 (go_dup d_Txt_add_32 rfl) rfl ?_
  refine EvF.gop 36 (go_get f_Txt_18 d_Txt_add_33 ((gRd_n _ _ (gNe h1 h3)).trans ((gRd_n _ _ (gNe h1 h2)).trans (h1))) rfl) rfl ?_
  refine EvF.gop 37 (go_iconst (v := 1) d_Txt_add_36 (by decide)) rfl ?_
  refine EvF.gop 38 (go_iadd d_Txt_add_37) rfl ?_
  refine EvF.go (go_v (y := nI (n + 1)) (nI_1 n)) ?_
  refine EvF.gop 41 (go_put [.ref tc, .ref ts, .int (nI (n + 1))] f_Txt_18 ft_Txt_2 d_Txt_add_38 ((gRd_n _ _ (gNe h1 h3)).trans ((gRd_n _ _ (gNe h1 h2)).trans (h1))) (rfl) (rfl) (Nat.le_of_ble_eq_true rfl) rfl) rfl ?_
  refine EvF.gop 42 (go_iconst (v := 1) d_Txt_add_41 (by decide)) rfl ?_
  exact EvF.rz d_Txt_add_42 rfl (by decide) (rfl) (rfl)
/-- Text.add without -/
theorem e_Txt_addF (G : gG) (M : gM) (t tc ts n : Nat) (c s : Nat → Int32) (x y : Int32) (h1 : gRd M t = some (.inr (3, [.ref tc, .ref ts, .int (nI n)]))) (h2 : gRd M tc = some (aI G 120 c)) (h3 : gRd M ts = some (aI G 120 s)) (hcs : tc ≠ ts) (hn : n ≤ 120) (hlt : n = 120) : Ev G 0 m_Txt_add [.ref t, .int x, .int y] M (some (.int (0))) M := by
  refine Ev.of (Nat.le_of_ble_eq_true rfl) ?_
  show EvF G 0 m_Txt_add (0, [(0, .ref t), (1, .int x), (2, .int y)], [], M) _ _
  refine EvF.gop 1 (go_aload_n d_Txt_add_0 rfl 0 rfl) rfl ?_
  refine EvF.gop 4 (go_get f_Txt_18 d_Txt_add_1 (h1) rfl) rfl ?_
  refine EvF.gop 6 (go_bipush (v := 120) d_Txt_add_4 (by decide)) rfl ?_
  refine EvF.gop 9 (go_icmp_ne_f 11 d_Txt_add_6 (by decide) (by rw [hlt]; rfl)) rfl ?_
  refine EvF.gop 10 (go_iconst (v := 0) d_Txt_add_9 (by decide)) rfl ?_
  exact EvF.rz d_Txt_add_10 rfl (by decide) (rfl) (rfl)
/-- Text.isBlank -/
theorem e_Txt_isBlank (G : gG) (M : gM) (t tc ts n : Nat) (c s : Nat → Int32) (j : Nat) (h1 : gRd M t = some (.inr (3, [.ref tc, .ref ts, .int (nI n)]))) (h2 : gRd M tc = some (aI G 120 c)) (h3 : gRd M ts = some (aI G 120 s)) (hcs : tc ≠ ts) (hn : n ≤ 120) (hj : j < 2 ^ 30) : Ev G 0 m_Txt_isBlank [.ref t, .int (nI j)] M (some (.int (bI (decide (j < n) && decide (c j = 32))))) M := by
  have q0 : ¬ nI j < 0 := nI_pos (by omega)
  refine Ev.of (Nat.le_of_ble_eq_true rfl) ?_
  show EvF G 0 m_Txt_isBlank (0, [(0, .ref t), (1, .int (nI j))], [], M) _ _
  refine EvF.gop 1 (go_iload_n d_Txt_isBlank_0 rfl 1 rfl) rfl ?_
  refine EvF.gop 4 (go_if_lt_f 27 d_Txt_isBlank_1 (by decide) (q0)) rfl ?_
  refine EvF.gop 5 (go_iload_n d_Txt_isBlank_4 rfl 1 rfl) rfl ?_
  refine EvF.gop 6 (go_aload_n d_Txt_isBlank_5 rfl 0 rfl) rfl ?_
  refine EvF.gop 9 (go_get f_Txt_18 d_Txt_isBlank_6 (h1) rfl) rfl ?_
  by_cases c1 : (nI n) ≤ (nI j)
  · have c1x : n ≤ j := (nI_leI (a := n) (b := j) (by omega) (by omega)).mp c1
    have c1y : ¬ j < n := by omega
    refine EvF.gop 27 (go_icmp_ge_t 27 d_Txt_isBlank_9 (by decide) (c1)) rfl ?_
    refine EvF.gop 28 (go_iconst (v := 0) d_Txt_isBlank_27 (by decide)) rfl ?_
    exact EvF.rz d_Txt_isBlank_28 rfl (by decide) (by simp [bI, *]) (rfl)
  · have c1x : j < n := Nat.lt_of_not_le (fun q9 => c1 ((nI_leI (a := n) (b := j) (by omega) (by omega)).mpr q9))
    have c1y : ¬ n ≤ j := by omega
    refine EvF.gop 12 (go_icmp_ge_f 27 d_Txt_isBlank_9 (by decide) (c1)) rfl ?_
    refine EvF.gop 13 (go_aload_n d_Txt_isBlank_12 rfl 0 rfl) rfl ?_
    refine EvF.gop 16 (go_get f_Txt_9 d_Txt_isBlank_13 (h1) rfl) rfl ?_
    refine EvF.gop 17 (go_iload_n d_Txt_isBlank_16 rfl 1 rfl) rfl ?_
    refine EvF.gop 18 (go_iald (j := j) d_Txt_isBlank_17 (h2) (rfl) (by omega) (by omega)) rfl ?_
    refine EvF.gop 20 (go_bipush (v := 32) d_Txt_isBlank_18 (by decide)) rfl ?_
    by_cases c2 : (c j) = 32
    · refine EvF.gop 23 (go_icmp_ne_f 27 d_Txt_isBlank_20 (by decide) (c2)) rfl ?_
      refine EvF.gop 24 (go_iconst (v := 1) d_Txt_isBlank_23 (by decide)) rfl ?_
      refine EvF.gop 28 (go_goto 28 d_Txt_isBlank_24 (by decide)) rfl ?_
      exact EvF.rz d_Txt_isBlank_28 rfl (by decide) (by simp [bI, *]) (rfl)
    · refine EvF.gop 27 (go_icmp_ne_t 27 d_Txt_isBlank_20 (by decide) (c2)) rfl ?_
      refine EvF.gop 28 (go_iconst (v := 0) d_Txt_isBlank_27 (by decide)) rfl ?_
      exact EvF.rz d_Txt_isBlank_28 rfl (by decide) (by simp [bI, *]) (rfl)
/-- Text.isLetterAt -/
theorem e_Txt_isLetterAt (G : gG) (M : gM) (t tc ts n : Nat) (c s : Nat → Int32) (j : Nat) (h1 : gRd M t = some (.inr (3, [.ref tc, .ref ts, .int (nI n)]))) (h2 : gRd M tc = some (aI G 120 c)) (h3 : gRd M ts = some (aI G 120 s)) (hcs : tc ≠ ts) (hn : n ≤ 120) (hj : j < 2 ^ 30) : Ev G 1 m_Txt_isLetterAt [.ref t, .int (nI j)] M (some (.int (bI (decide (j < n) && cLet (c j))))) M := by
  have q0 : ¬ nI j < 0 := nI_pos (by omega)
  refine Ev.of (Nat.le_of_ble_eq_true rfl) ?_
  show EvF G 1 m_Txt_isLetterAt (0, [(0, .ref t), (1, .int (nI j))], [], M) _ _
  refine EvF.gop 1 (go_iload_n d_Txt_isLetterAt_0 rfl 1 rfl) rfl ?_
  refine EvF.gop 4 (go_if_lt_f 28 d_Txt_isLetterAt_1 (by decide) (q0)) rfl ?_
  refine EvF.gop 5 (go_iload_n d_Txt_isLetterAt_4 rfl 1 rfl) rfl ?_
  refine EvF.gop 6 (go_aload_n d_Txt_isLetterAt_5 rfl 0 rfl) rfl ?_
  refine EvF.gop 9 (go_get f_Txt_18 d_Txt_isLetterAt_6 (h1) rfl) rfl ?_
  by_cases c1 : (nI n) ≤ (nI j)
  · have c1x : n ≤ j := (nI_leI (a := n) (b := j) (by omega) (by omega)).mp c1
    have c1y : ¬ j < n := by omega
    refine EvF.gop 28 (go_icmp_ge_t 28 d_Txt_isLetterAt_9 (by decide) (c1)) rfl ?_
    refine EvF.gop 29 (go_iconst (v := 0) d_Txt_isLetterAt_28 (by decide)) rfl ?_
    exact EvF.rz d_Txt_isLetterAt_29 rfl (by decide) (by simp [bI, *]) (rfl)
  · have c1x : j < n := Nat.lt_of_not_le (fun q9 => c1 ((nI_leI (a := n) (b := j) (by omega) (by omega)).mpr q9))
    have c1y : ¬ n ≤ j := by omega
    refine EvF.gop 12 (go_icmp_ge_f 28 d_Txt_isLetterAt_9 (by decide) (c1)) rfl ?_
    refine EvF.gop 13 (go_aload_n d_Txt_isLetterAt_12 rfl 0 rfl) rfl ?_
    refine EvF.gop 16 (go_get f_Txt_9 d_Txt_isLetterAt_13 (h1) rfl) rfl ?_
    refine EvF.gop 17 (go_iload_n d_Txt_isLetterAt_16 rfl 1 rfl) rfl ?_
    refine EvF.gop 18 (go_iald (j := j) d_Txt_isLetterAt_17 (h2) (rfl) (by omega) (by omega)) rfl ?_
    refine EvF.gop 21 (go_callS [.int (c j)] [.int (bI (cLet (c j)))] c0_PS_isLetter sm_PS_isLetter lk_Txt_22 d_Txt_isLetterAt_18 (e_PS_isLetter G M (c j)) (by decide) rfl rfl (Nat.le_of_ble_eq_true rfl) rfl) rfl ?_
    by_cases c2 : (bI (cLet (c j))) = 0
    · have c2x : (cLet (c j)) = false := bI_0.mp c2
      refine EvF.gop 28 (go_if_eq_t 28 d_Txt_isLetterAt_21 (by decide) (c2)) rfl ?_
      refine EvF.gop 29 (go_iconst (v := 0) d_Txt_isLetterAt_28 (by decide)) rfl ?_
      exact EvF.rz d_Txt_isLetterAt_29 rfl (by decide) (by simp [bI, *]) (rfl)
    · have c2x : (cLet (c j)) = true := bI_n0.mp c2
      refine EvF.gop 24 (go_if_eq_f 28 d_Txt_isLetterAt_21 (by decide) (c2)) rfl ?_
      refine EvF.gop 25 (go_iconst (v := 1) d_Txt_isLetterAt_24 (by decide)) rfl ?_
      refine EvF.gop 29 (go_goto 29 d_Txt_isLetterAt_25 (by decide)) rfl ?_
      exact EvF.rz d_Txt_isLetterAt_29 rfl (by decide) (by simp [bI, *]) (rfl)
/-- Text.move -/
theorem e_Txt_move (G : gG) (M : gM) (t tc ts n : Nat) (c s : Nat → Int32) (i j : Nat) (h1 : gRd M t = some (.inr (3, [.ref tc, .ref ts, .int (nI n)]))) (h2 : gRd M tc = some (aI G 120 c)) (h3 : gRd M ts = some (aI G 120 s)) (hcs : tc ≠ ts) (hn : n ≤ 120) (hi : i < 120) (hj : j < 120) : Ev G 0 m_Txt_move [.ref t, .int (nI i), .int (nI j)] M none (gWr (gWr M tc (aI G 120 (upd c j (c i)))) ts (aI G 120 (upd s j (s i)))) := by
  refine Ev.of (Nat.le_of_ble_eq_true rfl) ?_
  show EvF G 0 m_Txt_move (0, [(0, .ref t), (1, .int (nI i)), (2, .int (nI j))], [], M) _ _
  refine EvF.gop 1 (go_aload_n d_Txt_move_0 rfl 0 rfl) rfl ?_
  refine EvF.gop 4 (go_get f_Txt_9 d_Txt_move_1 (h1) rfl) rfl ?_
  refine EvF.gop 5 (go_iload_n d_Txt_move_4 rfl 2 rfl) rfl ?_
  refine EvF.gop 6 (go_aload_n d_Txt_move_5 rfl 0 rfl) rfl ?_
  refine EvF.gop 9 (go_get f_Txt_9 d_Txt_move_6 (h1) rfl) rfl ?_
  refine EvF.gop 10 (go_iload_n d_Txt_move_9 rfl 1 rfl) rfl ?_
  refine EvF.gop 11 (go_iald (j := i) d_Txt_move_10 (h2) (rfl) (by omega) (by omega)) rfl ?_
  refine EvF.gop 12 (go_iast (j := j) d_Txt_move_11 (h2) (rfl) (by omega) (by omega)) rfl ?_
  refine EvF.gop 13 (go_aload_n d_Txt_move_12 rfl 0 rfl) rfl ?_
  refine EvF.gop 16 (go_get f_Txt_15 d_Txt_move_13 ((gRd_n _ _ (gNe h1 h2)).trans (h1)) rfl) rfl ?_
  refine EvF.gop 17 (go_iload_n d_Txt_move_16 rfl 2 rfl) rfl ?_
  refine EvF.gop 18 (go_aload_n d_Txt_move_17 rfl 0 rfl) rfl ?_
  refine EvF.gop 21 (go_get f_Txt_15 d_Txt_move_18 ((gRd_n _ _ (gNe h1 h2)).trans (h1)) rfl) rfl ?_
  refine EvF.gop 22 (go_iload_n d_Txt_move_21 rfl 1 rfl) rfl ?_
  refine EvF.gop 23 (go_iald (j := i) d_Txt_move_22 ((gRd_n _ _ (Ne.symm hcs)).trans (h3)) (rfl) (by omega) (by omega)) rfl ?_
  refine EvF.gop 24 (go_iast (j := j) d_Txt_move_23 ((gRd_n _ _ (Ne.symm hcs)).trans (h3)) (rfl) (by omega) (by omega)) rfl ?_
  exact EvF.rv d_Txt_move_24 rfl (rfl)
def dGo (g : (Nat → Int32) → Nat → Nat → Bool) (c s : Nat → Int32) : Nat → Nat × (Nat → Int32) × (Nat → Int32)
  | 0 => (0, c, s)
  | k + 1 => if g (dGo g c s k).2.1 (dGo g c s k).1 k = true then dGo g c s k else ((dGo g c s k).1 + 1, upd (dGo g c s k).2.1 (dGo g c s k).1 ((dGo g c s k).2.1 k), upd (dGo g c s k).2.2 (dGo g c s k).1 ((dGo g c s k).2.2 k))
theorem dGo_t {g : (Nat → Int32) → Nat → Nat → Bool} {c s : Nat → Int32} {k : Nat} (h : g (dGo g c s k).2.1 (dGo g c s k).1 k = true) : dGo g c s (k + 1) = dGo g c s k := if_pos h
theorem dGo_f {g : (Nat → Int32) → Nat → Nat → Bool} {c s : Nat → Int32} {k : Nat} (h : g (dGo g c s k).2.1 (dGo g c s k).1 k = false) : dGo g c s (k + 1) = ((dGo g c s k).1 + 1, upd (dGo g c s k).2.1 (dGo g c s k).1 ((dGo g c s k).2.1 k), upd (dGo g c s k).2.2 (dGo g c s k).1 ((dGo g c s k).2.2 k)) := if_neg (by rw [h]; decide)
theorem dGo_le (g : (Nat → Int32) → Nat → Nat → Bool) (c s : Nat → Int32) : ∀ k, (dGo g c s k).1 ≤ k
  | 0 => Nat.le_refl 0
  | k + 1 => by
    have h := dGo_le g c s k
    by_cases hg : g (dGo g c s k).2.1 (dGo g c s k).1 k = true
    · rw [dGo_t hg]; omega
    · rw [dGo_f (Bool.not_eq_true _ ▸ hg)]; show _ + 1 ≤ k + 1; omega
def gBb (c : Nat → Int32) (q k : Nat) : Bool := decide (c k = 32) && (decide (q = 0) || (decide (c (q - 1) = 32) || decide (c (q - 1) = 124)))
def gBf (n : Nat) (c : Nat → Int32) (_ k : Nat) : Bool := decide (c k = 32) && (decide (k + 1 = n) || decide (c (k + 1) = 124))
def gBr (c : Nat → Int32) (q k : Nat) : Bool := decide (c k = 124) && (decide (q = 0) || decide (c (q - 1) = 124))
theorem g_Txt_dropBlanksBehind (G : gG) (M : gM) (t tc ts n : Nat) (c s : Nat → Int32) (h1 : gRd M t = some (.inr (3, [.ref tc, .ref ts, .int (nI n)]))) (h2 : gRd M tc = some (aI G 120 c)) (h3 : gRd M ts = some (aI G 120 s)) (hcs : tc ≠ ts) (hn : n ≤ 120) : ∀ r k : Nat, k + r = n → Go G m_Txt_dropBlanksBehind 1 (4, [(0, .ref t), (1, .int (nI (dGo gBb c s k).1)), (2, .int (nI k))], [], (gWr (gWr M tc (aI G 120 ((dGo gBb c s k).2.1))) ts (aI G 120 ((dGo gBb c s k).2.2)))) (78, [(0, .ref t), (1, .int (nI (dGo gBb c s n).1)), (2, .int (nI n))], [], (gWr (gWr M tc (aI G 120 ((dGo gBb c s n).2.1))) ts (aI G 120 ((dGo gBb c s n).2.2)))) := by
  intro r
  induction r with
  | zero =>
    intro k hk
    rw [show k = n from by omega]
    refine Go.trp 5 (go_iload_n d_Txt_dropBlanksBehind_4 rfl 2 rfl) rfl ?_
    refine Go.trp 6 (go_aload_n d_Txt_dropBlanksBehind_5 rfl 0 rfl) rfl ?_
    refine Go.trp 9 (go_get f_Txt_18 d_Txt_dropBlanksBehind_6 ((gRd_n _ _ (gNe h1 h3)).trans ((gRd_n _ _ (gNe h1 h2)).trans (h1))) rfl) rfl ?_
    refine Go.trp 78 (go_icmp_ge_t 78 d_Txt_dropBlanksBehind_9 (by decide) (nI_le (Nat.le_refl n) (by omega))) rfl ?_
    exact Go.rf
  | succ r ih =>
    intro k hk
    have hq := dGo_le gBb c s k
    refine Go.trp 5 (go_iload_n d_Txt_dropBlanksBehind_4 rfl 2 rfl) rfl ?_
    refine Go.trp 6 (go_aload_n d_Txt_dropBlanksBehind_5 rfl 0 rfl) rfl ?_
    refine Go.trp 9 (go_get f_Txt_18 d_Txt_dropBlanksBehind_6 ((gRd_n _ _ (gNe h1 h3)).trans ((gRd_n _ _ (gNe h1 h2)).trans (h1))) rfl) rfl ?_
    refine Go.trp 12 (go_icmp_ge_f 78 d_Txt_dropBlanksBehind_9 (by decide) (nI_ge (by omega) (by omega))) rfl ?_
    refine Go.trp 13 (go_aload_n d_Txt_dropBlanksBehind_12 rfl 0 rfl) rfl ?_
    refine Go.trp 16 (go_get f_Txt_9 d_Txt_dropBlanksBehind_13 ((gRd_n _ _ (gNe h1 h3)).trans ((gRd_n _ _ (gNe h1 h2)).trans (h1))) rfl) rfl ?_
    refine Go.trp 17 (go_iload_n d_Txt_dropBlanksBehind_16 rfl 2 rfl) rfl ?_
    refine Go.trp 18 (go_iald (j := k) d_Txt_dropBlanksBehind_17 ((gRd_n _ _ hcs).trans (gRd_s _ _ _)) (rfl) (by omega) (by omega)) rfl ?_
    refine Go.trp 20 (go_bipush (v := 32) d_Txt_dropBlanksBehind_18 (by decide)) rfl ?_
    by_cases c1 : (((dGo gBb c s k).2.1) k) = 32
    · refine Go.trp 23 (go_icmp_ne_f 57 d_Txt_dropBlanksBehind_20 (by decide) (c1)) rfl ?_
      refine Go.trp 24 (go_iload_n d_Txt_dropBlanksBehind_23 rfl 1 rfl) rfl ?_
      by_cases c2 : (nI (dGo gBb c s k).1) = 0
      · have c2x : (dGo gBb c s k).1 = 0 := (nI_eq (a := (dGo gBb c s k).1) (b := 0) (by omega) (by decide)).mp c2
        refine Go.trp 53 (go_if_eq_t 53 d_Txt_dropBlanksBehind_24 (by decide) (c2)) rfl ?_
        refine Go.trp 54 (go_iconst (v := 1) d_Txt_dropBlanksBehind_53 (by decide)) rfl ?_
        refine Go.trp 58 (go_goto 58 d_Txt_dropBlanksBehind_54 (by decide)) rfl ?_
        refine Go.trp 59 (go_istore_n [(3, .int 1), (0, .ref t), (1, .int (nI (dGo gBb c s k).1)), (2, .int (nI k))] d_Txt_dropBlanksBehind_58 rfl (by decide) rfl) rfl ?_
        refine (go_pick [1, 2, 3, 0] [(0, .ref t), (1, .int (nI (dGo gBb c s k).1)), (2, .int (nI k)), (3, .int 1)] rfl).tr ?_
        refine Go.trp 60 (go_iload_n d_Txt_dropBlanksBehind_59 rfl 3 rfl) rfl ?_
        refine Go.trp 72 (go_if_ne_t 72 d_Txt_dropBlanksBehind_60 (by decide) (by decide)) rfl ?_
        refine Go.trp 75 (go_inc1 (n0 := 2) (x := k) [(2, .int (nI (k + 1))), (0, .ref t), (1, .int (nI (dGo gBb c s k).1)), (3, .int 1)] d_Txt_dropBlanksBehind_72 rfl (by decide) rfl) rfl ?_
        refine (go_pick [1, 2, 0, 3] [(0, .ref t), (1, .int (nI (dGo gBb c s k).1)), (2, .int (nI (k + 1))), (3, .int 1)] rfl).tr ?_
        refine Go.trp 4 (go_goto 4 d_Txt_dropBlanksBehind_75 (by decide)) rfl ?_
        refine (go_pick [0, 1, 2] [(0, .ref t), (1, .int (nI (dGo gBb c s k).1)), (2, .int (nI (k + 1)))] rfl).tr ?_
        have hg : gBb (dGo gBb c s k).2.1 (dGo gBb c s k).1 k = true := by simp [gBb, *]
        have h9 := ih (k + 1) (by omega)
        rw [dGo_t hg] at h9
        exact h9
      · have c2x : ¬ (dGo gBb c s k).1 = 0 := fun q9 => c2 ((nI_eq (a := (dGo gBb c s k).1) (b := 0) (by omega) (by decide)).mpr q9)
        refine Go.trp 27 (go_if_eq_f 53 d_Txt_dropBlanksBehind_24 (by decide) (c2)) rfl ?_
        refine Go.trp 28 (go_aload_n d_Txt_dropBlanksBehind_27 rfl 0 rfl) rfl ?_
        refine Go.trp 31 (go_get f_Txt_9 d_Txt_dropBlanksBehind_28 ((gRd_n _ _ (gNe h1 h3)).trans ((gRd_n _ _ (gNe h1 h2)).trans (h1))) rfl) rfl ?_
        refine Go.trp 32 (go_iload_n d_Txt_dropBlanksBehind_31 rfl 1 rfl) rfl ?_
        refine Go.trp 33 (go_iconst (v := 1) d_Txt_dropBlanksBehind_32 (by decide)) rfl ?_
        refine Go.trp 34 (go_isub d_Txt_dropBlanksBehind_33) rfl ?_
        refine (go_v (y := nI ((dGo gBb c s k).1 - 1)) (by rw [← pk_sub (by omega)]; rfl)).tr ?_
        refine Go.trp 35 (go_iald (j := ((dGo gBb c s k).1 - 1)) d_Txt_dropBlanksBehind_34 ((gRd_n _ _ hcs).trans (gRd_s _ _ _)) (rfl) (by omega) (by omega)) rfl ?_
        refine Go.trp 37 (go_bipush (v := 32) d_Txt_dropBlanksBehind_35 (by decide)) rfl ?_
        by_cases c3 : (((dGo gBb c s k).2.1) ((dGo gBb c s k).1 - 1)) = 32
        · refine Go.trp 53 (go_icmp_eq_t 53 d_Txt_dropBlanksBehind_37 (by decide) (c3)) rfl ?_
          refine Go.trp 54 (go_iconst (v := 1) d_Txt_dropBlanksBehind_53 (by decide)) rfl ?_
          refine Go.trp 58 (go_goto 58 d_Txt_dropBlanksBehind_54 (by decide)) rfl ?_
          refine Go.trp 59 (go_istore_n [(3, .int 1), (0, .ref t), (1, .int (nI (dGo gBb c s k).1)), (2, .int (nI k))] d_Txt_dropBlanksBehind_58 rfl (by decide) rfl) rfl ?_
          refine (go_pick [1, 2, 3, 0] [(0, .ref t), (1, .int (nI (dGo gBb c s k).1)), (2, .int (nI k)), (3, .int 1)] rfl).tr ?_
          refine Go.trp 60 (go_iload_n d_Txt_dropBlanksBehind_59 rfl 3 rfl) rfl ?_
          refine Go.trp 72 (go_if_ne_t 72 d_Txt_dropBlanksBehind_60 (by decide) (by decide)) rfl ?_
          refine Go.trp 75 (go_inc1 (n0 := 2) (x := k) [(2, .int (nI (k + 1))), (0, .ref t), (1, .int (nI (dGo gBb c s k).1)), (3, .int 1)] d_Txt_dropBlanksBehind_72 rfl (by decide) rfl) rfl ?_
          refine (go_pick [1, 2, 0, 3] [(0, .ref t), (1, .int (nI (dGo gBb c s k).1)), (2, .int (nI (k + 1))), (3, .int 1)] rfl).tr ?_
          refine Go.trp 4 (go_goto 4 d_Txt_dropBlanksBehind_75 (by decide)) rfl ?_
          refine (go_pick [0, 1, 2] [(0, .ref t), (1, .int (nI (dGo gBb c s k).1)), (2, .int (nI (k + 1)))] rfl).tr ?_
          have hg : gBb (dGo gBb c s k).2.1 (dGo gBb c s k).1 k = true := by simp [gBb, *]
          have h9 := ih (k + 1) (by omega)
          rw [dGo_t hg] at h9
          exact h9
        · refine Go.trp 40 (go_icmp_eq_f 53 d_Txt_dropBlanksBehind_37 (by decide) (c3)) rfl ?_
          refine Go.trp 41 (go_aload_n d_Txt_dropBlanksBehind_40 rfl 0 rfl) rfl ?_
          refine Go.trp 44 (go_get f_Txt_9 d_Txt_dropBlanksBehind_41 ((gRd_n _ _ (gNe h1 h3)).trans ((gRd_n _ _ (gNe h1 h2)).trans (h1))) rfl) rfl ?_
          refine Go.trp 45 (go_iload_n d_Txt_dropBlanksBehind_44 rfl 1 rfl) rfl ?_
          refine Go.trp 46 (go_iconst (v := 1) d_Txt_dropBlanksBehind_45 (by decide)) rfl ?_
          refine Go.trp 47 (go_isub d_Txt_dropBlanksBehind_46) rfl ?_
          refine (go_v (y := nI ((dGo gBb c s k).1 - 1)) (by rw [← pk_sub (by omega)]; rfl)).tr ?_
          refine Go.trp 48 (go_iald (j := ((dGo gBb c s k).1 - 1)) d_Txt_dropBlanksBehind_47 ((gRd_n _ _ hcs).trans (gRd_s _ _ _)) (rfl) (by omega) (by omega)) rfl ?_
          refine Go.trp 50 (go_bipush (v := 124) d_Txt_dropBlanksBehind_48 (by decide)) rfl ?_
          by_cases c4 : (((dGo gBb c s k).2.1) ((dGo gBb c s k).1 - 1)) = 124
          · refine Go.trp 53 (go_icmp_ne_f 57 d_Txt_dropBlanksBehind_50 (by decide) (c4)) rfl ?_
            refine Go.trp 54 (go_iconst (v := 1) d_Txt_dropBlanksBehind_53 (by decide)) rfl ?_
            refine Go.trp 58 (go_goto 58 d_Txt_dropBlanksBehind_54 (by decide)) rfl ?_
            refine Go.trp 59 (go_istore_n [(3, .int 1), (0, .ref t), (1, .int (nI (dGo gBb c s k).1)), (2, .int (nI k))] d_Txt_dropBlanksBehind_58 rfl (by decide) rfl) rfl ?_
            refine (go_pick [1, 2, 3, 0] [(0, .ref t), (1, .int (nI (dGo gBb c s k).1)), (2, .int (nI k)), (3, .int 1)] rfl).tr ?_
            refine Go.trp 60 (go_iload_n d_Txt_dropBlanksBehind_59 rfl 3 rfl) rfl ?_
            refine Go.trp 72 (go_if_ne_t 72 d_Txt_dropBlanksBehind_60 (by decide) (by decide)) rfl ?_
            refine Go.trp 75 (go_inc1 (n0 := 2) (x := k) [(2, .int (nI (k + 1))), (0, .ref t), (1, .int (nI (dGo gBb c s k).1)), (3, .int 1)] d_Txt_dropBlanksBehind_72 rfl (by decide) rfl) rfl ?_
            refine (go_pick [1, 2, 0, 3] [(0, .ref t), (1, .int (nI (dGo gBb c s k).1)), (2, .int (nI (k + 1))), (3, .int 1)] rfl).tr ?_
            refine Go.trp 4 (go_goto 4 d_Txt_dropBlanksBehind_75 (by decide)) rfl ?_
            refine (go_pick [0, 1, 2] [(0, .ref t), (1, .int (nI (dGo gBb c s k).1)), (2, .int (nI (k + 1)))] rfl).tr ?_
            have hg : gBb (dGo gBb c s k).2.1 (dGo gBb c s k).1 k = true := by simp [gBb, *]
            have h9 := ih (k + 1) (by omega)
            rw [dGo_t hg] at h9
            exact h9
          · refine Go.trp 57 (go_icmp_ne_t 57 d_Txt_dropBlanksBehind_50 (by decide) (c4)) rfl ?_
            refine Go.trp 58 (go_iconst (v := 0) d_Txt_dropBlanksBehind_57 (by decide)) rfl ?_
            refine Go.trp 59 (go_istore_n [(3, .int 0), (0, .ref t), (1, .int (nI (dGo gBb c s k).1)), (2, .int (nI k))] d_Txt_dropBlanksBehind_58 rfl (by decide) rfl) rfl ?_
            refine (go_pick [1, 2, 3, 0] [(0, .ref t), (1, .int (nI (dGo gBb c s k).1)), (2, .int (nI k)), (3, .int 0)] rfl).tr ?_
            refine Go.trp 60 (go_iload_n d_Txt_dropBlanksBehind_59 rfl 3 rfl) rfl ?_
            refine Go.trp 63 (go_if_ne_f 72 d_Txt_dropBlanksBehind_60 (by decide) (by decide)) rfl ?_
            refine Go.trp 64 (go_aload_n d_Txt_dropBlanksBehind_63 rfl 0 rfl) rfl ?_
            refine Go.trp 65 (go_iload_n d_Txt_dropBlanksBehind_64 rfl 2 rfl) rfl ?_
            refine Go.trp 66 (go_iload_n d_Txt_dropBlanksBehind_65 rfl 1 rfl) rfl ?_
            refine Go.trp 69 (go_callV [.int (nI k), .int (nI (dGo gBb c s k).1)] [] c0_Txt_move im_Txt_move se_Txt_move lk_Txt_35 d_Txt_dropBlanksBehind_66 rfl rfl ((gRd_n _ _ (gNe h1 h3)).trans ((gRd_n _ _ (gNe h1 h2)).trans (h1))) (e_Txt_move G _ t tc ts n (dGo gBb c s k).2.1 (dGo gBb c s k).2.2 k (dGo gBb c s k).1 ((gRd_n _ _ (gNe h1 h3)).trans ((gRd_n _ _ (gNe h1 h2)).trans (h1))) ((gRd_n _ _ hcs).trans (gRd_s _ _ _)) (gRd_s _ _ _) hcs hn (by omega) (by omega)) (by decide) rfl rfl (Nat.le_of_ble_eq_true rfl) rfl) rfl ?_
            refine (go_m (M' := (gWr (gWr M tc (aI G 120 (upd (dGo gBb c s k).2.1 (dGo gBb c s k).1 ((dGo gBb c s k).2.1 k)))) ts (aI G 120 (upd (dGo gBb c s k).2.2 (dGo gBb c s k).1 ((dGo gBb c s k).2.2 k))))) ((congrArg (fun m => gWr m ts (aI G 120 (upd (dGo gBb c s k).2.2 (dGo gBb c s k).1 ((dGo gBb c s k).2.2 k)))) ((gWr_cm (gWr M tc (aI G 120 ((dGo gBb c s k).2.1))) (aI G 120 ((dGo gBb c s k).2.2)) (aI G 120 (upd (dGo gBb c s k).2.1 (dGo gBb c s k).1 ((dGo gBb c s k).2.1 k))) (Ne.symm hcs)).trans (congrArg (fun m => gWr m ts (aI G 120 ((dGo gBb c s k).2.2))) (gWr_wr M tc (aI G 120 ((dGo gBb c s k).2.1)) (aI G 120 (upd (dGo gBb c s k).2.1 (dGo gBb c s k).1 ((dGo gBb c s k).2.1 k))))))).trans (gWr_wr (gWr M tc (aI G 120 (upd (dGo gBb c s k).2.1 (dGo gBb c s k).1 ((dGo gBb c s k).2.1 k)))) ts (aI G 120 ((dGo gBb c s k).2.2)) (aI G 120 (upd (dGo gBb c s k).2.2 (dGo gBb c s k).1 ((dGo gBb c s k).2.2 k)))))).tr ?_
            refine Go.trp 72 (go_inc1 (n0 := 1) (x := (dGo gBb c s k).1) [(1, .int (nI ((dGo gBb c s k).1 + 1))), (0, .ref t), (2, .int (nI k)), (3, .int 0)] d_Txt_dropBlanksBehind_69 rfl (by decide) rfl) rfl ?_
            refine (go_pick [1, 0, 2, 3] [(0, .ref t), (1, .int (nI ((dGo gBb c s k).1 + 1))), (2, .int (nI k)), (3, .int 0)] rfl).tr ?_
            refine Go.trp 75 (go_inc1 (n0 := 2) (x := k) [(2, .int (nI (k + 1))), (0, .ref t), (1, .int (nI ((dGo gBb c s k).1 + 1))), (3, .int 0)] d_Txt_dropBlanksBehind_72 rfl (by decide) rfl) rfl ?_
            refine (go_pick [1, 2, 0, 3] [(0, .ref t), (1, .int (nI ((dGo gBb c s k).1 + 1))), (2, .int (nI (k + 1))), (3, .int 0)] rfl).tr ?_
            refine Go.trp 4 (go_goto 4 d_Txt_dropBlanksBehind_75 (by decide)) rfl ?_
            refine (go_pick [0, 1, 2] [(0, .ref t), (1, .int (nI ((dGo gBb c s k).1 + 1))), (2, .int (nI (k + 1)))] rfl).tr ?_
            have hg : gBb (dGo gBb c s k).2.1 (dGo gBb c s k).1 k = false := by simp [gBb, *]
            have h9 := ih (k + 1) (by omega)
            rw [dGo_f hg] at h9
            exact h9
    · refine Go.trp 57 (go_icmp_ne_t 57 d_Txt_dropBlanksBehind_20 (by decide) (c1)) rfl ?_
      refine Go.trp 58 (go_iconst (v := 0) d_Txt_dropBlanksBehind_57 (by decide)) rfl ?_
      refine Go.trp 59 (go_istore_n [(3, .int 0), (0, .ref t), (1, .int (nI (dGo gBb c s k).1)), (2, .int (nI k))] d_Txt_dropBlanksBehind_58 rfl (by decide) rfl) rfl ?_
      refine (go_pick [1, 2, 3, 0] [(0, .ref t), (1, .int (nI (dGo gBb c s k).1)), (2, .int (nI k)), (3, .int 0)] rfl).tr ?_
      refine Go.trp 60 (go_iload_n d_Txt_dropBlanksBehind_59 rfl 3 rfl) rfl ?_
      refine Go.trp 63 (go_if_ne_f 72 d_Txt_dropBlanksBehind_60 (by decide) (by decide)) rfl ?_
      refine Go.trp 64 (go_aload_n d_Txt_dropBlanksBehind_63 rfl 0 rfl) rfl ?_
      refine Go.trp 65 (go_iload_n d_Txt_dropBlanksBehind_64 rfl 2 rfl) rfl ?_
      refine Go.trp 66 (go_iload_n d_Txt_dropBlanksBehind_65 rfl 1 rfl) rfl ?_
      refine Go.trp 69 (go_callV [.int (nI k), .int (nI (dGo gBb c s k).1)] [] c0_Txt_move im_Txt_move se_Txt_move lk_Txt_35 d_Txt_dropBlanksBehind_66 rfl rfl ((gRd_n _ _ (gNe h1 h3)).trans ((gRd_n _ _ (gNe h1 h2)).trans (h1))) (e_Txt_move G _ t tc ts n (dGo gBb c s k).2.1 (dGo gBb c s k).2.2 k (dGo gBb c s k).1 ((gRd_n _ _ (gNe h1 h3)).trans ((gRd_n _ _ (gNe h1 h2)).trans (h1))) ((gRd_n _ _ hcs).trans (gRd_s _ _ _)) (gRd_s _ _ _) hcs hn (by omega) (by omega)) (by decide) rfl rfl (Nat.le_of_ble_eq_true rfl) rfl) rfl ?_
      refine (go_m (M' := (gWr (gWr M tc (aI G 120 (upd (dGo gBb c s k).2.1 (dGo gBb c s k).1 ((dGo gBb c s k).2.1 k)))) ts (aI G 120 (upd (dGo gBb c s k).2.2 (dGo gBb c s k).1 ((dGo gBb c s k).2.2 k))))) ((congrArg (fun m => gWr m ts (aI G 120 (upd (dGo gBb c s k).2.2 (dGo gBb c s k).1 ((dGo gBb c s k).2.2 k)))) ((gWr_cm (gWr M tc (aI G 120 ((dGo gBb c s k).2.1))) (aI G 120 ((dGo gBb c s k).2.2)) (aI G 120 (upd (dGo gBb c s k).2.1 (dGo gBb c s k).1 ((dGo gBb c s k).2.1 k))) (Ne.symm hcs)).trans (congrArg (fun m => gWr m ts (aI G 120 ((dGo gBb c s k).2.2))) (gWr_wr M tc (aI G 120 ((dGo gBb c s k).2.1)) (aI G 120 (upd (dGo gBb c s k).2.1 (dGo gBb c s k).1 ((dGo gBb c s k).2.1 k))))))).trans (gWr_wr (gWr M tc (aI G 120 (upd (dGo gBb c s k).2.1 (dGo gBb c s k).1 ((dGo gBb c s k).2.1 k)))) ts (aI G 120 ((dGo gBb c s k).2.2)) (aI G 120 (upd (dGo gBb c s k).2.2 (dGo gBb c s k).1 ((dGo gBb c s k).2.2 k)))))).tr ?_
      refine Go.trp 72 (go_inc1 (n0 := 1) (x := (dGo gBb c s k).1) [(1, .int (nI ((dGo gBb c s k).1 + 1))), (0, .ref t), (2, .int (nI k)), (3, .int 0)] d_Txt_dropBlanksBehind_69 rfl (by decide) rfl) rfl ?_
      refine (go_pick [1, 0, 2, 3] [(0, .ref t), (1, .int (nI ((dGo gBb c s k).1 + 1))), (2, .int (nI k)), (3, .int 0)] rfl).tr ?_
      refine Go.trp 75 (go_inc1 (n0 := 2) (x := k) [(2, .int (nI (k + 1))), (0, .ref t), (1, .int (nI ((dGo gBb c s k).1 + 1))), (3, .int 0)] d_Txt_dropBlanksBehind_72 rfl (by decide) rfl) rfl ?_
      refine (go_pick [1, 2, 0, 3] [(0, .ref t), (1, .int (nI ((dGo gBb c s k).1 + 1))), (2, .int (nI (k + 1))), (3, .int 0)] rfl).tr ?_
      refine Go.trp 4 (go_goto 4 d_Txt_dropBlanksBehind_75 (by decide)) rfl ?_
      refine (go_pick [0, 1, 2] [(0, .ref t), (1, .int (nI ((dGo gBb c s k).1 + 1))), (2, .int (nI (k + 1)))] rfl).tr ?_
      have hg : gBb (dGo gBb c s k).2.1 (dGo gBb c s k).1 k = false := by simp [gBb, *]
      have h9 := ih (k + 1) (by omega)
      rw [dGo_f hg] at h9
      exact h9
theorem e_Txt_dropBlanksBehind (G : gG) (M : gM) (t tc ts n : Nat) (c s : Nat → Int32) (h1 : gRd M t = some (.inr (3, [.ref tc, .ref ts, .int (nI n)]))) (h2 : gRd M tc = some (aI G 120 c)) (h3 : gRd M ts = some (aI G 120 s)) (hcs : tc ≠ ts) (hn : n ≤ 120) : Ev G 2 m_Txt_dropBlanksBehind [.ref t] M none (gWr (gWr (gWr M tc (aI G 120 (dGo gBb c s n).2.1)) ts (aI G 120 (dGo gBb c s n).2.2)) t (.inr (3, [.ref tc, .ref ts, .int (nI (dGo gBb c s n).1)]))) := by
  refine Ev.of (Nat.le_of_ble_eq_true rfl) ?_
  show EvF G 2 m_Txt_dropBlanksBehind (0, [(0, .ref t)], [], M) _ _
  refine EvF.gop 1 (go_iconst (v := nI 0) d_Txt_dropBlanksBehind_0 (rfl)) rfl ?_
  refine EvF.gop 2 (go_istore_n [(1, .int (nI 0)), (0, .ref t)] d_Txt_dropBlanksBehind_1 rfl (by decide) rfl) rfl ?_
  refine EvF.go (go_pick [1, 0] [(0, .ref t), (1, .int (nI 0))] rfl) ?_
  refine EvF.gop 3 (go_iconst (v := nI 0) d_Txt_dropBlanksBehind_2 (rfl)) rfl ?_
  refine EvF.gop 4 (go_istore_n [(2, .int (nI 0)), (0, .ref t), (1, .int (nI 0))] d_Txt_dropBlanksBehind_3 rfl (by decide) rfl) rfl ?_
  refine EvF.go (go_pick [1, 2, 0] [(0, .ref t), (1, .int (nI 0)), (2, .int (nI 0))] rfl) ?_
  refine EvF.go (go_m (M' := (gWr M tc (aI G 120 c))) (gWr_id (h2)).symm) ?_
  refine EvF.go (go_m (M' := (gWr (gWr M tc (aI G 120 c)) ts (aI G 120 s))) (gWr_id ((gRd_n _ _ (Ne.symm hcs)).trans (h3))).symm) ?_
  refine EvF.go ((g_Txt_dropBlanksBehind G M t tc ts n c s h1 h2 h3 hcs hn n 0 (by omega)).up (by decide)) ?_
  refine EvF.gop 79 (go_aload_n d_Txt_dropBlanksBehind_78 rfl 0 rfl) rfl ?_
  refine EvF.gop 80 (go_iload_n d_Txt_dropBlanksBehind_79 rfl 1 rfl) rfl ?_
  refine EvF.gop 83 (go_put [.ref tc, .ref ts, .int (nI (dGo gBb c s n).1)] f_Txt_18 ft_Txt_2 d_Txt_dropBlanksBehind_80 ((gRd_n _ _ (gNe h1 h3)).trans ((gRd_n _ _ (gNe h1 h2)).trans (h1))) (rfl) (rfl) (Nat.le_of_ble_eq_true rfl) rfl) rfl ?_
  exact EvF.rv d_Txt_dropBlanksBehind_83 rfl rfl
theorem g_Txt_dropBlanksBefore (G : gG) (M : gM) (t tc ts n : Nat) (c s : Nat → Int32) (h1 : gRd M t = some (.inr (3, [.ref tc, .ref ts, .int (nI n)]))) (h2 : gRd M tc = some (aI G 120 c)) (h3 : gRd M ts = some (aI G 120 s)) (hcs : tc ≠ ts) (hn : n ≤ 120) : ∀ r k : Nat, k + r = n → Go G m_Txt_dropBlanksBefore 1 (4, [(0, .ref t), (1, .int (nI (dGo (gBf n) c s k).1)), (2, .int (nI k))], [], (gWr (gWr M tc (aI G 120 ((dGo (gBf n) c s k).2.1))) ts (aI G 120 ((dGo (gBf n) c s k).2.2)))) (71, [(0, .ref t), (1, .int (nI (dGo (gBf n) c s n).1)), (2, .int (nI n))], [], (gWr (gWr M tc (aI G 120 ((dGo (gBf n) c s n).2.1))) ts (aI G 120 ((dGo (gBf n) c s n).2.2)))) := by
  intro r
  induction r with
  | zero =>
    intro k hk
    rw [show k = n from by omega]
    refine Go.trp 5 (go_iload_n d_Txt_dropBlanksBefore_4 rfl 2 rfl) rfl ?_
    refine Go.trp 6 (go_aload_n d_Txt_dropBlanksBefore_5 rfl 0 rfl) rfl ?_
    refine Go.trp 9 (go_get f_Txt_18 d_Txt_dropBlanksBefore_6 ((gRd_n _ _ (gNe h1 h3)).trans ((gRd_n _ _ (gNe h1 h2)).trans (h1))) rfl) rfl ?_
    refine Go.trp 71 (go_icmp_ge_t 71 d_Txt_dropBlanksBefore_9 (by decide) (nI_le (Nat.le_refl n) (by omega))) rfl ?_
    exact Go.rf
  | succ r ih =>
    intro k hk
    have hq := dGo_le (gBf n) c s k
    refine Go.trp 5 (go_iload_n d_Txt_dropBlanksBefore_4 rfl 2 rfl) rfl ?_
    refine Go.trp 6 (go_aload_n d_Txt_dropBlanksBefore_5 rfl 0 rfl) rfl ?_
    refine Go.trp 9 (go_get f_Txt_18 d_Txt_dropBlanksBefore_6 ((gRd_n _ _ (gNe h1 h3)).trans ((gRd_n _ _ (gNe h1 h2)).trans (h1))) rfl) rfl ?_
    refine Go.trp 12 (go_icmp_ge_f 71 d_Txt_dropBlanksBefore_9 (by decide) (nI_ge (by omega) (by omega))) rfl ?_
    refine Go.trp 13 (go_aload_n d_Txt_dropBlanksBefore_12 rfl 0 rfl) rfl ?_
    refine Go.trp 16 (go_get f_Txt_9 d_Txt_dropBlanksBefore_13 ((gRd_n _ _ (gNe h1 h3)).trans ((gRd_n _ _ (gNe h1 h2)).trans (h1))) rfl) rfl ?_
    refine Go.trp 17 (go_iload_n d_Txt_dropBlanksBefore_16 rfl 2 rfl) rfl ?_
    refine Go.trp 18 (go_iald (j := k) d_Txt_dropBlanksBefore_17 ((gRd_n _ _ hcs).trans (gRd_s _ _ _)) (rfl) (by omega) (by omega)) rfl ?_
    refine Go.trp 20 (go_bipush (v := 32) d_Txt_dropBlanksBefore_18 (by decide)) rfl ?_
    by_cases c1 : (((dGo (gBf n) c s k).2.1) k) = 32
    · refine Go.trp 23 (go_icmp_ne_f 50 d_Txt_dropBlanksBefore_20 (by decide) (c1)) rfl ?_
      refine Go.trp 24 (go_iload_n d_Txt_dropBlanksBefore_23 rfl 2 rfl) rfl ?_
      refine Go.trp 25 (go_iconst (v := 1) d_Txt_dropBlanksBefore_24 (by decide)) rfl ?_
      refine Go.trp 26 (go_iadd d_Txt_dropBlanksBefore_25) rfl ?_
      refine (go_v (y := nI (k + 1)) (nI_1 k)).tr ?_
      refine Go.trp 27 (go_aload_n d_Txt_dropBlanksBefore_26 rfl 0 rfl) rfl ?_
      refine Go.trp 30 (go_get f_Txt_18 d_Txt_dropBlanksBefore_27 ((gRd_n _ _ (gNe h1 h3)).trans ((gRd_n _ _ (gNe h1 h2)).trans (h1))) rfl) rfl ?_
      by_cases c2 : (nI (k + 1)) = (nI n)
      · have c2x : (k + 1) = n := (nI_eq (a := (k + 1)) (b := n) (by omega) (by omega)).mp c2
        refine Go.trp 46 (go_icmp_eq_t 46 d_Txt_dropBlanksBefore_30 (by decide) (c2)) rfl ?_
        refine Go.trp 47 (go_iconst (v := 1) d_Txt_dropBlanksBefore_46 (by decide)) rfl ?_
        refine Go.trp 51 (go_goto 51 d_Txt_dropBlanksBefore_47 (by decide)) rfl ?_
        refine Go.trp 52 (go_istore_n [(3, .int 1), (0, .ref t), (1, .int (nI (dGo (gBf n) c s k).1)), (2, .int (nI k))] d_Txt_dropBlanksBefore_51 rfl (by decide) rfl) rfl ?_
        refine (go_pick [1, 2, 3, 0] [(0, .ref t), (1, .int (nI (dGo (gBf n) c s k).1)), (2, .int (nI k)), (3, .int 1)] rfl).tr ?_
        refine Go.trp 53 (go_iload_n d_Txt_dropBlanksBefore_52 rfl 3 rfl) rfl ?_
        refine Go.trp 65 (go_if_ne_t 65 d_Txt_dropBlanksBefore_53 (by decide) (by decide)) rfl ?_
        refine Go.trp 68 (go_inc1 (n0 := 2) (x := k) [(2, .int (nI (k + 1))), (0, .ref t), (1, .int (nI (dGo (gBf n) c s k).1)), (3, .int 1)] d_Txt_dropBlanksBefore_65 rfl (by decide) rfl) rfl ?_
        refine (go_pick [1, 2, 0, 3] [(0, .ref t), (1, .int (nI (dGo (gBf n) c s k).1)), (2, .int (nI (k + 1))), (3, .int 1)] rfl).tr ?_
        refine Go.trp 4 (go_goto 4 d_Txt_dropBlanksBefore_68 (by decide)) rfl ?_
        refine (go_pick [0, 1, 2] [(0, .ref t), (1, .int (nI (dGo (gBf n) c s k).1)), (2, .int (nI (k + 1)))] rfl).tr ?_
        have hg : (gBf n) (dGo (gBf n) c s k).2.1 (dGo (gBf n) c s k).1 k = true := by simp [gBf, *]
        have h9 := ih (k + 1) (by omega)
        rw [dGo_t hg] at h9
        exact h9
      · have c2x : ¬ (k + 1) = n := fun q9 => c2 ((nI_eq (a := (k + 1)) (b := n) (by omega) (by omega)).mpr q9)
        refine Go.trp 33 (go_icmp_eq_f 46 d_Txt_dropBlanksBefore_30 (by decide) (c2)) rfl ?_
        refine Go.trp 34 (go_aload_n d_Txt_dropBlanksBefore_33 rfl 0 rfl) rfl ?_
        refine Go.trp 37 (go_get f_Txt_9 d_Txt_dropBlanksBefore_34 ((gRd_n _ _ (gNe h1 h3)).trans ((gRd_n _ _ (gNe h1 h2)).trans (h1))) rfl) rfl ?_
        refine Go.trp 38 (go_iload_n d_Txt_dropBlanksBefore_37 rfl 2 rfl) rfl ?_
        refine Go.trp 39 (go_iconst (v := 1) d_Txt_dropBlanksBefore_38 (by decide)) rfl ?_
        refine Go.trp 40 (go_iadd d_Txt_dropBlanksBefore_39) rfl ?_
        refine (go_v (y := nI (k + 1)) (nI_1 k)).tr ?_
        refine Go.trp 41 (go_iald (j := (k + 1)) d_Txt_dropBlanksBefore_40 ((gRd_n _ _ hcs).trans (gRd_s _ _ _)) (rfl) (by omega) (by omega)) rfl ?_
        refine Go.trp 43 (go_bipush (v := 124) d_Txt_dropBlanksBefore_41 (by decide)) rfl ?_
        by_cases c3 : (((dGo (gBf n) c s k).2.1) (k + 1)) = 124
        · refine Go.trp 46 (go_icmp_ne_f 50 d_Txt_dropBlanksBefore_43 (by decide) (c3)) rfl ?_
          refine Go.trp 47 (go_iconst (v := 1) d_Txt_dropBlanksBefore_46 (by decide)) rfl ?_
          refine Go.trp 51 (go_goto 51 d_Txt_dropBlanksBefore_47 (by decide)) rfl ?_
          refine Go.trp 52 (go_istore_n [(3, .int 1), (0, .ref t), (1, .int (nI (dGo (gBf n) c s k).1)), (2, .int (nI k))] d_Txt_dropBlanksBefore_51 rfl (by decide) rfl) rfl ?_
          refine (go_pick [1, 2, 3, 0] [(0, .ref t), (1, .int (nI (dGo (gBf n) c s k).1)), (2, .int (nI k)), (3, .int 1)] rfl).tr ?_
          refine Go.trp 53 (go_iload_n d_Txt_dropBlanksBefore_52 rfl 3 rfl) rfl ?_
          refine Go.trp 65 (go_if_ne_t 65 d_Txt_dropBlanksBefore_53 (by decide) (by decide)) rfl ?_
          refine Go.trp 68 (go_inc1 (n0 := 2) (x := k) [(2, .int (nI (k + 1))), (0, .ref t), (1, .int (nI (dGo (gBf n) c s k).1)), (3, .int 1)] d_Txt_dropBlanksBefore_65 rfl (by decide) rfl) rfl ?_
          refine (go_pick [1, 2, 0, 3] [(0, .ref t), (1, .int (nI (dGo (gBf n) c s k).1)), (2, .int (nI (k + 1))), (3, .int 1)] rfl).tr ?_
          refine Go.trp 4 (go_goto 4 d_Txt_dropBlanksBefore_68 (by decide)) rfl ?_
          refine (go_pick [0, 1, 2] [(0, .ref t), (1, .int (nI (dGo (gBf n) c s k).1)), (2, .int (nI (k + 1)))] rfl).tr ?_
          have hg : (gBf n) (dGo (gBf n) c s k).2.1 (dGo (gBf n) c s k).1 k = true := by simp [gBf, *]
          have h9 := ih (k + 1) (by omega)
          rw [dGo_t hg] at h9
          exact h9
        · refine Go.trp 50 (go_icmp_ne_t 50 d_Txt_dropBlanksBefore_43 (by decide) (c3)) rfl ?_
          refine Go.trp 51 (go_iconst (v := 0) d_Txt_dropBlanksBefore_50 (by decide)) rfl ?_
          refine Go.trp 52 (go_istore_n [(3, .int 0), (0, .ref t), (1, .int (nI (dGo (gBf n) c s k).1)), (2, .int (nI k))] d_Txt_dropBlanksBefore_51 rfl (by decide) rfl) rfl ?_
          refine (go_pick [1, 2, 3, 0] [(0, .ref t), (1, .int (nI (dGo (gBf n) c s k).1)), (2, .int (nI k)), (3, .int 0)] rfl).tr ?_
          refine Go.trp 53 (go_iload_n d_Txt_dropBlanksBefore_52 rfl 3 rfl) rfl ?_
          refine Go.trp 56 (go_if_ne_f 65 d_Txt_dropBlanksBefore_53 (by decide) (by decide)) rfl ?_
          refine Go.trp 57 (go_aload_n d_Txt_dropBlanksBefore_56 rfl 0 rfl) rfl ?_
          refine Go.trp 58 (go_iload_n d_Txt_dropBlanksBefore_57 rfl 2 rfl) rfl ?_
          refine Go.trp 59 (go_iload_n d_Txt_dropBlanksBefore_58 rfl 1 rfl) rfl ?_
          refine Go.trp 62 (go_callV [.int (nI k), .int (nI (dGo (gBf n) c s k).1)] [] c0_Txt_move im_Txt_move se_Txt_move lk_Txt_35 d_Txt_dropBlanksBefore_59 rfl rfl ((gRd_n _ _ (gNe h1 h3)).trans ((gRd_n _ _ (gNe h1 h2)).trans (h1))) (e_Txt_move G _ t tc ts n (dGo (gBf n) c s k).2.1 (dGo (gBf n) c s k).2.2 k (dGo (gBf n) c s k).1 ((gRd_n _ _ (gNe h1 h3)).trans ((gRd_n _ _ (gNe h1 h2)).trans (h1))) ((gRd_n _ _ hcs).trans (gRd_s _ _ _)) (gRd_s _ _ _) hcs hn (by omega) (by omega)) (by decide) rfl rfl (Nat.le_of_ble_eq_true rfl) rfl) rfl ?_
          refine (go_m (M' := (gWr (gWr M tc (aI G 120 (upd (dGo (gBf n) c s k).2.1 (dGo (gBf n) c s k).1 ((dGo (gBf n) c s k).2.1 k)))) ts (aI G 120 (upd (dGo (gBf n) c s k).2.2 (dGo (gBf n) c s k).1 ((dGo (gBf n) c s k).2.2 k))))) ((congrArg (fun m => gWr m ts (aI G 120 (upd (dGo (gBf n) c s k).2.2 (dGo (gBf n) c s k).1 ((dGo (gBf n) c s k).2.2 k)))) ((gWr_cm (gWr M tc (aI G 120 ((dGo (gBf n) c s k).2.1))) (aI G 120 ((dGo (gBf n) c s k).2.2)) (aI G 120 (upd (dGo (gBf n) c s k).2.1 (dGo (gBf n) c s k).1 ((dGo (gBf n) c s k).2.1 k))) (Ne.symm hcs)).trans (congrArg (fun m => gWr m ts (aI G 120 ((dGo (gBf n) c s k).2.2))) (gWr_wr M tc (aI G 120 ((dGo (gBf n) c s k).2.1)) (aI G 120 (upd (dGo (gBf n) c s k).2.1 (dGo (gBf n) c s k).1 ((dGo (gBf n) c s k).2.1 k))))))).trans (gWr_wr (gWr M tc (aI G 120 (upd (dGo (gBf n) c s k).2.1 (dGo (gBf n) c s k).1 ((dGo (gBf n) c s k).2.1 k)))) ts (aI G 120 ((dGo (gBf n) c s k).2.2)) (aI G 120 (upd (dGo (gBf n) c s k).2.2 (dGo (gBf n) c s k).1 ((dGo (gBf n) c s k).2.2 k)))))).tr ?_
          refine Go.trp 65 (go_inc1 (n0 := 1) (x := (dGo (gBf n) c s k).1) [(1, .int (nI ((dGo (gBf n) c s k).1 + 1))), (0, .ref t), (2, .int (nI k)), (3, .int 0)] d_Txt_dropBlanksBefore_62 rfl (by decide) rfl) rfl ?_
          refine (go_pick [1, 0, 2, 3] [(0, .ref t), (1, .int (nI ((dGo (gBf n) c s k).1 + 1))), (2, .int (nI k)), (3, .int 0)] rfl).tr ?_
          refine Go.trp 68 (go_inc1 (n0 := 2) (x := k) [(2, .int (nI (k + 1))), (0, .ref t), (1, .int (nI ((dGo (gBf n) c s k).1 + 1))), (3, .int 0)] d_Txt_dropBlanksBefore_65 rfl (by decide) rfl) rfl ?_
          refine (go_pick [1, 2, 0, 3] [(0, .ref t), (1, .int (nI ((dGo (gBf n) c s k).1 + 1))), (2, .int (nI (k + 1))), (3, .int 0)] rfl).tr ?_
          refine Go.trp 4 (go_goto 4 d_Txt_dropBlanksBefore_68 (by decide)) rfl ?_
          refine (go_pick [0, 1, 2] [(0, .ref t), (1, .int (nI ((dGo (gBf n) c s k).1 + 1))), (2, .int (nI (k + 1)))] rfl).tr ?_
          have hg : (gBf n) (dGo (gBf n) c s k).2.1 (dGo (gBf n) c s k).1 k = false := by simp [gBf, *]
          have h9 := ih (k + 1) (by omega)
          rw [dGo_f hg] at h9
          exact h9
    · refine Go.trp 50 (go_icmp_ne_t 50 d_Txt_dropBlanksBefore_20 (by decide) (c1)) rfl ?_
      refine Go.trp 51 (go_iconst (v := 0) d_Txt_dropBlanksBefore_50 (by decide)) rfl ?_
      refine Go.trp 52 (go_istore_n [(3, .int 0), (0, .ref t), (1, .int (nI (dGo (gBf n) c s k).1)), (2, .int (nI k))] d_Txt_dropBlanksBefore_51 rfl (by decide) rfl) rfl ?_
      refine (go_pick [1, 2, 3, 0] [(0, .ref t), (1, .int (nI (dGo (gBf n) c s k).1)), (2, .int (nI k)), (3, .int 0)] rfl).tr ?_
      refine Go.trp 53 (go_iload_n d_Txt_dropBlanksBefore_52 rfl 3 rfl) rfl ?_
      refine Go.trp 56 (go_if_ne_f 65 d_Txt_dropBlanksBefore_53 (by decide) (by decide)) rfl ?_
      refine Go.trp 57 (go_aload_n d_Txt_dropBlanksBefore_56 rfl 0 rfl) rfl ?_
      refine Go.trp 58 (go_iload_n d_Txt_dropBlanksBefore_57 rfl 2 rfl) rfl ?_
      refine Go.trp 59 (go_iload_n d_Txt_dropBlanksBefore_58 rfl 1 rfl) rfl ?_
      refine Go.trp 62 (go_callV [.int (nI k), .int (nI (dGo (gBf n) c s k).1)] [] c0_Txt_move im_Txt_move se_Txt_move lk_Txt_35 d_Txt_dropBlanksBefore_59 rfl rfl ((gRd_n _ _ (gNe h1 h3)).trans ((gRd_n _ _ (gNe h1 h2)).trans (h1))) (e_Txt_move G _ t tc ts n (dGo (gBf n) c s k).2.1 (dGo (gBf n) c s k).2.2 k (dGo (gBf n) c s k).1 ((gRd_n _ _ (gNe h1 h3)).trans ((gRd_n _ _ (gNe h1 h2)).trans (h1))) ((gRd_n _ _ hcs).trans (gRd_s _ _ _)) (gRd_s _ _ _) hcs hn (by omega) (by omega)) (by decide) rfl rfl (Nat.le_of_ble_eq_true rfl) rfl) rfl ?_
      refine (go_m (M' := (gWr (gWr M tc (aI G 120 (upd (dGo (gBf n) c s k).2.1 (dGo (gBf n) c s k).1 ((dGo (gBf n) c s k).2.1 k)))) ts (aI G 120 (upd (dGo (gBf n) c s k).2.2 (dGo (gBf n) c s k).1 ((dGo (gBf n) c s k).2.2 k))))) ((congrArg (fun m => gWr m ts (aI G 120 (upd (dGo (gBf n) c s k).2.2 (dGo (gBf n) c s k).1 ((dGo (gBf n) c s k).2.2 k)))) ((gWr_cm (gWr M tc (aI G 120 ((dGo (gBf n) c s k).2.1))) (aI G 120 ((dGo (gBf n) c s k).2.2)) (aI G 120 (upd (dGo (gBf n) c s k).2.1 (dGo (gBf n) c s k).1 ((dGo (gBf n) c s k).2.1 k))) (Ne.symm hcs)).trans (congrArg (fun m => gWr m ts (aI G 120 ((dGo (gBf n) c s k).2.2))) (gWr_wr M tc (aI G 120 ((dGo (gBf n) c s k).2.1)) (aI G 120 (upd (dGo (gBf n) c s k).2.1 (dGo (gBf n) c s k).1 ((dGo (gBf n) c s k).2.1 k))))))).trans (gWr_wr (gWr M tc (aI G 120 (upd (dGo (gBf n) c s k).2.1 (dGo (gBf n) c s k).1 ((dGo (gBf n) c s k).2.1 k)))) ts (aI G 120 ((dGo (gBf n) c s k).2.2)) (aI G 120 (upd (dGo (gBf n) c s k).2.2 (dGo (gBf n) c s k).1 ((dGo (gBf n) c s k).2.2 k)))))).tr ?_
      refine Go.trp 65 (go_inc1 (n0 := 1) (x := (dGo (gBf n) c s k).1) [(1, .int (nI ((dGo (gBf n) c s k).1 + 1))), (0, .ref t), (2, .int (nI k)), (3, .int 0)] d_Txt_dropBlanksBefore_62 rfl (by decide) rfl) rfl ?_
      refine (go_pick [1, 0, 2, 3] [(0, .ref t), (1, .int (nI ((dGo (gBf n) c s k).1 + 1))), (2, .int (nI k)), (3, .int 0)] rfl).tr ?_
      refine Go.trp 68 (go_inc1 (n0 := 2) (x := k) [(2, .int (nI (k + 1))), (0, .ref t), (1, .int (nI ((dGo (gBf n) c s k).1 + 1))), (3, .int 0)] d_Txt_dropBlanksBefore_65 rfl (by decide) rfl) rfl ?_
      refine (go_pick [1, 2, 0, 3] [(0, .ref t), (1, .int (nI ((dGo (gBf n) c s k).1 + 1))), (2, .int (nI (k + 1))), (3, .int 0)] rfl).tr ?_
      refine Go.trp 4 (go_goto 4 d_Txt_dropBlanksBefore_68 (by decide)) rfl ?_
      refine (go_pick [0, 1, 2] [(0, .ref t), (1, .int (nI ((dGo (gBf n) c s k).1 + 1))), (2, .int (nI (k + 1)))] rfl).tr ?_
      have hg : (gBf n) (dGo (gBf n) c s k).2.1 (dGo (gBf n) c s k).1 k = false := by simp [gBf, *]
      have h9 := ih (k + 1) (by omega)
      rw [dGo_f hg] at h9
      exact h9
theorem e_Txt_dropBlanksBefore (G : gG) (M : gM) (t tc ts n : Nat) (c s : Nat → Int32) (h1 : gRd M t = some (.inr (3, [.ref tc, .ref ts, .int (nI n)]))) (h2 : gRd M tc = some (aI G 120 c)) (h3 : gRd M ts = some (aI G 120 s)) (hcs : tc ≠ ts) (hn : n ≤ 120) : Ev G 2 m_Txt_dropBlanksBefore [.ref t] M none (gWr (gWr (gWr M tc (aI G 120 (dGo (gBf n) c s n).2.1)) ts (aI G 120 (dGo (gBf n) c s n).2.2)) t (.inr (3, [.ref tc, .ref ts, .int (nI (dGo (gBf n) c s n).1)]))) := by
  refine Ev.of (Nat.le_of_ble_eq_true rfl) ?_
  show EvF G 2 m_Txt_dropBlanksBefore (0, [(0, .ref t)], [], M) _ _
  refine EvF.gop 1 (go_iconst (v := nI 0) d_Txt_dropBlanksBefore_0 (rfl)) rfl ?_
  refine EvF.gop 2 (go_istore_n [(1, .int (nI 0)), (0, .ref t)] d_Txt_dropBlanksBefore_1 rfl (by decide) rfl) rfl ?_
  refine EvF.go (go_pick [1, 0] [(0, .ref t), (1, .int (nI 0))] rfl) ?_
  refine EvF.gop 3 (go_iconst (v := nI 0) d_Txt_dropBlanksBefore_2 (rfl)) rfl ?_
  refine EvF.gop 4 (go_istore_n [(2, .int (nI 0)), (0, .ref t), (1, .int (nI 0))] d_Txt_dropBlanksBefore_3 rfl (by decide) rfl) rfl ?_
  refine EvF.go (go_pick [1, 2, 0] [(0, .ref t), (1, .int (nI 0)), (2, .int (nI 0))] rfl) ?_
  refine EvF.go (go_m (M' := (gWr M tc (aI G 120 c))) (gWr_id (h2)).symm) ?_
  refine EvF.go (go_m (M' := (gWr (gWr M tc (aI G 120 c)) ts (aI G 120 s))) (gWr_id ((gRd_n _ _ (Ne.symm hcs)).trans (h3))).symm) ?_
  refine EvF.go ((g_Txt_dropBlanksBefore G M t tc ts n c s h1 h2 h3 hcs hn n 0 (by omega)).up (by decide)) ?_
  refine EvF.gop 72 (go_aload_n d_Txt_dropBlanksBefore_71 rfl 0 rfl) rfl ?_
  refine EvF.gop 73 (go_iload_n d_Txt_dropBlanksBefore_72 rfl 1 rfl) rfl ?_
  refine EvF.gop 76 (go_put [.ref tc, .ref ts, .int (nI (dGo (gBf n) c s n).1)] f_Txt_18 ft_Txt_2 d_Txt_dropBlanksBefore_73 ((gRd_n _ _ (gNe h1 h3)).trans ((gRd_n _ _ (gNe h1 h2)).trans (h1))) (rfl) (rfl) (Nat.le_of_ble_eq_true rfl) rfl) rfl ?_
  exact EvF.rv d_Txt_dropBlanksBefore_76 rfl rfl
theorem g_Txt_dropBarsBehind (G : gG) (M : gM) (t tc ts n : Nat) (c s : Nat → Int32) (h1 : gRd M t = some (.inr (3, [.ref tc, .ref ts, .int (nI n)]))) (h2 : gRd M tc = some (aI G 120 c)) (h3 : gRd M ts = some (aI G 120 s)) (hcs : tc ≠ ts) (hn : n ≤ 120) : ∀ r k : Nat, k + r = n → Go G m_Txt_dropBarsBehind 1 (4, [(0, .ref t), (1, .int (nI (dGo gBr c s k).1)), (2, .int (nI k))], [], (gWr (gWr M tc (aI G 120 ((dGo gBr c s k).2.1))) ts (aI G 120 ((dGo gBr c s k).2.2)))) (65, [(0, .ref t), (1, .int (nI (dGo gBr c s n).1)), (2, .int (nI n))], [], (gWr (gWr M tc (aI G 120 ((dGo gBr c s n).2.1))) ts (aI G 120 ((dGo gBr c s n).2.2)))) := by
  intro r
  induction r with
  | zero =>
    intro k hk
    rw [show k = n from by omega]
    refine Go.trp 5 (go_iload_n d_Txt_dropBarsBehind_4 rfl 2 rfl) rfl ?_
    refine Go.trp 6 (go_aload_n d_Txt_dropBarsBehind_5 rfl 0 rfl) rfl ?_
    refine Go.trp 9 (go_get f_Txt_18 d_Txt_dropBarsBehind_6 ((gRd_n _ _ (gNe h1 h3)).trans ((gRd_n _ _ (gNe h1 h2)).trans (h1))) rfl) rfl ?_
    refine Go.trp 65 (go_icmp_ge_t 65 d_Txt_dropBarsBehind_9 (by decide) (nI_le (Nat.le_refl n) (by omega))) rfl ?_
    exact Go.rf
  | succ r ih =>
    intro k hk
    have hq := dGo_le gBr c s k
    refine Go.trp 5 (go_iload_n d_Txt_dropBarsBehind_4 rfl 2 rfl) rfl ?_
    refine Go.trp 6 (go_aload_n d_Txt_dropBarsBehind_5 rfl 0 rfl) rfl ?_
    refine Go.trp 9 (go_get f_Txt_18 d_Txt_dropBarsBehind_6 ((gRd_n _ _ (gNe h1 h3)).trans ((gRd_n _ _ (gNe h1 h2)).trans (h1))) rfl) rfl ?_
    refine Go.trp 12 (go_icmp_ge_f 65 d_Txt_dropBarsBehind_9 (by decide) (nI_ge (by omega) (by omega))) rfl ?_
    refine Go.trp 13 (go_aload_n d_Txt_dropBarsBehind_12 rfl 0 rfl) rfl ?_
    refine Go.trp 16 (go_get f_Txt_9 d_Txt_dropBarsBehind_13 ((gRd_n _ _ (gNe h1 h3)).trans ((gRd_n _ _ (gNe h1 h2)).trans (h1))) rfl) rfl ?_
    refine Go.trp 17 (go_iload_n d_Txt_dropBarsBehind_16 rfl 2 rfl) rfl ?_
    refine Go.trp 18 (go_iald (j := k) d_Txt_dropBarsBehind_17 ((gRd_n _ _ hcs).trans (gRd_s _ _ _)) (rfl) (by omega) (by omega)) rfl ?_
    refine Go.trp 20 (go_bipush (v := 124) d_Txt_dropBarsBehind_18 (by decide)) rfl ?_
    by_cases c1 : (((dGo gBr c s k).2.1) k) = 124
    · refine Go.trp 23 (go_icmp_ne_f 44 d_Txt_dropBarsBehind_20 (by decide) (c1)) rfl ?_
      refine Go.trp 24 (go_iload_n d_Txt_dropBarsBehind_23 rfl 1 rfl) rfl ?_
      by_cases c2 : (nI (dGo gBr c s k).1) = 0
      · have c2x : (dGo gBr c s k).1 = 0 := (nI_eq (a := (dGo gBr c s k).1) (b := 0) (by omega) (by decide)).mp c2
        refine Go.trp 40 (go_if_eq_t 40 d_Txt_dropBarsBehind_24 (by decide) (c2)) rfl ?_
        refine Go.trp 41 (go_iconst (v := 1) d_Txt_dropBarsBehind_40 (by decide)) rfl ?_
        refine Go.trp 45 (go_goto 45 d_Txt_dropBarsBehind_41 (by decide)) rfl ?_
        refine Go.trp 46 (go_istore_n [(3, .int 1), (0, .ref t), (1, .int (nI (dGo gBr c s k).1)), (2, .int (nI k))] d_Txt_dropBarsBehind_45 rfl (by decide) rfl) rfl ?_
        refine (go_pick [1, 2, 3, 0] [(0, .ref t), (1, .int (nI (dGo gBr c s k).1)), (2, .int (nI k)), (3, .int 1)] rfl).tr ?_
        refine Go.trp 47 (go_iload_n d_Txt_dropBarsBehind_46 rfl 3 rfl) rfl ?_
        refine Go.trp 59 (go_if_ne_t 59 d_Txt_dropBarsBehind_47 (by decide) (by decide)) rfl ?_
        refine Go.trp 62 (go_inc1 (n0 := 2) (x := k) [(2, .int (nI (k + 1))), (0, .ref t), (1, .int (nI (dGo gBr c s k).1)), (3, .int 1)] d_Txt_dropBarsBehind_59 rfl (by decide) rfl) rfl ?_
        refine (go_pick [1, 2, 0, 3] [(0, .ref t), (1, .int (nI (dGo gBr c s k).1)), (2, .int (nI (k + 1))), (3, .int 1)] rfl).tr ?_
        refine Go.trp 4 (go_goto 4 d_Txt_dropBarsBehind_62 (by decide)) rfl ?_
        refine (go_pick [0, 1, 2] [(0, .ref t), (1, .int (nI (dGo gBr c s k).1)), (2, .int (nI (k + 1)))] rfl).tr ?_
        have hg : gBr (dGo gBr c s k).2.1 (dGo gBr c s k).1 k = true := by simp [gBr, *]
        have h9 := ih (k + 1) (by omega)
        rw [dGo_t hg] at h9
        exact h9
      · have c2x : ¬ (dGo gBr c s k).1 = 0 := fun q9 => c2 ((nI_eq (a := (dGo gBr c s k).1) (b := 0) (by omega) (by decide)).mpr q9)
        refine Go.trp 27 (go_if_eq_f 40 d_Txt_dropBarsBehind_24 (by decide) (c2)) rfl ?_
        refine Go.trp 28 (go_aload_n d_Txt_dropBarsBehind_27 rfl 0 rfl) rfl ?_
        refine Go.trp 31 (go_get f_Txt_9 d_Txt_dropBarsBehind_28 ((gRd_n _ _ (gNe h1 h3)).trans ((gRd_n _ _ (gNe h1 h2)).trans (h1))) rfl) rfl ?_
        refine Go.trp 32 (go_iload_n d_Txt_dropBarsBehind_31 rfl 1 rfl) rfl ?_
        refine Go.trp 33 (go_iconst (v := 1) d_Txt_dropBarsBehind_32 (by decide)) rfl ?_
        refine Go.trp 34 (go_isub d_Txt_dropBarsBehind_33) rfl ?_
        refine (go_v (y := nI ((dGo gBr c s k).1 - 1)) (by rw [← pk_sub (by omega)]; rfl)).tr ?_
        refine Go.trp 35 (go_iald (j := ((dGo gBr c s k).1 - 1)) d_Txt_dropBarsBehind_34 ((gRd_n _ _ hcs).trans (gRd_s _ _ _)) (rfl) (by omega) (by omega)) rfl ?_
        refine Go.trp 37 (go_bipush (v := 124) d_Txt_dropBarsBehind_35 (by decide)) rfl ?_
        by_cases c3 : (((dGo gBr c s k).2.1) ((dGo gBr c s k).1 - 1)) = 124
        · refine Go.trp 40 (go_icmp_ne_f 44 d_Txt_dropBarsBehind_37 (by decide) (c3)) rfl ?_
          refine Go.trp 41 (go_iconst (v := 1) d_Txt_dropBarsBehind_40 (by decide)) rfl ?_
          refine Go.trp 45 (go_goto 45 d_Txt_dropBarsBehind_41 (by decide)) rfl ?_
          refine Go.trp 46 (go_istore_n [(3, .int 1), (0, .ref t), (1, .int (nI (dGo gBr c s k).1)), (2, .int (nI k))] d_Txt_dropBarsBehind_45 rfl (by decide) rfl) rfl ?_
          refine (go_pick [1, 2, 3, 0] [(0, .ref t), (1, .int (nI (dGo gBr c s k).1)), (2, .int (nI k)), (3, .int 1)] rfl).tr ?_
          refine Go.trp 47 (go_iload_n d_Txt_dropBarsBehind_46 rfl 3 rfl) rfl ?_
          refine Go.trp 59 (go_if_ne_t 59 d_Txt_dropBarsBehind_47 (by decide) (by decide)) rfl ?_
          refine Go.trp 62 (go_inc1 (n0 := 2) (x := k) [(2, .int (nI (k + 1))), (0, .ref t), (1, .int (nI (dGo gBr c s k).1)), (3, .int 1)] d_Txt_dropBarsBehind_59 rfl (by decide) rfl) rfl ?_
          refine (go_pick [1, 2, 0, 3] [(0, .ref t), (1, .int (nI (dGo gBr c s k).1)), (2, .int (nI (k + 1))), (3, .int 1)] rfl).tr ?_
          refine Go.trp 4 (go_goto 4 d_Txt_dropBarsBehind_62 (by decide)) rfl ?_
          refine (go_pick [0, 1, 2] [(0, .ref t), (1, .int (nI (dGo gBr c s k).1)), (2, .int (nI (k + 1)))] rfl).tr ?_
          have hg : gBr (dGo gBr c s k).2.1 (dGo gBr c s k).1 k = true := by simp [gBr, *]
          have h9 := ih (k + 1) (by omega)
          rw [dGo_t hg] at h9
          exact h9
        · refine Go.trp 44 (go_icmp_ne_t 44 d_Txt_dropBarsBehind_37 (by decide) (c3)) rfl ?_
          refine Go.trp 45 (go_iconst (v := 0) d_Txt_dropBarsBehind_44 (by decide)) rfl ?_
          refine Go.trp 46 (go_istore_n [(3, .int 0), (0, .ref t), (1, .int (nI (dGo gBr c s k).1)), (2, .int (nI k))] d_Txt_dropBarsBehind_45 rfl (by decide) rfl) rfl ?_
          refine (go_pick [1, 2, 3, 0] [(0, .ref t), (1, .int (nI (dGo gBr c s k).1)), (2, .int (nI k)), (3, .int 0)] rfl).tr ?_
          refine Go.trp 47 (go_iload_n d_Txt_dropBarsBehind_46 rfl 3 rfl) rfl ?_
          refine Go.trp 50 (go_if_ne_f 59 d_Txt_dropBarsBehind_47 (by decide) (by decide)) rfl ?_
          refine Go.trp 51 (go_aload_n d_Txt_dropBarsBehind_50 rfl 0 rfl) rfl ?_
          refine Go.trp 52 (go_iload_n d_Txt_dropBarsBehind_51 rfl 2 rfl) rfl ?_
          refine Go.trp 53 (go_iload_n d_Txt_dropBarsBehind_52 rfl 1 rfl) rfl ?_
          refine Go.trp 56 (go_callV [.int (nI k), .int (nI (dGo gBr c s k).1)] [] c0_Txt_move im_Txt_move se_Txt_move lk_Txt_35 d_Txt_dropBarsBehind_53 rfl rfl ((gRd_n _ _ (gNe h1 h3)).trans ((gRd_n _ _ (gNe h1 h2)).trans (h1))) (e_Txt_move G _ t tc ts n (dGo gBr c s k).2.1 (dGo gBr c s k).2.2 k (dGo gBr c s k).1 ((gRd_n _ _ (gNe h1 h3)).trans ((gRd_n _ _ (gNe h1 h2)).trans (h1))) ((gRd_n _ _ hcs).trans (gRd_s _ _ _)) (gRd_s _ _ _) hcs hn (by omega) (by omega)) (by decide) rfl rfl (Nat.le_of_ble_eq_true rfl) rfl) rfl ?_
          refine (go_m (M' := (gWr (gWr M tc (aI G 120 (upd (dGo gBr c s k).2.1 (dGo gBr c s k).1 ((dGo gBr c s k).2.1 k)))) ts (aI G 120 (upd (dGo gBr c s k).2.2 (dGo gBr c s k).1 ((dGo gBr c s k).2.2 k))))) ((congrArg (fun m => gWr m ts (aI G 120 (upd (dGo gBr c s k).2.2 (dGo gBr c s k).1 ((dGo gBr c s k).2.2 k)))) ((gWr_cm (gWr M tc (aI G 120 ((dGo gBr c s k).2.1))) (aI G 120 ((dGo gBr c s k).2.2)) (aI G 120 (upd (dGo gBr c s k).2.1 (dGo gBr c s k).1 ((dGo gBr c s k).2.1 k))) (Ne.symm hcs)).trans (congrArg (fun m => gWr m ts (aI G 120 ((dGo gBr c s k).2.2))) (gWr_wr M tc (aI G 120 ((dGo gBr c s k).2.1)) (aI G 120 (upd (dGo gBr c s k).2.1 (dGo gBr c s k).1 ((dGo gBr c s k).2.1 k))))))).trans (gWr_wr (gWr M tc (aI G 120 (upd (dGo gBr c s k).2.1 (dGo gBr c s k).1 ((dGo gBr c s k).2.1 k)))) ts (aI G 120 ((dGo gBr c s k).2.2)) (aI G 120 (upd (dGo gBr c s k).2.2 (dGo gBr c s k).1 ((dGo gBr c s k).2.2 k)))))).tr ?_
          refine Go.trp 59 (go_inc1 (n0 := 1) (x := (dGo gBr c s k).1) [(1, .int (nI ((dGo gBr c s k).1 + 1))), (0, .ref t), (2, .int (nI k)), (3, .int 0)] d_Txt_dropBarsBehind_56 rfl (by decide) rfl) rfl ?_
          refine (go_pick [1, 0, 2, 3] [(0, .ref t), (1, .int (nI ((dGo gBr c s k).1 + 1))), (2, .int (nI k)), (3, .int 0)] rfl).tr ?_
          refine Go.trp 62 (go_inc1 (n0 := 2) (x := k) [(2, .int (nI (k + 1))), (0, .ref t), (1, .int (nI ((dGo gBr c s k).1 + 1))), (3, .int 0)] d_Txt_dropBarsBehind_59 rfl (by decide) rfl) rfl ?_
          refine (go_pick [1, 2, 0, 3] [(0, .ref t), (1, .int (nI ((dGo gBr c s k).1 + 1))), (2, .int (nI (k + 1))), (3, .int 0)] rfl).tr ?_
          refine Go.trp 4 (go_goto 4 d_Txt_dropBarsBehind_62 (by decide)) rfl ?_
          refine (go_pick [0, 1, 2] [(0, .ref t), (1, .int (nI ((dGo gBr c s k).1 + 1))), (2, .int (nI (k + 1)))] rfl).tr ?_
          have hg : gBr (dGo gBr c s k).2.1 (dGo gBr c s k).1 k = false := by simp [gBr, *]
          have h9 := ih (k + 1) (by omega)
          rw [dGo_f hg] at h9
          exact h9
    · refine Go.trp 44 (go_icmp_ne_t 44 d_Txt_dropBarsBehind_20 (by decide) (c1)) rfl ?_
      refine Go.trp 45 (go_iconst (v := 0) d_Txt_dropBarsBehind_44 (by decide)) rfl ?_
      refine Go.trp 46 (go_istore_n [(3, .int 0), (0, .ref t), (1, .int (nI (dGo gBr c s k).1)), (2, .int (nI k))] d_Txt_dropBarsBehind_45 rfl (by decide) rfl) rfl ?_
      refine (go_pick [1, 2, 3, 0] [(0, .ref t), (1, .int (nI (dGo gBr c s k).1)), (2, .int (nI k)), (3, .int 0)] rfl).tr ?_
      refine Go.trp 47 (go_iload_n d_Txt_dropBarsBehind_46 rfl 3 rfl) rfl ?_
      refine Go.trp 50 (go_if_ne_f 59 d_Txt_dropBarsBehind_47 (by decide) (by decide)) rfl ?_
      refine Go.trp 51 (go_aload_n d_Txt_dropBarsBehind_50 rfl 0 rfl) rfl ?_
      refine Go.trp 52 (go_iload_n d_Txt_dropBarsBehind_51 rfl 2 rfl) rfl ?_
      refine Go.trp 53 (go_iload_n d_Txt_dropBarsBehind_52 rfl 1 rfl) rfl ?_
      refine Go.trp 56 (go_callV [.int (nI k), .int (nI (dGo gBr c s k).1)] [] c0_Txt_move im_Txt_move se_Txt_move lk_Txt_35 d_Txt_dropBarsBehind_53 rfl rfl ((gRd_n _ _ (gNe h1 h3)).trans ((gRd_n _ _ (gNe h1 h2)).trans (h1))) (e_Txt_move G _ t tc ts n (dGo gBr c s k).2.1 (dGo gBr c s k).2.2 k (dGo gBr c s k).1 ((gRd_n _ _ (gNe h1 h3)).trans ((gRd_n _ _ (gNe h1 h2)).trans (h1))) ((gRd_n _ _ hcs).trans (gRd_s _ _ _)) (gRd_s _ _ _) hcs hn (by omega) (by omega)) (by decide) rfl rfl (Nat.le_of_ble_eq_true rfl) rfl) rfl ?_
      refine (go_m (M' := (gWr (gWr M tc (aI G 120 (upd (dGo gBr c s k).2.1 (dGo gBr c s k).1 ((dGo gBr c s k).2.1 k)))) ts (aI G 120 (upd (dGo gBr c s k).2.2 (dGo gBr c s k).1 ((dGo gBr c s k).2.2 k))))) ((congrArg (fun m => gWr m ts (aI G 120 (upd (dGo gBr c s k).2.2 (dGo gBr c s k).1 ((dGo gBr c s k).2.2 k)))) ((gWr_cm (gWr M tc (aI G 120 ((dGo gBr c s k).2.1))) (aI G 120 ((dGo gBr c s k).2.2)) (aI G 120 (upd (dGo gBr c s k).2.1 (dGo gBr c s k).1 ((dGo gBr c s k).2.1 k))) (Ne.symm hcs)).trans (congrArg (fun m => gWr m ts (aI G 120 ((dGo gBr c s k).2.2))) (gWr_wr M tc (aI G 120 ((dGo gBr c s k).2.1)) (aI G 120 (upd (dGo gBr c s k).2.1 (dGo gBr c s k).1 ((dGo gBr c s k).2.1 k))))))).trans (gWr_wr (gWr M tc (aI G 120 (upd (dGo gBr c s k).2.1 (dGo gBr c s k).1 ((dGo gBr c s k).2.1 k)))) ts (aI G 120 ((dGo gBr c s k).2.2)) (aI G 120 (upd (dGo gBr c s k).2.2 (dGo gBr c s k).1 ((dGo gBr c s k).2.2 k)))))).tr ?_
      refine Go.trp 59 (go_inc1 (n0 := 1) (x := (dGo gBr c s k).1) [(1, .int (nI ((dGo gBr c s k).1 + 1))), (0, .ref t), (2, .int (nI k)), (3, .int 0)] d_Txt_dropBarsBehind_56 rfl (by decide) rfl) rfl ?_
      refine (go_pick [1, 0, 2, 3] [(0, .ref t), (1, .int (nI ((dGo gBr c s k).1 + 1))), (2, .int (nI k)), (3, .int 0)] rfl).tr ?_
      refine Go.trp 62 (go_inc1 (n0 := 2) (x := k) [(2, .int (nI (k + 1))), (0, .ref t), (1, .int (nI ((dGo gBr c s k).1 + 1))), (3, .int 0)] d_Txt_dropBarsBehind_59 rfl (by decide) rfl) rfl ?_
      refine (go_pick [1, 2, 0, 3] [(0, .ref t), (1, .int (nI ((dGo gBr c s k).1 + 1))), (2, .int (nI (k + 1))), (3, .int 0)] rfl).tr ?_
      refine Go.trp 4 (go_goto 4 d_Txt_dropBarsBehind_62 (by decide)) rfl ?_
      refine (go_pick [0, 1, 2] [(0, .ref t), (1, .int (nI ((dGo gBr c s k).1 + 1))), (2, .int (nI (k + 1)))] rfl).tr ?_
      have hg : gBr (dGo gBr c s k).2.1 (dGo gBr c s k).1 k = false := by simp [gBr, *]
      have h9 := ih (k + 1) (by omega)
      rw [dGo_f hg] at h9
      exact h9
theorem e_Txt_dropBarsBehind (G : gG) (M : gM) (t tc ts n : Nat) (c s : Nat → Int32) (h1 : gRd M t = some (.inr (3, [.ref tc, .ref ts, .int (nI n)]))) (h2 : gRd M tc = some (aI G 120 c)) (h3 : gRd M ts = some (aI G 120 s)) (hcs : tc ≠ ts) (hn : n ≤ 120) : Ev G 2 m_Txt_dropBarsBehind [.ref t] M none (gWr (gWr (gWr M tc (aI G 120 (dGo gBr c s n).2.1)) ts (aI G 120 (dGo gBr c s n).2.2)) t (.inr (3, [.ref tc, .ref ts, .int (nI (dGo gBr c s n).1)]))) := by
  refine Ev.of (Nat.le_of_ble_eq_true rfl) ?_
  show EvF G 2 m_Txt_dropBarsBehind (0, [(0, .ref t)], [], M) _ _
  refine EvF.gop 1 (go_iconst (v := nI 0) d_Txt_dropBarsBehind_0 (rfl)) rfl ?_
  refine EvF.gop 2 (go_istore_n [(1, .int (nI 0)), (0, .ref t)] d_Txt_dropBarsBehind_1 rfl (by decide) rfl) rfl ?_
  refine EvF.go (go_pick [1, 0] [(0, .ref t), (1, .int (nI 0))] rfl) ?_
  refine EvF.gop 3 (go_iconst (v := nI 0) d_Txt_dropBarsBehind_2 (rfl)) rfl ?_
  refine EvF.gop 4 (go_istore_n [(2, .int (nI 0)), (0, .ref t), (1, .int (nI 0))] d_Txt_dropBarsBehind_3 rfl (by decide) rfl) rfl ?_
  refine EvF.go (go_pick [1, 2, 0] [(0, .ref t), (1, .int (nI 0)), (2, .int (nI 0))] rfl) ?_
  refine EvF.go (go_m (M' := (gWr M tc (aI G 120 c))) (gWr_id (h2)).symm) ?_
  refine EvF.go (go_m (M' := (gWr (gWr M tc (aI G 120 c)) ts (aI G 120 s))) (gWr_id ((gRd_n _ _ (Ne.symm hcs)).trans (h3))).symm) ?_
  refine EvF.go ((g_Txt_dropBarsBehind G M t tc ts n c s h1 h2 h3 hcs hn n 0 (by omega)).up (by decide)) ?_
  refine EvF.gop 66 (go_aload_n d_Txt_dropBarsBehind_65 rfl 0 rfl) rfl ?_
  refine EvF.gop 67 (go_iload_n d_Txt_dropBarsBehind_66 rfl 1 rfl) rfl ?_
  refine EvF.gop 70 (go_put [.ref tc, .ref ts, .int (nI (dGo gBr c s n).1)] f_Txt_18 ft_Txt_2 d_Txt_dropBarsBehind_67 ((gRd_n _ _ (gNe h1 h3)).trans ((gRd_n _ _ (gNe h1 h2)).trans (h1))) (rfl) (rfl) (Nat.le_of_ble_eq_true rfl) rfl) rfl ?_
  exact EvF.rv d_Txt_dropBarsBehind_70 rfl rfl
