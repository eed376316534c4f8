/-- all beginnings from k - 1 down to 0 -/
def chF (n : Nat) (bd pr : Nat → Nat → Int64) (K : Nat → Int32) : Nat → cS → cS
  | 0, C => C
  | k + 1, C => chF n bd pr K k (fnF n (bd k) (pr k) K k (n - k) (k + 1) true (C.1, C.2.1, upd C.2.2 k 0))
theorem ofIntm1 : Int32.ofInt (-1) = -1 := by decide
theorem g_Cho_choose (G : gG) (M : gM) (ch cp cn cx : Nat) (a : Nat → Nat) (dw cl ln : Int32) (tt : Int64) (K E B W ST SH L DD PP X : Nat → Int32) (n : Nat) (eN gN : Nat → Nat) (y1 : gRd M ch = some (.inr (9, [.ref cp, .ref cn, .ref cx]))) (yN : va_nd [ch, cp, cn, cx] = true) (hq : StgAt G M a dw cl ln tt (nI n) K E B W ST SH L DD PP X) (hA : ∀ x, x < 14 → ∀ y ∈ [cp, cn, cx], a x ≠ y) (hL : LnOk n eN gN E B ST SH) : ∀ (k : Nat) (C : cS), k ≤ n → Go G m_Cho_choose 5 (26, [(0, .ref ch), (1, .ref (a 0)), (2, .int (nI n)), (3, .int (nI k - 1))], [], (gWr (gWr (gWr M cp (aL G 25 C.1)) cn (aI G 25 C.2.1)) cx (aI G 25 C.2.2))) (42, [(0, .ref ch), (1, .ref (a 0)), (2, .int (nI n)), (3, .int (nI 0 - 1))], [], (gWr (gWr (gWr M cp (aL G 25 ((chF n (lnB eN gN K W ST SH L DD PP dw) (fun i j => prI PP K i j (lnB eN gN K W ST SH L DD PP dw i j)) K k C).1))) cn (aI G 25 ((chF n (lnB eN gN K W ST SH L DD PP dw) (fun i j => prI PP K i j (lnB eN gN K W ST SH L DD PP dw i j)) K k C).2.1))) cx (aI G 25 ((chF n (lnB eN gN K W ST SH L DD PP dw) (fun i j => prI PP K i j (lnB eN gN K W ST SH L DD PP dw i j)) K k C).2.2)))) := by
  intro k
  induction k with
  | zero =>
    intro C hk
    refine Go.trp 27 (go_iload_n d_Cho_choose_26 rfl 3 rfl) rfl ?_
    refine Go.trp 42 (go_if_lt_t 42 d_Cho_choose_27 (by decide) (by decide)) rfl ?_
    exact Go.rf
  | succ k ih =>
    intro C hk
    have hn24 := hL.1
    rw [nI_pred]
    refine Go.trp 27 (go_iload_n d_Cho_choose_26 rfl 3 rfl) rfl ?_
    refine Go.trp 30 (go_if_lt_f 42 d_Cho_choose_27 (by decide) (nI_pos (by omega))) rfl ?_
    refine Go.trp 31 (go_aload_n d_Cho_choose_30 rfl 0 rfl) rfl ?_
    refine Go.trp 32 (go_aload_n d_Cho_choose_31 rfl 1 rfl) rfl ?_
    refine Go.trp 33 (go_iload_n d_Cho_choose_32 rfl 3 rfl) rfl ?_
    refine Go.trp 36 (go_callV [.ref (a 0), .int (nI k)] [] c0_Cho_findNext im_Cho_findNext se_Cho_findNext lk_Cho_34 d_Cho_choose_33 rfl rfl ((gRd_n _ _ (ndN yN 0 3 rfl rfl (by decide))).trans ((gRd_n _ _ (ndN yN 0 2 rfl rfl (by decide))).trans ((gRd_n _ _ (ndN yN 0 1 rfl rfl (by decide))).trans (y1)))) (e_Cho_findNext G M ch cp cn cx a dw cl ln tt K E B W ST SH L DD PP X n k eN gN C y1 yN hq hA hL (by omega)) (by decide) rfl rfl (Nat.le_of_ble_eq_true rfl) rfl) rfl ?_
    refine Go.trp 39 (go_iinc (n0 := 3) (v := nI k - 1) [(3, .int (nI k - 1)), (0, .ref ch), (1, .ref (a 0)), (2, .int (nI n))] d_Cho_choose_36 rfl (by rw [ofIntm1, Int32.sub_eq_add_neg]) (by decide) rfl) rfl ?_
    refine (go_pick [1, 2, 3, 0] [(0, .ref ch), (1, .ref (a 0)), (2, .int (nI n)), (3, .int (nI k - 1))] rfl).tr ?_
    refine Go.trp 26 (go_goto 26 d_Cho_choose_39 (by decide)) rfl ?_
    exact ih (fnF n ((lnB eN gN K W ST SH L DD PP dw) k) ((fun i j => prI PP K i j (lnB eN gN K W ST SH L DD PP dw i j)) k) K k (n - k) (k + 1) true (C.1, C.2.1, upd C.2.2 k 0)) (by omega)
def flX (X : Nat → Int32) (P : Nat → Nat) : Nat → Nat → Int32
  | 0 => upd X 0 (nI 0)
  | i + 1 => upd (flX X P i) (i + 1) (nI (P (i + 1)))
theorem flX_at (X : Nat → Int32) {P : Nat → Nat} (h0 : P 0 = 0) : ∀ i, flX X P i i = nI (P i)
  | 0 => by rw [h0]; simp [flX, upd]
  | i + 1 => by simp [flX, upd]
/-- the chain of next breaks from 0: ln lines, at P 0, P 1 .. P ln -/
def PthOk (n ln : Nat) (P : Nat → Nat) (x : Nat → Int32) : Prop := P 0 = 0 ∧ ln ≤ 24 ∧ n ≤ 24 ∧ ∀ i, i < ln → x (P i) = nI (P (i + 1)) ∧ P i < n
theorem g_Cho_follow (G : gG) (M : gM) (ch cp cn cx : Nat) (a : Nat → Nat) (dw cl ln : Int32) (tt : Int64) (K E B W ST SH L DD PP X : Nat → Int32) (n : Nat) (p : Nat → Int64) (nn x : Nat → Int32) (l9 : Nat) (P : Nat → Nat) (y1 : gRd M ch = some (.inr (9, [.ref cp, .ref cn, .ref cx]))) (y2 : gRd M cp = some (aL G 25 p)) (y3 : gRd M cn = some (aI G 25 nn)) (y4 : gRd M cx = some (aI G 25 x)) (hq : StgAt G M a dw cl ln tt (nI n) K E B W ST SH L DD PP X) (hA : ∀ x, x < 14 → ∀ y ∈ [cp, cn, cx], a x ≠ y) (hch : ch ≠ a 5) (hn0 : nn 0 = nI l9) (hP : PthOk n l9 P x) (h05 : a 0 ≠ a 5) : ∀ r k : Nat, k + r = l9 → Go G m_Cho_follow 0 (37, [(0, .ref ch), (1, .ref (a 0)), (2, .int (nI n)), (3, .int (nI k))], [], (gWr (gWr M (a 0) (.inr (8, [.ref (a 1), .ref (a 2), .ref (a 3), .ref (a 4), .int dw, .int cl, .ref (a 5), .int (nI l9), .long (p 0)]))) (a 5) (aI G 25 (flX X P k)))) (80, [(0, .ref ch), (1, .ref (a 0)), (2, .int (nI n)), (3, .int (nI l9))], [], (gWr (gWr M (a 0) (.inr (8, [.ref (a 1), .ref (a 2), .ref (a 3), .ref (a 4), .int dw, .int cl, .ref (a 5), .int (nI l9), .long (p 0)]))) (a 5) (aI G 25 (flX X P l9)))) := by
  intro r
  induction r with
  | zero =>
    intro k hk
    rw [show k = l9 from by omega]
    refine Go.trp 38 (go_iload_n d_Cho_follow_37 rfl 3 rfl) rfl ?_
    refine Go.trp 39 (go_aload_n d_Cho_follow_38 rfl 1 rfl) rfl ?_
    refine Go.trp 42 (go_get f_Cho_63 d_Cho_follow_39 ((gRd_n _ _ h05).trans (gRd_s _ _ _)) rfl) rfl ?_
    refine Go.trp 80 (go_icmp_ge_t 80 d_Cho_follow_42 (by decide) (nI_le (Nat.le_refl l9) (by have := hP.2.1; omega))) rfl ?_
    exact Go.rf
  | succ r ih =>
    intro k hk
    have hl24 := hP.2.1
    have hn24 := hP.2.2.1
    have hpk := (hP.2.2.2 k (by omega)).2
    refine Go.trp 38 (go_iload_n d_Cho_follow_37 rfl 3 rfl) rfl ?_
    refine Go.trp 39 (go_aload_n d_Cho_follow_38 rfl 1 rfl) rfl ?_
    refine Go.trp 42 (go_get f_Cho_63 d_Cho_follow_39 ((gRd_n _ _ h05).trans (gRd_s _ _ _)) rfl) rfl ?_
    refine Go.trp 45 (go_icmp_ge_f 80 d_Cho_follow_42 (by decide) (nI_ge (by omega) (by have := hP.2.1; omega))) rfl ?_
    refine Go.trp 46 (go_aload_n d_Cho_follow_45 rfl 1 rfl) rfl ?_
    refine Go.trp 49 (go_get f_Cho_65 d_Cho_follow_46 ((gRd_n _ _ h05).trans (gRd_s _ _ _)) rfl) rfl ?_
    refine Go.trp 50 (go_iload_n d_Cho_follow_49 rfl 3 rfl) rfl ?_
    refine Go.trp 51 (go_iald (j := k) d_Cho_follow_50 (gRd_s _ _ _) (rfl) (by omega) (by omega)) rfl ?_
    refine (go_v (y := nI (P k)) (flX_at X hP.1 k)).tr ?_
    refine Go.trp 52 (go_iload_n d_Cho_follow_51 rfl 2 rfl) rfl ?_
    refine Go.trp 55 (go_icmp_ge_f 80 d_Cho_follow_52 (by decide) (nI_ge (hP.2.2.2 k (by omega)).2 (by omega))) rfl ?_
    refine Go.trp 56 (go_aload_n d_Cho_follow_55 rfl 1 rfl) rfl ?_
    refine Go.trp 59 (go_get f_Cho_65 d_Cho_follow_56 ((gRd_n _ _ h05).trans (gRd_s _ _ _)) rfl) rfl ?_
    refine Go.trp 60 (go_iload_n d_Cho_follow_59 rfl 3 rfl) rfl ?_
    refine Go.trp 61 (go_iconst (v := 1) d_Cho_follow_60 (by decide)) rfl ?_
    refine Go.trp 62 (go_iadd d_Cho_follow_61) rfl ?_
    refine (go_v (y := nI (k + 1)) (nI_1 k)).tr ?_
    refine Go.trp 63 (go_aload_n d_Cho_follow_62 rfl 0 rfl) rfl ?_
    refine Go.trp 66 (go_get f_Cho_19 d_Cho_follow_63 ((gRd_n _ _ hch).trans ((gRd_n _ _ (gNeK y1 hq.1 (by decide))).trans (y1))) rfl) rfl ?_
    refine Go.trp 67 (go_aload_n d_Cho_follow_66 rfl 1 rfl) rfl ?_
    refine Go.trp 70 (go_get f_Cho_65 d_Cho_follow_67 ((gRd_n _ _ h05).trans (gRd_s _ _ _)) rfl) rfl ?_
    refine Go.trp 71 (go_iload_n d_Cho_follow_70 rfl 3 rfl) rfl ?_
    refine Go.trp 72 (go_iald (j := k) d_Cho_follow_71 (gRd_s _ _ _) (rfl) (by omega) (by omega)) rfl ?_
    refine (go_v (y := nI (P k)) (flX_at X hP.1 k)).tr ?_
    refine Go.trp 73 (go_iald (j := (P k)) d_Cho_follow_72 ((gRd_n _ _ (Ne.symm (hA 5 (by decide) _ (by simp)))).trans ((gRd_n _ _ (Ne.symm (hA 0 (by decide) _ (by simp)))).trans (y4))) (rfl) (by omega) (by omega)) rfl ?_
    refine (go_v (y := nI (P (k + 1))) ((hP.2.2.2 k (by omega)).1)).tr ?_
    refine Go.trp 74 (go_iast (j := (k + 1)) d_Cho_follow_73 (gRd_s _ _ _) (rfl) (by omega) (by omega)) rfl ?_
    refine (go_m (M' := (gWr (gWr M (a 0) (.inr (8, [.ref (a 1), .ref (a 2), .ref (a 3), .ref (a 4), .int dw, .int cl, .ref (a 5), .int (nI l9), .long (p 0)]))) (a 5) (aI G 25 (upd (flX X P k) (k + 1) (nI (P (k + 1))))))) (gWr_wr (gWr M (a 0) (.inr (8, [.ref (a 1), .ref (a 2), .ref (a 3), .ref (a 4), .int dw, .int cl, .ref (a 5), .int (nI l9), .long (p 0)]))) (a 5) (aI G 25 (flX X P k)) (aI G 25 (upd (flX X P k) (k + 1) (nI (P (k + 1))))))).tr ?_
    refine Go.trp 77 (go_inc1 (n0 := 3) (x := k) [(3, .int (nI (k + 1))), (0, .ref ch), (1, .ref (a 0)), (2, .int (nI n))] d_Cho_follow_74 rfl (by decide) rfl) rfl ?_
    refine (go_pick [1, 2, 3, 0] [(0, .ref ch), (1, .ref (a 0)), (2, .int (nI n)), (3, .int (nI (k + 1)))] rfl).tr ?_
    refine Go.trp 37 (go_goto 37 d_Cho_follow_77 (by decide)) rfl ?_
    exact ih (k + 1) (by omega)
theorem e_Cho_follow (G : gG) (M : gM) (ch cp cn cx : Nat) (a : Nat → Nat) (dw cl ln : Int32) (tt : Int64) (K E B W ST SH L DD PP X : Nat → Int32) (n : Nat) (p : Nat → Int64) (nn x : Nat → Int32) (l9 : Nat) (P : Nat → Nat) (y1 : gRd M ch = some (.inr (9, [.ref cp, .ref cn, .ref cx]))) (y2 : gRd M cp = some (aL G 25 p)) (y3 : gRd M cn = some (aI G 25 nn)) (y4 : gRd M cx = some (aI G 25 x)) (hq : StgAt G M a dw cl ln tt (nI n) K E B W ST SH L DD PP X) (hA : ∀ x, x < 14 → ∀ y ∈ [cp, cn, cx], a x ≠ y) (hch : ch ≠ a 5) (hn0 : nn 0 = nI l9) (hP : PthOk n l9 P x) (h05 : a 0 ≠ a 5) : Ev G 0 m_Cho_follow [.ref ch, .ref (a 0)] M none (gWr (gWr M (a 0) (.inr (8, [.ref (a 1), .ref (a 2), .ref (a 3), .ref (a 4), .int dw, .int cl, .ref (a 5), .int (nI l9), .long (p 0)]))) (a 5) (aI G 25 (flX X P l9))) := by
  refine Ev.of (Nat.le_of_ble_eq_true rfl) ?_
  show EvF G 0 m_Cho_follow (0, [(0, .ref ch), (1, .ref (a 0))], [], M) _ _
  refine EvF.gop 1 (go_aload_n d_Cho_follow_0 rfl 1 rfl) rfl ?_
  refine EvF.gop 4 (go_get f_Cho_22 d_Cho_follow_1 (hq.1) rfl) rfl ?_
  refine EvF.gop 7 (go_get f_Cho_28 d_Cho_follow_4 (hq.2.1) rfl) rfl ?_
  refine EvF.gop 8 (go_istore_n [(2, .int (nI n)), (0, .ref ch), (1, .ref (a 0))] d_Cho_follow_7 rfl (by decide) rfl) rfl ?_
  refine EvF.go (go_pick [1, 2, 0] [(0, .ref ch), (1, .ref (a 0)), (2, .int (nI n))] rfl) ?_
  refine EvF.gop 9 (go_aload_n d_Cho_follow_8 rfl 1 rfl) rfl ?_
  refine EvF.gop 10 (go_aload_n d_Cho_follow_9 rfl 0 rfl) rfl ?_
  refine EvF.gop 13 (go_get f_Cho_9 d_Cho_follow_10 (y1) rfl) rfl ?_
  refine EvF.gop 14 (go_iconst (v := 0) d_Cho_follow_13 (by decide)) rfl ?_
  refine EvF.gop 15 (go_lald (j := 0) d_Cho_follow_14 (y2) (rfl) (by omega) (by omega)) rfl ?_
  refine EvF.gop 18 (go_put [.ref (a 1), .ref (a 2), .ref (a 3), .ref (a 4), .int dw, .int cl, .ref (a 5), .int ln, .long (p 0)] f_Cho_59 ft_Stg_8 d_Cho_follow_15 (hq.1) (rfl) (rfl) (Nat.le_of_ble_eq_true rfl) rfl) rfl ?_
  refine EvF.gop 19 (go_aload_n d_Cho_follow_18 rfl 1 rfl) rfl ?_
  refine EvF.gop 20 (go_aload_n d_Cho_follow_19 rfl 0 rfl) rfl ?_
  refine EvF.gop 23 (go_get f_Cho_15 d_Cho_follow_20 ((gRd_n _ _ (gNeK y1 hq.1 (by decide))).trans (y1)) rfl) rfl ?_
  refine EvF.gop 24 (go_iconst (v := 0) d_Cho_follow_23 (by decide)) rfl ?_
  refine EvF.gop 25 (go_iald (j := 0) d_Cho_follow_24 ((gRd_n _ _ (Ne.symm (hA 0 (by decide) _ (by simp)))).trans (y3)) (rfl) (by omega) (by omega)) rfl ?_
  refine EvF.go (go_v (y := nI l9) (hn0)) ?_
  refine EvF.gop 28 (go_put [.ref (a 1), .ref (a 2), .ref (a 3), .ref (a 4), .int dw, .int cl, .ref (a 5), .int (nI l9), .long (p 0)] f_Cho_63 ft_Stg_7 d_Cho_follow_25 (gRd_s _ _ _) (rfl) (rfl) (Nat.le_of_ble_eq_true rfl) rfl) rfl ?_
  refine EvF.go (go_m (M' := (gWr M (a 0) (.inr (8, [.ref (a 1), .ref (a 2), .ref (a 3), .ref (a 4), .int dw, .int cl, .ref (a 5), .int (nI l9), .long (p 0)])))) (gWr_wr M (a 0) (.inr (8, [.ref (a 1), .ref (a 2), .ref (a 3), .ref (a 4), .int dw, .int cl, .ref (a 5), .int ln, .long (p 0)])) (.inr (8, [.ref (a 1), .ref (a 2), .ref (a 3), .ref (a 4), .int dw, .int cl, .ref (a 5), .int (nI l9), .long (p 0)])))) ?_
  refine EvF.gop 29 (go_aload_n d_Cho_follow_28 rfl 1 rfl) rfl ?_
  refine EvF.gop 32 (go_get f_Cho_65 d_Cho_follow_29 (gRd_s _ _ _) rfl) rfl ?_
  refine EvF.gop 33 (go_iconst (v := nI 0) d_Cho_follow_32 (rfl)) rfl ?_
  refine EvF.gop 34 (go_iconst (v := nI 0) d_Cho_follow_33 (rfl)) rfl ?_
  refine EvF.gop 35 (go_iast (j := 0) d_Cho_follow_34 ((gRd_n _ _ (Ne.symm h05)).trans (hq.2.2.2.2.2.2.2.2.2.2.2.2)) (rfl) (by omega) (by omega)) rfl ?_
  refine EvF.gop 36 (go_iconst (v := nI 0) d_Cho_follow_35 (rfl)) rfl ?_
  refine EvF.gop 37 (go_istore_n [(3, .int (nI 0)), (0, .ref ch), (1, .ref (a 0)), (2, .int (nI n))] d_Cho_follow_36 rfl (by decide) rfl) rfl ?_
  refine EvF.go (go_pick [1, 2, 3, 0] [(0, .ref ch), (1, .ref (a 0)), (2, .int (nI n)), (3, .int (nI 0))] rfl) ?_
  refine EvF.go (g_Cho_follow G M ch cp cn cx a dw cl ln tt K E B W ST SH L DD PP X n p nn x l9 P y1 y2 y3 y4 hq hA hch hn0 hP h05 l9 0 (by omega)) ?_
  exact EvF.rv d_Cho_follow_80 rfl rfl
theorem e_Cho_chooseF (G : gG) (M : gM) (ch cp cn cx : Nat) (a : Nat → Nat) (dw cl ln : Int32) (tt : Int64) (K E B W ST SH L DD PP X : Nat → Int32) (n : Nat) (eN gN : Nat → Nat) (C : cS) (y1 : gRd M ch = some (.inr (9, [.ref cp, .ref cn, .ref cx]))) (yN : va_nd [ch, cp, cn, cx] = true) (hq : StgAt G M a dw cl ln tt (nI n) K E B W ST SH L DD PP X) (hA : ∀ x, x < 14 → ∀ y ∈ [cp, cn, cx], a x ≠ y) (hL : LnOk n eN gN E B ST SH) (h0 : 0 < n) (hx : (chF n (lnB eN gN K W ST SH L DD PP dw) (fun i j => prI PP K i j (lnB eN gN K W ST SH L DD PP dw i j)) K n (vp_updL C.1 n 0, upd C.2.1 n 0, C.2.2)).2.2 0 = 0) : Ev G 5 m_Cho_choose [.ref ch, .ref (a 0)] (gWr (gWr (gWr M cp (aL G 25 C.1)) cn (aI G 25 C.2.1)) cx (aI G 25 C.2.2)) (some (.int 0)) (gWr (gWr (gWr M cp (aL G 25 ((chF n (lnB eN gN K W ST SH L DD PP dw) (fun i j => prI PP K i j (lnB eN gN K W ST SH L DD PP dw i j)) K n (vp_updL C.1 n 0, upd C.2.1 n 0, C.2.2)).1))) cn (aI G 25 ((chF n (lnB eN gN K W ST SH L DD PP dw) (fun i j => prI PP K i j (lnB eN gN K W ST SH L DD PP dw i j)) K n (vp_updL C.1 n 0, upd C.2.1 n 0, C.2.2)).2.1))) cx (aI G 25 ((chF n (lnB eN gN K W ST SH L DD PP dw) (fun i j => prI PP K i j (lnB eN gN K W ST SH L DD PP dw i j)) K n (vp_updL C.1 n 0, upd C.2.1 n 0, C.2.2)).2.2))) := by
  have hn24 := hL.1
  refine Ev.of (Nat.le_of_ble_eq_true rfl) ?_
  show EvF G 5 m_Cho_choose (0, [(0, .ref ch), (1, .ref (a 0))], [], (gWr (gWr (gWr M cp (aL G 25 C.1)) cn (aI G 25 C.2.1)) cx (aI G 25 C.2.2))) _ _
  refine EvF.gop 1 (go_aload_n d_Cho_choose_0 rfl 1 rfl) rfl ?_
  refine EvF.gop 4 (go_get f_Cho_22 d_Cho_choose_1 ((gRd_n _ _ (hA 0 (by decide) _ (by simp))).trans ((gRd_n _ _ (hA 0 (by decide) _ (by simp))).trans ((gRd_n _ _ (hA 0 (by decide) _ (by simp))).trans (hq.1)))) rfl) rfl ?_
  refine EvF.gop 7 (go_get f_Cho_28 d_Cho_choose_4 ((gRd_n _ _ (hA 2 (by decide) _ (by simp))).trans ((gRd_n _ _ (hA 2 (by decide) _ (by simp))).trans ((gRd_n _ _ (hA 2 (by decide) _ (by simp))).trans (hq.2.1)))) rfl) rfl ?_
  refine EvF.gop 8 (go_istore_n [(2, .int (nI n)), (0, .ref ch), (1, .ref (a 0))] d_Cho_choose_7 rfl (by decide) rfl) rfl ?_
  refine EvF.go (go_pick [1, 2, 0] [(0, .ref ch), (1, .ref (a 0)), (2, .int (nI n))] rfl) ?_
  refine EvF.gop 9 (go_aload_n d_Cho_choose_8 rfl 0 rfl) rfl ?_
  refine EvF.gop 12 (go_get f_Cho_9 d_Cho_choose_9 ((gRd_n _ _ (ndN yN 0 3 rfl rfl (by decide))).trans ((gRd_n _ _ (ndN yN 0 2 rfl rfl (by decide))).trans ((gRd_n _ _ (ndN yN 0 1 rfl rfl (by decide))).trans (y1)))) rfl) rfl ?_
  refine EvF.gop 13 (go_iload_n d_Cho_choose_12 rfl 2 rfl) rfl ?_
  refine EvF.gop 14 (go_lconst (v := 0) d_Cho_choose_13 (by decide)) rfl ?_
  refine EvF.gop 15 (go_last (j := n) d_Cho_choose_14 ((gRd_n _ _ (ndN yN 1 3 rfl rfl (by decide))).trans ((gRd_n _ _ (ndN yN 1 2 rfl rfl (by decide))).trans (gRd_s _ _ _))) (rfl) (by omega) (by omega)) rfl ?_
  refine EvF.go (go_m (M' := (gWr (gWr (gWr M cp (aL G 25 (vp_updL C.1 n 0))) cn (aI G 25 C.2.1)) cx (aI G 25 C.2.2))) ((gWr_cm (gWr (gWr M cp (aL G 25 C.1)) cn (aI G 25 C.2.1)) (aI G 25 C.2.2) (aL G 25 (vp_updL C.1 n 0)) (Ne.symm (ndN yN 1 3 rfl rfl (by decide)))).trans (congrArg (fun m => gWr m cx (aI G 25 C.2.2)) ((gWr_cm (gWr M cp (aL G 25 C.1)) (aI G 25 C.2.1) (aL G 25 (vp_updL C.1 n 0)) (Ne.symm (ndN yN 1 2 rfl rfl (by decide)))).trans (congrArg (fun m => gWr m cn (aI G 25 C.2.1)) (gWr_wr M cp (aL G 25 C.1) (aL G 25 (vp_updL C.1 n 0)))))))) ?_
  refine EvF.gop 16 (go_aload_n d_Cho_choose_15 rfl 0 rfl) rfl ?_
  refine EvF.gop 19 (go_get f_Cho_15 d_Cho_choose_16 ((gRd_n _ _ (ndN yN 0 3 rfl rfl (by decide))).trans ((gRd_n _ _ (ndN yN 0 2 rfl rfl (by decide))).trans ((gRd_n _ _ (ndN yN 0 1 rfl rfl (by decide))).trans (y1)))) rfl) rfl ?_
  refine EvF.gop 20 (go_iload_n d_Cho_choose_19 rfl 2 rfl) rfl ?_
  refine EvF.gop 21 (go_iconst (v := 0) d_Cho_choose_20 (by decide)) rfl ?_
  refine EvF.gop 22 (go_iast (j := n) d_Cho_choose_21 ((gRd_n _ _ (ndN yN 2 3 rfl rfl (by decide))).trans (gRd_s _ _ _)) (rfl) (by omega) (by omega)) rfl ?_
  refine EvF.go (go_m (M' := (gWr (gWr (gWr M cp (aL G 25 (vp_updL C.1 n 0))) cn (aI G 25 (upd C.2.1 n 0))) cx (aI G 25 C.2.2))) ((gWr_cm (gWr (gWr M cp (aL G 25 (vp_updL C.1 n 0))) cn (aI G 25 C.2.1)) (aI G 25 C.2.2) (aI G 25 (upd C.2.1 n 0)) (Ne.symm (ndN yN 2 3 rfl rfl (by decide)))).trans (congrArg (fun m => gWr m cx (aI G 25 C.2.2)) (gWr_wr (gWr M cp (aL G 25 (vp_updL C.1 n 0))) cn (aI G 25 C.2.1) (aI G 25 (upd C.2.1 n 0)))))) ?_
  refine EvF.gop 23 (go_iload_n d_Cho_choose_22 rfl 2 rfl) rfl ?_
  refine EvF.gop 24 (go_iconst (v := 1) d_Cho_choose_23 (by decide)) rfl ?_
  refine EvF.gop 25 (go_isub d_Cho_choose_24) rfl ?_
  refine EvF.gop 26 (go_istore_n [(3, .int ((nI n) - 1)), (0, .ref ch), (1, .ref (a 0)), (2, .int (nI n))] d_Cho_choose_25 rfl (by decide) rfl) rfl ?_
  refine EvF.go (go_pick [1, 2, 3, 0] [(0, .ref ch), (1, .ref (a 0)), (2, .int (nI n)), (3, .int ((nI n) - 1))] rfl) ?_
  refine EvF.go (g_Cho_choose G M ch cp cn cx a dw cl ln tt K E B W ST SH L DD PP X n eN gN y1 yN hq hA hL n (vp_updL C.1 n 0, upd C.2.1 n 0, C.2.2) (Nat.le_refl n)) ?_
  refine EvF.gop 43 (go_iload_n d_Cho_choose_42 rfl 2 rfl) rfl ?_
  refine EvF.gop 46 (go_if_le_f 57 d_Cho_choose_43 (by decide) (nI_nle h0 (by omega))) rfl ?_
  refine EvF.gop 47 (go_aload_n d_Cho_choose_46 rfl 0 rfl) rfl ?_
  refine EvF.gop 50 (go_get f_Cho_19 d_Cho_choose_47 ((gRd_n _ _ (ndN yN 0 3 rfl rfl (by decide))).trans ((gRd_n _ _ (ndN yN 0 2 rfl rfl (by decide))).trans ((gRd_n _ _ (ndN yN 0 1 rfl rfl (by decide))).trans (y1)))) rfl) rfl ?_
  refine EvF.gop 51 (go_iconst (v := 0) d_Cho_choose_50 (by decide)) rfl ?_
  refine EvF.gop 52 (go_iald (j := 0) d_Cho_choose_51 (gRd_s _ _ _) (rfl) (by decide) (by decide)) rfl ?_
  refine EvF.gop 55 (go_if_ne_f 57 d_Cho_choose_52 (by decide) (hx)) rfl ?_
  refine EvF.gop 56 (go_iconst (v := 0) d_Cho_choose_55 (by decide)) rfl ?_
  exact EvF.rz d_Cho_choose_56 rfl (by decide) (rfl) (rfl)
theorem e_Cho_chooseT (G : gG) (M : gM) (ch cp cn cx : Nat) (a : Nat → Nat) (dw cl ln : Int32) (tt : Int64) (K E B W ST SH L DD PP X : Nat → Int32) (n : Nat) (eN gN : Nat → Nat) (l9 : Nat) (P : Nat → Nat) (C : cS) (y1 : gRd M ch = some (.inr (9, [.ref cp, .ref cn, .ref cx]))) (yN : va_nd [ch, cp, cn, cx] = true) (hq : StgAt G M a dw cl ln tt (nI n) K E B W ST SH L DD PP X) (hA : ∀ x, x < 14 → ∀ y ∈ [cp, cn, cx], a x ≠ y) (hL : LnOk n eN gN E B ST SH) (hx : n = 0 ∨ ¬ (chF n (lnB eN gN K W ST SH L DD PP dw) (fun i j => prI PP K i j (lnB eN gN K W ST SH L DD PP dw i j)) K n (vp_updL C.1 n 0, upd C.2.1 n 0, C.2.2)).2.2 0 = 0) (hn0 : (chF n (lnB eN gN K W ST SH L DD PP dw) (fun i j => prI PP K i j (lnB eN gN K W ST SH L DD PP dw i j)) K n (vp_updL C.1 n 0, upd C.2.1 n 0, C.2.2)).2.1 0 = nI l9) (hP : PthOk n l9 P (chF n (lnB eN gN K W ST SH L DD PP dw) (fun i j => prI PP K i j (lnB eN gN K W ST SH L DD PP dw i j)) K n (vp_updL C.1 n 0, upd C.2.1 n 0, C.2.2)).2.2) (h05 : a 0 ≠ a 5) (hch : ch ≠ a 5) : Ev G 5 m_Cho_choose [.ref ch, .ref (a 0)] (gWr (gWr (gWr M cp (aL G 25 C.1)) cn (aI G 25 C.2.1)) cx (aI G 25 C.2.2)) (some (.int 1)) (gWr (gWr (gWr (gWr (gWr M cp (aL G 25 ((chF n (lnB eN gN K W ST SH L DD PP dw) (fun i j => prI PP K i j (lnB eN gN K W ST SH L DD PP dw i j)) K n (vp_updL C.1 n 0, upd C.2.1 n 0, C.2.2)).1))) cn (aI G 25 ((chF n (lnB eN gN K W ST SH L DD PP dw) (fun i j => prI PP K i j (lnB eN gN K W ST SH L DD PP dw i j)) K n (vp_updL C.1 n 0, upd C.2.1 n 0, C.2.2)).2.1))) cx (aI G 25 ((chF n (lnB eN gN K W ST SH L DD PP dw) (fun i j => prI PP K i j (lnB eN gN K W ST SH L DD PP dw i j)) K n (vp_updL C.1 n 0, upd C.2.1 n 0, C.2.2)).2.2))) (a 0) (.inr (8, [.ref (a 1), .ref (a 2), .ref (a 3), .ref (a 4), .int dw, .int cl, .ref (a 5), .int (nI l9), .long ((chF n (lnB eN gN K W ST SH L DD PP dw) (fun i j => prI PP K i j (lnB eN gN K W ST SH L DD PP dw i j)) K n (vp_updL C.1 n 0, upd C.2.1 n 0, C.2.2)).1 0)]))) (a 5) (aI G 25 (flX X P l9))) := by
  have hn24 := hL.1
  refine Ev.of (Nat.le_of_ble_eq_true rfl) ?_
  show EvF G 5 m_Cho_choose (0, [(0, .ref ch), (1, .ref (a 0))], [], (gWr (gWr (gWr M cp (aL G 25 C.1)) cn (aI G 25 C.2.1)) cx (aI G 25 C.2.2))) _ _
  refine EvF.gop 1 (go_aload_n d_Cho_choose_0 rfl 1 rfl) rfl ?_
  refine EvF.gop 4 (go_get f_Cho_22 d_Cho_choose_1 ((gRd_n _ _ (hA 0 (by decide) _ (by simp))).trans ((gRd_n _ _ (hA 0 (by decide) _ (by simp))).trans ((gRd_n _ _ (hA 0 (by decide) _ (by simp))).trans (hq.1)))) rfl) rfl ?_
  refine EvF.gop 7 (go_get f_Cho_28 d_Cho_choose_4 ((gRd_n _ _ (hA 2 (by decide) _ (by simp))).trans ((gRd_n _ _ (hA 2 (by decide) _ (by simp))).trans ((gRd_n _ _ (hA 2 (by decide) _ (by simp))).trans (hq.2.1)))) rfl) rfl ?_
  refine EvF.gop 8 (go_istore_n [(2, .int (nI n)), (0, .ref ch), (1, .ref (a 0))] d_Cho_choose_7 rfl (by decide) rfl) rfl ?_
  refine EvF.go (go_pick [1, 2, 0] [(0, .ref ch), (1, .ref (a 0)), (2, .int (nI n))] rfl) ?_
  refine EvF.gop 9 (go_aload_n d_Cho_choose_8 rfl 0 rfl) rfl ?_
  refine EvF.gop 12 (go_get f_Cho_9 d_Cho_choose_9 ((gRd_n _ _ (ndN yN 0 3 rfl rfl (by decide))).trans ((gRd_n _ _ (ndN yN 0 2 rfl rfl (by decide))).trans ((gRd_n _ _ (ndN yN 0 1 rfl rfl (by decide))).trans (y1)))) rfl) rfl ?_
  refine EvF.gop 13 (go_iload_n d_Cho_choose_12 rfl 2 rfl) rfl ?_
  refine EvF.gop 14 (go_lconst (v := 0) d_Cho_choose_13 (by decide)) rfl ?_
  refine EvF.gop 15 (go_last (j := n) d_Cho_choose_14 ((gRd_n _ _ (ndN yN 1 3 rfl rfl (by decide))).trans ((gRd_n _ _ (ndN yN 1 2 rfl rfl (by decide))).trans (gRd_s _ _ _))) (rfl) (by omega) (by omega)) rfl ?_
  refine EvF.go (go_m (M' := (gWr (gWr (gWr M cp (aL G 25 (vp_updL C.1 n 0))) cn (aI G 25 C.2.1)) cx (aI G 25 C.2.2))) ((gWr_cm (gWr (gWr M cp (aL G 25 C.1)) cn (aI G 25 C.2.1)) (aI G 25 C.2.2) (aL G 25 (vp_updL C.1 n 0)) (Ne.symm (ndN yN 1 3 rfl rfl (by decide)))).trans (congrArg (fun m => gWr m cx (aI G 25 C.2.2)) ((gWr_cm (gWr M cp (aL G 25 C.1)) (aI G 25 C.2.1) (aL G 25 (vp_updL C.1 n 0)) (Ne.symm (ndN yN 1 2 rfl rfl (by decide)))).trans (congrArg (fun m => gWr m cn (aI G 25 C.2.1)) (gWr_wr M cp (aL G 25 C.1) (aL G 25 (vp_updL C.1 n 0)))))))) ?_
  refine EvF.gop 16 (go_aload_n d_Cho_choose_15 rfl 0 rfl) rfl ?_
  refine EvF.gop 19 (go_get f_Cho_15 d_Cho_choose_16 ((gRd_n _ _ (ndN yN 0 3 rfl rfl (by decide))).trans ((gRd_n _ _ (ndN yN 0 2 rfl rfl (by decide))).trans ((gRd_n _ _ (ndN yN 0 1 rfl rfl (by decide))).trans (y1)))) rfl) rfl ?_
  refine EvF.gop 20 (go_iload_n d_Cho_choose_19 rfl 2 rfl) rfl ?_
  refine EvF.gop 21 (go_iconst (v := 0) d_Cho_choose_20 (by decide)) rfl ?_
  refine EvF.gop 22 (go_iast (j := n) d_Cho_choose_21 ((gRd_n _ _ (ndN yN 2 3 rfl rfl (by decide))).trans (gRd_s _ _ _)) (rfl) (by omega) (by omega)) rfl ?_
  refine EvF.go (go_m (M' := (gWr (gWr (gWr M cp (aL G 25 (vp_updL C.1 n 0))) cn (aI G 25 (upd C.2.1 n 0))) cx (aI G 25 C.2.2))) ((gWr_cm (gWr (gWr M cp (aL G 25 (vp_updL C.1 n 0))) cn (aI G 25 C.2.1)) (aI G 25 C.2.2) (aI G 25 (upd C.2.1 n 0)) (Ne.symm (ndN yN 2 3 rfl rfl (by decide)))).trans (congrArg (fun m => gWr m cx (aI G 25 C.2.2)) (gWr_wr (gWr M cp (aL G 25 (vp_updL C.1 n 0))) cn (aI G 25 C.2.1) (aI G 25 (upd C.2.1 n 0)))))) ?_
  refine EvF.gop 23 (go_iload_n d_Cho_choose_22 rfl 2 rfl) rfl ?_
  refine EvF.gop 24 (go_iconst (v := 1) d_Cho_choose_23 (by decide)) rfl ?_
  refine EvF.gop 25 (go_isub d_Cho_choose_24) rfl ?_
  refine EvF.gop 26 (go_istore_n [(3, .int ((nI n) - 1)), (0, .ref ch), (1, .ref (a 0)), (2, .int (nI n))] d_Cho_choose_25 rfl (by decide) rfl) rfl ?_
  refine EvF.go (go_pick [1, 2, 3, 0] [(0, .ref ch), (1, .ref (a 0)), (2, .int (nI n)), (3, .int ((nI n) - 1))] rfl) ?_
  refine EvF.go (g_Cho_choose G M ch cp cn cx a dw cl ln tt K E B W ST SH L DD PP X n eN gN y1 yN hq hA hL n (vp_updL C.1 n 0, upd C.2.1 n 0, C.2.2) (Nat.le_refl n)) ?_
  refine EvF.gop 43 (go_iload_n d_Cho_choose_42 rfl 2 rfl) rfl ?_
  by_cases c1 : (nI n) ≤ 0
  · have c1x : n ≤ 0 := (nI_leI (a := n) (b := 0) (by omega) (by decide)).mp c1
    have c1y : ¬ 0 < n := by omega
    refine EvF.gop 57 (go_if_le_t 57 d_Cho_choose_43 (by decide) (c1)) rfl ?_
    refine EvF.gop 58 (go_aload_n d_Cho_choose_57 rfl 0 rfl) rfl ?_
    refine EvF.gop 59 (go_aload_n d_Cho_choose_58 rfl 1 rfl) rfl ?_
    refine EvF.gop 62 (go_callV [.ref (a 0)] [] c0_Cho_follow im_Cho_follow se_Cho_follow lk_Cho_38 d_Cho_choose_59 rfl rfl ((gRd_n _ _ (ndN yN 0 3 rfl rfl (by decide))).trans ((gRd_n _ _ (ndN yN 0 2 rfl rfl (by decide))).trans ((gRd_n _ _ (ndN yN 0 1 rfl rfl (by decide))).trans (y1)))) (e_Cho_follow G _ ch cp cn cx a dw cl ln tt K E B W ST SH L DD PP X n (chF n (lnB eN gN K W ST SH L DD PP dw) (fun i j => prI PP K i j (lnB eN gN K W ST SH L DD PP dw i j)) K n (vp_updL C.1 n 0, upd C.2.1 n 0, C.2.2)).1 (chF n (lnB eN gN K W ST SH L DD PP dw) (fun i j => prI PP K i j (lnB eN gN K W ST SH L DD PP dw i j)) K n (vp_updL C.1 n 0, upd C.2.1 n 0, C.2.2)).2.1 (chF n (lnB eN gN K W ST SH L DD PP dw) (fun i j => prI PP K i j (lnB eN gN K W ST SH L DD PP dw i j)) K n (vp_updL C.1 n 0, upd C.2.1 n 0, C.2.2)).2.2 l9 P ((gRd_n _ _ (ndN yN 0 3 rfl rfl (by decide))).trans ((gRd_n _ _ (ndN yN 0 2 rfl rfl (by decide))).trans ((gRd_n _ _ (ndN yN 0 1 rfl rfl (by decide))).trans (y1)))) ((gRd_n _ _ (ndN yN 1 3 rfl rfl (by decide))).trans ((gRd_n _ _ (ndN yN 1 2 rfl rfl (by decide))).trans (gRd_s _ _ _))) ((gRd_n _ _ (ndN yN 2 3 rfl rfl (by decide))).trans (gRd_s _ _ _)) (gRd_s _ _ _) (((hq.wr _ (fun x hx => hA x hx _ (by simp))).wr _ (fun x hx => hA x hx _ (by simp))).wr _ (fun x hx => hA x hx _ (by simp))) hA hch hn0 hP h05) (by decide) rfl rfl (Nat.le_of_ble_eq_true rfl) rfl) rfl ?_
    refine EvF.gop 63 (go_iconst (v := 1) d_Cho_choose_62 (by decide)) rfl ?_
    exact EvF.rz d_Cho_choose_63 rfl (by decide) (rfl) (rfl)
  · have c1x : 0 < n := Nat.lt_of_not_le (fun q9 => c1 ((nI_leI (a := n) (b := 0) (by omega) (by decide)).mpr q9))
    have c1y : ¬ n ≤ 0 := by omega
    refine EvF.gop 46 (go_if_le_f 57 d_Cho_choose_43 (by decide) (c1)) rfl ?_
    refine EvF.gop 47 (go_aload_n d_Cho_choose_46 rfl 0 rfl) rfl ?_
    refine EvF.gop 50 (go_get f_Cho_19 d_Cho_choose_47 ((gRd_n _ _ (ndN yN 0 3 rfl rfl (by decide))).trans ((gRd_n _ _ (ndN yN 0 2 rfl rfl (by decide))).trans ((gRd_n _ _ (ndN yN 0 1 rfl rfl (by decide))).trans (y1)))) rfl) rfl ?_
    refine EvF.gop 51 (go_iconst (v := 0) d_Cho_choose_50 (by decide)) rfl ?_
    refine EvF.gop 52 (go_iald (j := 0) d_Cho_choose_51 (gRd_s _ _ _) (rfl) (by decide) (by decide)) rfl ?_
    refine EvF.gop 57 (go_if_ne_t 57 d_Cho_choose_52 (by decide) (hx.resolve_left (by omega))) rfl ?_
    refine EvF.gop 58 (go_aload_n d_Cho_choose_57 rfl 0 rfl) rfl ?_
    refine EvF.gop 59 (go_aload_n d_Cho_choose_58 rfl 1 rfl) rfl ?_
    refine EvF.gop 62 (go_callV [.ref (a 0)] [] c0_Cho_follow im_Cho_follow se_Cho_follow lk_Cho_38 d_Cho_choose_59 rfl rfl ((gRd_n _ _ (ndN yN 0 3 rfl rfl (by decide))).trans ((gRd_n _ _ (ndN yN 0 2 rfl rfl (by decide))).trans ((gRd_n _ _ (ndN yN 0 1 rfl rfl (by decide))).trans (y1)))) (e_Cho_follow G _ ch cp cn cx a dw cl ln tt K E B W ST SH L DD PP X n (chF n (lnB eN gN K W ST SH L DD PP dw) (fun i j => prI PP K i j (lnB eN gN K W ST SH L DD PP dw i j)) K n (vp_updL C.1 n 0, upd C.2.1 n 0, C.2.2)).1 (chF n (lnB eN gN K W ST SH L DD PP dw) (fun i j => prI PP K i j (lnB eN gN K W ST SH L DD PP dw i j)) K n (vp_updL C.1 n 0, upd C.2.1 n 0, C.2.2)).2.1 (chF n (lnB eN gN K W ST SH L DD PP dw) (fun i j => prI PP K i j (lnB eN gN K W ST SH L DD PP dw i j)) K n (vp_updL C.1 n 0, upd C.2.1 n 0, C.2.2)).2.2 l9 P ((gRd_n _ _ (ndN yN 0 3 rfl rfl (by decide))).trans ((gRd_n _ _ (ndN yN 0 2 rfl rfl (by decide))).trans ((gRd_n _ _ (ndN yN 0 1 rfl rfl (by decide))).trans (y1)))) ((gRd_n _ _ (ndN yN 1 3 rfl rfl (by decide))).trans ((gRd_n _ _ (ndN yN 1 2 rfl rfl (by decide))).trans (gRd_s _ _ _))) ((gRd_n _ _ (ndN yN 2 3 rfl rfl (by decide))).trans (gRd_s _ _ _)) (gRd_s _ _ _) (((hq.wr _ (fun x hx => hA x hx _ (by simp))).wr _ (fun x hx => hA x hx _ (by simp))).wr _ (fun x hx => hA x hx _ (by simp))) hA hch hn0 hP h05) (by decide) rfl rfl (Nat.le_of_ble_eq_true rfl) rfl) rfl ?_
    refine EvF.gop 63 (go_iconst (v := 1) d_Cho_choose_62 (by decide)) rfl ?_
    exact EvF.rz d_Cho_choose_63 rfl (by decide) (rfl) (rfl)
