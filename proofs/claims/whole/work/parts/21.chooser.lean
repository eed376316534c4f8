abbrev cS : Type := (Nat → Int64) × (Nat → Int32) × (Nat → Int32)
def btI (C : cS) (i j : Nat) (w : Int64) : Bool := decide (C.2.2 i = 0) || (decide (lg_cmp (C.1 j + w) (C.1 i) < 0) || (decide (lg_cmp (C.1 j + w) (C.1 i) = 0) && decide (C.2.1 j + 1 < C.2.1 i)))
def kB (i j : Nat) (w : Int64) (C : cS) : cS := if btI C i j w = true then (vp_updL C.1 i (C.1 j + w), upd C.2.1 i (C.2.1 j + 1), upd C.2.2 i (nI j)) else C
theorem StgAt.wr {G : gG} {M : gM} {a : Nat → Nat} {dw cl ln : Int32} {tt : Int64} {bn : Int32} {K E B W ST SH L DD PP X : Nat → Int32} (h : StgAt G M a dw cl ln tt bn K E B W ST SH L DD PP X) {z : Nat} (e : va_E) (hz : ∀ i, i < 14 → a i ≠ z) : StgAt G (gWr M z e) a dw cl ln tt bn K E B W ST SH L DD PP X := by
  obtain ⟨h0, h1, h2, h3, h4, h5, h6, h7, h8, h9, h10, h11, h12⟩ := h
  exact ⟨(gRd_n _ _ (hz 0 (by decide))).trans h0, (gRd_n _ _ (hz 2 (by decide))).trans h1, (gRd_n _ _ (hz 6 (by decide))).trans h2, (gRd_n _ _ (hz 7 (by decide))).trans h3, (gRd_n _ _ (hz 8 (by decide))).trans h4, (gRd_n _ _ (hz 3 (by decide))).trans h5, (gRd_n _ _ (hz 9 (by decide))).trans h6, (gRd_n _ _ (hz 10 (by decide))).trans h7, (gRd_n _ _ (hz 11 (by decide))).trans h8, (gRd_n _ _ (hz 12 (by decide))).trans h9, (gRd_n _ _ (hz 13 (by decide))).trans h10, (gRd_n _ _ (hz 4 (by decide))).trans h11, (gRd_n _ _ (hz 5 (by decide))).trans h12⟩
/-- keepBetter -/
theorem e_Cho_keepBetter (G : gG) (M : gM) (ch cp cn cx : Nat) (C : cS) (i j : Nat) (w : Int64) (y1 : gRd M ch = some (.inr (9, [.ref cp, .ref cn, .ref cx]))) (yN : va_nd [ch, cp, cn, cx] = true) (hi : i < 25) (hj : j < 25) : Ev G 0 m_Cho_keepBetter [.ref ch, .int (nI i), .int (nI j), .long w] (gWr (gWr (gWr M cp (aL G 25 C.1)) cn (aI G 25 C.2.1)) cx (aI G 25 C.2.2)) none (gWr (gWr (gWr M cp (aL G 25 ((kB i j w C).1))) cn (aI G 25 ((kB i j w C).2.1))) cx (aI G 25 ((kB i j w C).2.2))) := by
  refine Ev.of (Nat.le_of_ble_eq_true rfl) ?_
  show EvF G 0 m_Cho_keepBetter (0, [(0, .ref ch), (1, .int (nI i)), (2, .int (nI j)), (3, .long w)], [], (gWr (gWr (gWr M cp (aL G 25 C.1)) cn (aI G 25 C.2.1)) cx (aI G 25 C.2.2))) _ _
  refine EvF.gop 1 (go_aload_n d_Cho_keepBetter_0 rfl 0 rfl) rfl ?_
  refine EvF.gop 4 (go_get f_Cho_9 d_Cho_keepBetter_1 ((gRd_n _ _ (ndN yN 0 3 rfl rfl (by decide))).trans ((gRd_n _ _ (ndN yN 0 2 rfl rfl (by decide))).trans ((gRd_n _ _ (ndN yN 0 1 rfl rfl (by decide))).trans (y1)))) rfl) rfl ?_
  refine EvF.gop 5 (go_iload_n d_Cho_keepBetter_4 rfl 2 rfl) rfl ?_
  refine EvF.gop 6 (go_lald (j := j) d_Cho_keepBetter_5 ((gRd_n _ _ (ndN yN 1 3 rfl rfl (by decide))).trans ((gRd_n _ _ (ndN yN 1 2 rfl rfl (by decide))).trans (gRd_s _ _ _))) (rfl) (by omega) (by omega)) rfl ?_
  refine EvF.gop 7 (go_lload_n d_Cho_keepBetter_6 rfl 3 rfl) rfl ?_
  refine EvF.gop 8 (go_ladd d_Cho_keepBetter_7) rfl ?_
  refine EvF.gop 10 (go_lstore [(5, .long ((C.1 j) + w)), (0, .ref ch), (1, .int (nI i)), (2, .int (nI j)), (3, .long w)] d_Cho_keepBetter_8 (by decide) rfl) rfl ?_
  refine EvF.go (go_pick [1, 2, 3, 4, 0] [(0, .ref ch), (1, .int (nI i)), (2, .int (nI j)), (3, .long w), (5, .long ((C.1 j) + w))] rfl) ?_
  refine EvF.gop 11 (go_aload_n d_Cho_keepBetter_10 rfl 0 rfl) rfl ?_
  refine EvF.gop 14 (go_get f_Cho_15 d_Cho_keepBetter_11 ((gRd_n _ _ (ndN yN 0 3 rfl rfl (by decide))).trans ((gRd_n _ _ (ndN yN 0 2 rfl rfl (by decide))).trans ((gRd_n _ _ (ndN yN 0 1 rfl rfl (by decide))).trans (y1)))) rfl) rfl ?_
  refine EvF.gop 15 (go_iload_n d_Cho_keepBetter_14 rfl 2 rfl) rfl ?_
  refine EvF.gop 16 (go_iald (j := j) d_Cho_keepBetter_15 ((gRd_n _ _ (ndN yN 2 3 rfl rfl (by decide))).trans (gRd_s _ _ _)) (rfl) (by omega) (by omega)) rfl ?_
  refine EvF.gop 17 (go_iconst (v := 1) d_Cho_keepBetter_16 (by decide)) rfl ?_
  refine EvF.gop 18 (go_iadd d_Cho_keepBetter_17) rfl ?_
  refine EvF.gop 20 (go_istore [(7, .int ((C.2.1 j) + 1)), (0, .ref ch), (1, .int (nI i)), (2, .int (nI j)), (3, .long w), (5, .long ((C.1 j) + w))] d_Cho_keepBetter_18 (by decide) rfl) rfl ?_
  refine EvF.go (go_pick [1, 2, 3, 4, 5, 0] [(0, .ref ch), (1, .int (nI i)), (2, .int (nI j)), (3, .long w), (5, .long ((C.1 j) + w)), (7, .int ((C.2.1 j) + 1))] rfl) ?_
  refine EvF.gop 21 (go_aload_n d_Cho_keepBetter_20 rfl 0 rfl) rfl ?_
  refine EvF.gop 24 (go_get f_Cho_19 d_Cho_keepBetter_21 ((gRd_n _ _ (ndN yN 0 3 rfl rfl (by decide))).trans ((gRd_n _ _ (ndN yN 0 2 rfl rfl (by decide))).trans ((gRd_n _ _ (ndN yN 0 1 rfl rfl (by decide))).trans (y1)))) rfl) rfl ?_
  refine EvF.gop 25 (go_iload_n d_Cho_keepBetter_24 rfl 1 rfl) rfl ?_
  refine EvF.gop 26 (go_iald (j := i) d_Cho_keepBetter_25 (gRd_s _ _ _) (rfl) (by omega) (by omega)) rfl ?_
  by_cases c1 : (C.2.2 i) = 0
  · refine EvF.gop 64 (go_if_eq_t 64 d_Cho_keepBetter_26 (by decide) (c1)) rfl ?_
    refine EvF.gop 65 (go_aload_n d_Cho_keepBetter_64 rfl 0 rfl) rfl ?_
    refine EvF.gop 68 (go_get f_Cho_9 d_Cho_keepBetter_65 ((gRd_n _ _ (ndN yN 0 3 rfl rfl (by decide))).trans ((gRd_n _ _ (ndN yN 0 2 rfl rfl (by decide))).trans ((gRd_n _ _ (ndN yN 0 1 rfl rfl (by decide))).trans (y1)))) rfl) rfl ?_
    refine EvF.gop 69 (go_iload_n d_Cho_keepBetter_68 rfl 1 rfl) rfl ?_
    refine EvF.gop 71 (go_lload d_Cho_keepBetter_69 4 rfl) rfl ?_
    refine EvF.gop 72 (go_last (j := i) d_Cho_keepBetter_71 ((gRd_n _ _ (ndN yN 1 3 rfl rfl (by decide))).trans ((gRd_n _ _ (ndN yN 1 2 rfl rfl (by decide))).trans (gRd_s _ _ _))) (rfl) (by omega) (by omega)) rfl ?_
    refine EvF.go (go_m (M' := (gWr (gWr (gWr M cp (aL G 25 (vp_updL C.1 i ((C.1 j) + w)))) cn (aI G 25 C.2.1)) cx (aI G 25 C.2.2))) ((gWr_cm (gWr (gWr M cp (aL G 25 C.1)) cn (aI G 25 C.2.1)) (aI G 25 C.2.2) (aL G 25 (vp_updL C.1 i ((C.1 j) + w))) (Ne.symm (ndN yN 1 3 rfl rfl (by decide)))).trans (congrArg (fun m => gWr m cx (aI G 25 C.2.2)) ((gWr_cm (gWr M cp (aL G 25 C.1)) (aI G 25 C.2.1) (aL G 25 (vp_updL C.1 i ((C.1 j) + w))) (Ne.symm (ndN yN 1 2 rfl rfl (by decide)))).trans (congrArg (fun m => gWr m cn (aI G 25 C.2.1)) (gWr_wr M cp (aL G 25 C.1) (aL G 25 (vp_updL C.1 i ((C.1 j) + w))))))))) ?_
    refine EvF.gop 73 (go_aload_n d_Cho_keepBetter_72 rfl 0 rfl) rfl ?_
    refine EvF.gop 76 (go_get f_Cho_15 d_Cho_keepBetter_73 ((gRd_n _ _ (ndN yN 0 3 rfl rfl (by decide))).trans ((gRd_n _ _ (ndN yN 0 2 rfl rfl (by decide))).trans ((gRd_n _ _ (ndN yN 0 1 rfl rfl (by decide))).trans (y1)))) rfl) rfl ?_
    refine EvF.gop 77 (go_iload_n d_Cho_keepBetter_76 rfl 1 rfl) rfl ?_
    refine EvF.gop 79 (go_iload d_Cho_keepBetter_77 5 rfl) rfl ?_
    refine EvF.gop 80 (go_iast (j := i) d_Cho_keepBetter_79 ((gRd_n _ _ (ndN yN 2 3 rfl rfl (by decide))).trans (gRd_s _ _ _)) (rfl) (by omega) (by omega)) rfl ?_
    refine EvF.go (go_m (M' := (gWr (gWr (gWr M cp (aL G 25 (vp_updL C.1 i ((C.1 j) + w)))) cn (aI G 25 (upd C.2.1 i ((C.2.1 j) + 1)))) cx (aI G 25 C.2.2))) ((gWr_cm (gWr (gWr M cp (aL G 25 (vp_updL C.1 i ((C.1 j) + w)))) cn (aI G 25 C.2.1)) (aI G 25 C.2.2) (aI G 25 (upd C.2.1 i ((C.2.1 j) + 1))) (Ne.symm (ndN yN 2 3 rfl rfl (by decide)))).trans (congrArg (fun m => gWr m cx (aI G 25 C.2.2)) (gWr_wr (gWr M cp (aL G 25 (vp_updL C.1 i ((C.1 j) + w)))) cn (aI G 25 C.2.1) (aI G 25 (upd C.2.1 i ((C.2.1 j) + 1))))))) ?_
    refine EvF.gop 81 (go_aload_n d_Cho_keepBetter_80 rfl 0 rfl) rfl ?_
    refine EvF.gop 84 (go_get f_Cho_19 d_Cho_keepBetter_81 ((gRd_n _ _ (ndN yN 0 3 rfl rfl (by decide))).trans ((gRd_n _ _ (ndN yN 0 2 rfl rfl (by decide))).trans ((gRd_n _ _ (ndN yN 0 1 rfl rfl (by decide))).trans (y1)))) rfl) rfl ?_
    refine EvF.gop 85 (go_iload_n d_Cho_keepBetter_84 rfl 1 rfl) rfl ?_
    refine EvF.gop 86 (go_iload_n d_Cho_keepBetter_85 rfl 2 rfl) rfl ?_
    refine EvF.gop 87 (go_iast (j := i) d_Cho_keepBetter_86 (gRd_s _ _ _) (rfl) (by omega) (by omega)) rfl ?_
    refine EvF.go (go_m (M' := (gWr (gWr (gWr M cp (aL G 25 (vp_updL C.1 i ((C.1 j) + w)))) cn (aI G 25 (upd C.2.1 i ((C.2.1 j) + 1)))) cx (aI G 25 (upd C.2.2 i (nI j))))) (gWr_wr (gWr (gWr M cp (aL G 25 (vp_updL C.1 i ((C.1 j) + w)))) cn (aI G 25 (upd C.2.1 i ((C.2.1 j) + 1)))) cx (aI G 25 C.2.2) (aI G 25 (upd C.2.2 i (nI j))))) ?_
    have hb : btI C i j w = true := by simp [btI, *]
    exact EvF.rv d_Cho_keepBetter_87 rfl (by simp [kB, hb])
  · refine EvF.gop 29 (go_if_eq_f 64 d_Cho_keepBetter_26 (by decide) (c1)) rfl ?_
    refine EvF.gop 31 (go_lload d_Cho_keepBetter_29 4 rfl) rfl ?_
    refine EvF.gop 32 (go_aload_n d_Cho_keepBetter_31 rfl 0 rfl) rfl ?_
    refine EvF.gop 35 (go_get f_Cho_9 d_Cho_keepBetter_32 ((gRd_n _ _ (ndN yN 0 3 rfl rfl (by decide))).trans ((gRd_n _ _ (ndN yN 0 2 rfl rfl (by decide))).trans ((gRd_n _ _ (ndN yN 0 1 rfl rfl (by decide))).trans (y1)))) rfl) rfl ?_
    refine EvF.gop 36 (go_iload_n d_Cho_keepBetter_35 rfl 1 rfl) rfl ?_
    refine EvF.gop 37 (go_lald (j := i) d_Cho_keepBetter_36 ((gRd_n _ _ (ndN yN 1 3 rfl rfl (by decide))).trans ((gRd_n _ _ (ndN yN 1 2 rfl rfl (by decide))).trans (gRd_s _ _ _))) (rfl) (by omega) (by omega)) rfl ?_
    refine EvF.gop 38 (go_lcmp d_Cho_keepBetter_37) rfl ?_
    by_cases c2 : (lg_cmp ((C.1 j) + w) (C.1 i)) < 0
    · have c2x : ¬ 0 ≤ (lg_cmp ((C.1 j) + w) (C.1 i)) := Int32.not_le.mpr c2
      refine EvF.gop 64 (go_if_lt_t 64 d_Cho_keepBetter_38 (by decide) (c2)) rfl ?_
      refine EvF.gop 65 (go_aload_n d_Cho_keepBetter_64 rfl 0 rfl) rfl ?_
      refine EvF.gop 68 (go_get f_Cho_9 d_Cho_keepBetter_65 ((gRd_n _ _ (ndN yN 0 3 rfl rfl (by decide))).trans ((gRd_n _ _ (ndN yN 0 2 rfl rfl (by decide))).trans ((gRd_n _ _ (ndN yN 0 1 rfl rfl (by decide))).trans (y1)))) rfl) rfl ?_
      refine EvF.gop 69 (go_iload_n d_Cho_keepBetter_68 rfl 1 rfl) rfl ?_
      refine EvF.gop 71 (go_lload d_Cho_keepBetter_69 4 rfl) rfl ?_
      refine EvF.gop 72 (go_last (j := i) d_Cho_keepBetter_71 ((gRd_n _ _ (ndN yN 1 3 rfl rfl (by decide))).trans ((gRd_n _ _ (ndN yN 1 2 rfl rfl (by decide))).trans (gRd_s _ _ _))) (rfl) (by omega) (by omega)) rfl ?_
      refine EvF.go (go_m (M' := (gWr (gWr (gWr M cp (aL G 25 (vp_updL C.1 i ((C.1 j) + w)))) cn (aI G 25 C.2.1)) cx (aI G 25 C.2.2))) ((gWr_cm (gWr (gWr M cp (aL G 25 C.1)) cn (aI G 25 C.2.1)) (aI G 25 C.2.2) (aL G 25 (vp_updL C.1 i ((C.1 j) + w))) (Ne.symm (ndN yN 1 3 rfl rfl (by decide)))).trans (congrArg (fun m => gWr m cx (aI G 25 C.2.2)) ((gWr_cm (gWr M cp (aL G 25 C.1)) (aI G 25 C.2.1) (aL G 25 (vp_updL C.1 i ((C.1 j) + w))) (Ne.symm (ndN yN 1 2 rfl rfl (by decide)))).trans (congrArg (fun m => gWr m cn (aI G 25 C.2.1)) (gWr_wr M cp (aL G 25 C.1) (aL G 25 (vp_updL C.1 i ((C.1 j) + w))))))))) ?_
      refine EvF.gop 73 (go_aload_n d_Cho_keepBetter_72 rfl 0 rfl) rfl ?_
      refine EvF.gop 76 (go_get f_Cho_15 d_Cho_keepBetter_73 ((gRd_n _ _ (ndN yN 0 3 rfl rfl (by decide))).trans ((gRd_n _ _ (ndN yN 0 2 rfl rfl (by decide))).trans ((gRd_n _ _ (ndN yN 0 1 rfl rfl (by decide))).trans (y1)))) rfl) rfl ?_
      refine EvF.gop 77 (go_iload_n d_Cho_keepBetter_76 rfl 1 rfl) rfl ?_
      refine EvF.gop 79 (go_iload d_Cho_keepBetter_77 5 rfl) rfl ?_
      refine EvF.gop 80 (go_iast (j := i) d_Cho_keepBetter_79 ((gRd_n _ _ (ndN yN 2 3 rfl rfl (by decide))).trans (gRd_s _ _ _)) (rfl) (by omega) (by omega)) rfl ?_
      refine EvF.go (go_m (M' := (gWr (gWr (gWr M cp (aL G 25 (vp_updL C.1 i ((C.1 j) + w)))) cn (aI G 25 (upd C.2.1 i ((C.2.1 j) + 1)))) cx (aI G 25 C.2.2))) ((gWr_cm (gWr (gWr M cp (aL G 25 (vp_updL C.1 i ((C.1 j) + w)))) cn (aI G 25 C.2.1)) (aI G 25 C.2.2) (aI G 25 (upd C.2.1 i ((C.2.1 j) + 1))) (Ne.symm (ndN yN 2 3 rfl rfl (by decide)))).trans (congrArg (fun m => gWr m cx (aI G 25 C.2.2)) (gWr_wr (gWr M cp (aL G 25 (vp_updL C.1 i ((C.1 j) + w)))) cn (aI G 25 C.2.1) (aI G 25 (upd C.2.1 i ((C.2.1 j) + 1))))))) ?_
      refine EvF.gop 81 (go_aload_n d_Cho_keepBetter_80 rfl 0 rfl) rfl ?_
      refine EvF.gop 84 (go_get f_Cho_19 d_Cho_keepBetter_81 ((gRd_n _ _ (ndN yN 0 3 rfl rfl (by decide))).trans ((gRd_n _ _ (ndN yN 0 2 rfl rfl (by decide))).trans ((gRd_n _ _ (ndN yN 0 1 rfl rfl (by decide))).trans (y1)))) rfl) rfl ?_
      refine EvF.gop 85 (go_iload_n d_Cho_keepBetter_84 rfl 1 rfl) rfl ?_
      refine EvF.gop 86 (go_iload_n d_Cho_keepBetter_85 rfl 2 rfl) rfl ?_
      refine EvF.gop 87 (go_iast (j := i) d_Cho_keepBetter_86 (gRd_s _ _ _) (rfl) (by omega) (by omega)) rfl ?_
      refine EvF.go (go_m (M' := (gWr (gWr (gWr M cp (aL G 25 (vp_updL C.1 i ((C.1 j) + w)))) cn (aI G 25 (upd C.2.1 i ((C.2.1 j) + 1)))) cx (aI G 25 (upd C.2.2 i (nI j))))) (gWr_wr (gWr (gWr M cp (aL G 25 (vp_updL C.1 i ((C.1 j) + w)))) cn (aI G 25 (upd C.2.1 i ((C.2.1 j) + 1)))) cx (aI G 25 C.2.2) (aI G 25 (upd C.2.2 i (nI j))))) ?_
      have hb : btI C i j w = true := by simp [btI, *]
      exact EvF.rv d_Cho_keepBetter_87 rfl (by simp [kB, hb])
    · have c2x : 0 ≤ (lg_cmp ((C.1 j) + w) (C.1 i)) := Int32.not_lt.mp c2
      refine EvF.gop 41 (go_if_lt_f 64 d_Cho_keepBetter_38 (by decide) (c2)) rfl ?_
      refine EvF.gop 43 (go_lload d_Cho_keepBetter_41 4 rfl) rfl ?_
      refine EvF.gop 44 (go_aload_n d_Cho_keepBetter_43 rfl 0 rfl) rfl ?_
      refine EvF.gop 47 (go_get f_Cho_9 d_Cho_keepBetter_44 ((gRd_n _ _ (ndN yN 0 3 rfl rfl (by decide))).trans ((gRd_n _ _ (ndN yN 0 2 rfl rfl (by decide))).trans ((gRd_n _ _ (ndN yN 0 1 rfl rfl (by decide))).trans (y1)))) rfl) rfl ?_
      refine EvF.gop 48 (go_iload_n d_Cho_keepBetter_47 rfl 1 rfl) rfl ?_
      refine EvF.gop 49 (go_lald (j := i) d_Cho_keepBetter_48 ((gRd_n _ _ (ndN yN 1 3 rfl rfl (by decide))).trans ((gRd_n _ _ (ndN yN 1 2 rfl rfl (by decide))).trans (gRd_s _ _ _))) (rfl) (by omega) (by omega)) rfl ?_
      refine EvF.gop 50 (go_lcmp d_Cho_keepBetter_49) rfl ?_
      by_cases c3 : (lg_cmp ((C.1 j) + w) (C.1 i)) = 0
      · refine EvF.gop 53 (go_if_ne_f 87 d_Cho_keepBetter_50 (by decide) (c3)) rfl ?_
        refine EvF.gop 55 (go_iload d_Cho_keepBetter_53 5 rfl) rfl ?_
        refine EvF.gop 56 (go_aload_n d_Cho_keepBetter_55 rfl 0 rfl) rfl ?_
        refine EvF.gop 59 (go_get f_Cho_15 d_Cho_keepBetter_56 ((gRd_n _ _ (ndN yN 0 3 rfl rfl (by decide))).trans ((gRd_n _ _ (ndN yN 0 2 rfl rfl (by decide))).trans ((gRd_n _ _ (ndN yN 0 1 rfl rfl (by decide))).trans (y1)))) rfl) rfl ?_
        refine EvF.gop 60 (go_iload_n d_Cho_keepBetter_59 rfl 1 rfl) rfl ?_
        refine EvF.gop 61 (go_iald (j := i) d_Cho_keepBetter_60 ((gRd_n _ _ (ndN yN 2 3 rfl rfl (by decide))).trans (gRd_s _ _ _)) (rfl) (by omega) (by omega)) rfl ?_
        by_cases c4 : (C.2.1 i) ≤ ((C.2.1 j) + 1)
        · have c4x : ¬ ((C.2.1 j) + 1) < (C.2.1 i) := Int32.not_lt.mpr c4
          refine EvF.gop 87 (go_icmp_ge_t 87 d_Cho_keepBetter_61 (by decide) (c4)) rfl ?_
          have hb : btI C i j w = false := by simp [btI, *]
          exact EvF.rv d_Cho_keepBetter_87 rfl (by simp [kB, hb])
        · have c4x : ((C.2.1 j) + 1) < (C.2.1 i) := Int32.not_le.mp c4
          refine EvF.gop 64 (go_icmp_ge_f 87 d_Cho_keepBetter_61 (by decide) (c4)) rfl ?_
          refine EvF.gop 65 (go_aload_n d_Cho_keepBetter_64 rfl 0 rfl) rfl ?_
          refine EvF.gop 68 (go_get f_Cho_9 d_Cho_keepBetter_65 ((gRd_n _ _ (ndN yN 0 3 rfl rfl (by decide))).trans ((gRd_n _ _ (ndN yN 0 2 rfl rfl (by decide))).trans ((gRd_n _ _ (ndN yN 0 1 rfl rfl (by decide))).trans (y1)))) rfl) rfl ?_
          refine EvF.gop 69 (go_iload_n d_Cho_keepBetter_68 rfl 1 rfl) rfl ?_
          refine EvF.gop 71 (go_lload d_Cho_keepBetter_69 4 rfl) rfl ?_
          refine EvF.gop 72 (go_last (j := i) d_Cho_keepBetter_71 ((gRd_n _ _ (ndN yN 1 3 rfl rfl (by decide))).trans ((gRd_n _ _ (ndN yN 1 2 rfl rfl (by decide))).trans (gRd_s _ _ _))) (rfl) (by omega) (by omega)) rfl ?_
          refine EvF.go (go_m (M' := (gWr (gWr (gWr M cp (aL G 25 (vp_updL C.1 i ((C.1 j) + w)))) cn (aI G 25 C.2.1)) cx (aI G 25 C.2.2))) ((gWr_cm (gWr (gWr M cp (aL G 25 C.1)) cn (aI G 25 C.2.1)) (aI G 25 C.2.2) (aL G 25 (vp_updL C.1 i ((C.1 j) + w))) (Ne.symm (ndN yN 1 3 rfl rfl (by decide)))).trans (congrArg (fun m => gWr m cx (aI G 25 C.2.2)) ((gWr_cm (gWr M cp (aL G 25 C.1)) (aI G 25 C.2.1) (aL G 25 (vp_updL C.1 i ((C.1 j) + w))) (Ne.symm (ndN yN 1 2 rfl rfl (by decide)))).trans (congrArg (fun m => gWr m cn (aI G 25 C.2.1)) (gWr_wr M cp (aL G 25 C.1) (aL G 25 (vp_updL C.1 i ((C.1 j) + w))))))))) ?_
          refine EvF.gop 73 (go_aload_n d_Cho_keepBetter_72 rfl 0 rfl) rfl ?_
          refine EvF.gop 76 (go_get f_Cho_15 d_Cho_keepBetter_73 ((gRd_n _ _ (ndN yN 0 3 rfl rfl (by decide))).trans ((gRd_n _ _ (ndN yN 0 2 rfl rfl (by decide))).trans ((gRd_n _ _ (ndN yN 0 1 rfl rfl (by decide))).trans (y1)))) rfl) rfl ?_
          refine EvF.gop 77 (go_iload_n d_Cho_keepBetter_76 rfl 1 rfl) rfl ?_
          refine EvF.gop 79 (go_iload d_Cho_keepBetter_77 5 rfl) rfl ?_
          refine EvF.gop 80 (go_iast (j := i) d_Cho_keepBetter_79 ((gRd_n _ _ (ndN yN 2 3 rfl rfl (by decide))).trans (gRd_s _ _ _)) (rfl) (by omega) (by omega)) rfl ?_
          refine EvF.go (go_m (M' := (gWr (gWr (gWr M cp (aL G 25 (vp_updL C.1 i ((C.1 j) + w)))) cn (aI G 25 (upd C.2.1 i ((C.2.1 j) + 1)))) cx (aI G 25 C.2.2))) ((gWr_cm (gWr (gWr M cp (aL G 25 (vp_updL C.1 i ((C.1 j) + w)))) cn (aI G 25 C.2.1)) (aI G 25 C.2.2) (aI G 25 (upd C.2.1 i ((C.2.1 j) + 1))) (Ne.symm (ndN yN 2 3 rfl rfl (by decide)))).trans (congrArg (fun m => gWr m cx (aI G 25 C.2.2)) (gWr_wr (gWr M cp (aL G 25 (vp_updL C.1 i ((C.1 j) + w)))) cn (aI G 25 C.2.1) (aI G 25 (upd C.2.1 i ((C.2.1 j) + 1))))))) ?_
          refine EvF.gop 81 (go_aload_n d_Cho_keepBetter_80 rfl 0 rfl) rfl ?_
          refine EvF.gop 84 (go_get f_Cho_19 d_Cho_keepBetter_81 ((gRd_n _ _ (ndN yN 0 3 rfl rfl (by decide))).trans ((gRd_n _ _ (ndN yN 0 2 rfl rfl (by decide))).trans ((gRd_n _ _ (ndN yN 0 1 rfl rfl (by decide))).trans (y1)))) rfl) rfl ?_
          refine EvF.gop 85 (go_iload_n d_Cho_keepBetter_84 rfl 1 rfl) rfl ?_
          refine EvF.gop 86 (go_iload_n d_Cho_keepBetter_85 rfl 2 rfl) rfl ?_
          refine EvF.gop 87 (go_iast (j := i) d_Cho_keepBetter_86 (gRd_s _ _ _) (rfl) (by omega) (by omega)) rfl ?_
          refine EvF.go (go_m (M' := (gWr (gWr (gWr M cp (aL G 25 (vp_updL C.1 i ((C.1 j) + w)))) cn (aI G 25 (upd C.2.1 i ((C.2.1 j) + 1)))) cx (aI G 25 (upd C.2.2 i (nI j))))) (gWr_wr (gWr (gWr M cp (aL G 25 (vp_updL C.1 i ((C.1 j) + w)))) cn (aI G 25 (upd C.2.1 i ((C.2.1 j) + 1)))) cx (aI G 25 C.2.2) (aI G 25 (upd C.2.2 i (nI j))))) ?_
          have hb : btI C i j w = true := by simp [btI, *]
          exact EvF.rv d_Cho_keepBetter_87 rfl (by simp [kB, hb])
      · refine EvF.gop 87 (go_if_ne_t 87 d_Cho_keepBetter_50 (by decide) (c3)) rfl ?_
        have hb : btI C i j w = false := by simp [btI, *]
        exact EvF.rv d_Cho_keepBetter_87 rfl (by simp [kB, hb])
/-- what the lines of a setting with n breaks need: ends eN, beginnings gN within the text, and divisors that are not 0 -/
def LnOk (n : Nat) (eN gN : Nat → Nat) (E B ST SH : Nat → Int32) : Prop := n ≤ 24 ∧ (∀ j, j ≤ n → E j = nI (eN j) ∧ eN j < 121) ∧ (∀ i, i ≤ n → B i = nI (gN i) ∧ gN i < 121) ∧
  ∀ i j, i < j → j ≤ n → ∀ x : Int32, (x = ST (eN j) - ST (gN i) ∨ x = SH (eN j) - SH (gN i)) → ¬ x = 0 → ¬ x.toInt64 * x.toInt64 * x.toInt64 = 0
def lnB (eN gN : Nat → Nat) (K W ST SH L DD PP : Nat → Int32) (dw : Int32) (i j : Nat) : Int64 := bdI (L (eN j) - L (gN i)) (DD (eN j) - DD (gN i)) (dfI W K PP dw j (eN j) (gN i)) (loI K (dfI W K PP dw j (eN j) (gN i)) j) (ST (eN j) - ST (gN i)) (SH (eN j) - SH (gN i)) (PP 1)
/-- the lines from i to j, j + 1 .., as findNext tries them -/
def fnF (n : Nat) (bd : Nat → Int64) (pr : Nat → Int64) (K : Nat → Int32) (i : Nat) : Nat → Nat → Bool → cS → cS
  | 0, _, _, C => C
  | r + 1, j, op, C => if op = true then fnF n bd pr K i r (j + 1) (!decide (K j = 3)) (if (decide (j = n) || !decide (C.2.2 j = 0)) = true ∧ ¬ lg_cmp (bd j) (-1) = 0 then kB i j (pr j) C else C) else C
theorem g_Cho_findNext (G : gG) (M : gM) (ch cp cn cx : Nat) (a : Nat → Nat) (dw cl ln : Int32) (tt : Int64) (K E B W ST SH L DD PP X : Nat → Int32) (n i : Nat) (eN gN : Nat → Nat) (y1 : gRd M ch = some (.inr (9, [.ref cp, .ref cn, .ref cx]))) (yN : va_nd [ch, cp, cn, cx] = true) (hq : StgAt G M a dw cl ln tt (nI n) K E B W ST SH L DD PP X) (hA : ∀ x, x < 14 → ∀ y ∈ [cp, cn, cx], a x ≠ y) (hL : LnOk n eN gN E B ST SH) (hi : i < n) : ∀ (r k : Nat) (op : Bool) (C : cS), k + r = (n + 1) → i < k → EvF G 4 m_Cho_findNext (23, [(0, .ref ch), (1, .ref (a 0)), (2, .int (nI i)), (3, .int (nI n)), (4, .int (bI op)), (5, .int (nI k))], [], (gWr (gWr (gWr M cp (aL G 25 C.1)) cn (aI G 25 C.2.1)) cx (aI G 25 C.2.2))) none (gWr (gWr (gWr M cp (aL G 25 ((fnF n (lnB eN gN K W ST SH L DD PP dw i) (fun j => prI PP K i j (lnB eN gN K W ST SH L DD PP dw i j)) K i r k op C).1))) cn (aI G 25 ((fnF n (lnB eN gN K W ST SH L DD PP dw i) (fun j => prI PP K i j (lnB eN gN K W ST SH L DD PP dw i j)) K i r k op C).2.1))) cx (aI G 25 ((fnF n (lnB eN gN K W ST SH L DD PP dw i) (fun j => prI PP K i j (lnB eN gN K W ST SH L DD PP dw i j)) K i r k op C).2.2))) := by
  intro r
  induction r with
  | zero =>
    intro k op C hk hik
    have hn24 := hL.1
    refine EvF.gop 25 (go_iload d_Cho_findNext_23 5 rfl) rfl ?_
    refine EvF.gop 26 (go_iload_n d_Cho_findNext_25 rfl 3 rfl) rfl ?_
    refine EvF.gop 123 (go_icmp_gt_t 123 d_Cho_findNext_26 (by decide) (nI_lt (by omega) (by have := hL.1; omega))) rfl ?_
    exact EvF.rv d_Cho_findNext_123 rfl (rfl)
  | succ r ih =>
    intro k op C hk hik
    have hn24 := hL.1
    refine EvF.gop 25 (go_iload d_Cho_findNext_23 5 rfl) rfl ?_
    refine EvF.gop 26 (go_iload_n d_Cho_findNext_25 rfl 3 rfl) rfl ?_
    refine EvF.gop 29 (go_icmp_gt_f 123 d_Cho_findNext_26 (by decide) (nI_nlt (by omega) (by have := hL.1; omega))) rfl ?_
    refine EvF.gop 31 (go_iload d_Cho_findNext_29 4 rfl) rfl ?_
    by_cases c1 : (bI op) = 0
    · have c1x : op = false := bI_0.mp c1
      refine EvF.gop 123 (go_if_eq_t 123 d_Cho_findNext_31 (by decide) (c1)) rfl ?_
      rw [show (fnF n (lnB eN gN K W ST SH L DD PP dw i) (fun j => prI PP K i j (lnB eN gN K W ST SH L DD PP dw i j)) K i (r + 1) k op C) = C from by rw [fnF, if_neg (by rw [‹op = false›]; decide)]]
      exact EvF.rv d_Cho_findNext_123 rfl (rfl)
    · have c1x : op = true := bI_n0.mp c1
      refine EvF.gop 34 (go_if_eq_f 123 d_Cho_findNext_31 (by decide) (c1)) rfl ?_
      refine EvF.gop 35 (go_aload_n d_Cho_findNext_34 rfl 1 rfl) rfl ?_
      refine EvF.gop 36 (go_iload_n d_Cho_findNext_35 rfl 2 rfl) rfl ?_
      refine EvF.gop 38 (go_iload d_Cho_findNext_36 5 rfl) rfl ?_
      refine EvF.gop 41 (go_callV [.int (nI i), .int (nI k)] [.long ((lnB eN gN K W ST SH L DD PP dw i) k)] c0_Stg_badness im_Stg_badness se_Stg_badness lk_Cho_42 d_Cho_findNext_38 rfl rfl ((gRd_n _ _ (hA 0 (by decide) _ (by simp))).trans ((gRd_n _ _ (hA 0 (by decide) _ (by simp))).trans ((gRd_n _ _ (hA 0 (by decide) _ (by simp))).trans (hq.1)))) (e_Stg_badness G _ a dw cl ln tt (nI n) K E B W ST SH L DD PP X i k (eN k) (gN i) (((hq.wr _ (fun x hx => hA x hx _ (by simp))).wr _ (fun x hx => hA x hx _ (by simp))).wr _ (fun x hx => hA x hx _ (by simp))) (by omega) (by omega) (hL.2.1 k (by omega)).1 (hL.2.2.1 i (by omega)).1 (hL.2.1 k (by omega)).2 (hL.2.2.1 i (by omega)).2 (hL.2.2.2 i k (by omega) (by omega))) (by decide) rfl rfl (Nat.le_of_ble_eq_true rfl) rfl) rfl ?_
      refine EvF.gop 43 (go_lstore [(6, .long ((lnB eN gN K W ST SH L DD PP dw i) k)), (0, .ref ch), (1, .ref (a 0)), (2, .int (nI i)), (3, .int (nI n)), (4, .int (bI op)), (5, .int (nI k))] d_Cho_findNext_41 (by decide) rfl) rfl ?_
      refine EvF.go (go_pick [1, 2, 3, 4, 5, 6, 0] [(0, .ref ch), (1, .ref (a 0)), (2, .int (nI i)), (3, .int (nI n)), (4, .int (bI op)), (5, .int (nI k)), (6, .long ((lnB eN gN K W ST SH L DD PP dw i) k))] rfl) ?_
      refine EvF.gop 45 (go_iload d_Cho_findNext_43 5 rfl) rfl ?_
      refine EvF.gop 46 (go_iload_n d_Cho_findNext_45 rfl 3 rfl) rfl ?_
      by_cases c2 : (nI k) = (nI n)
      · have c2x : k = n := (nI_eq (a := k) (b := n) (by omega) (by omega)).mp c2
        refine EvF.gop 59 (go_icmp_eq_t 59 d_Cho_findNext_46 (by decide) (c2)) rfl ?_
        refine EvF.gop 60 (go_iconst (v := 1) d_Cho_findNext_59 (by decide)) rfl ?_
        refine EvF.gop 64 (go_goto 64 d_Cho_findNext_60 (by decide)) rfl ?_
        refine EvF.gop 66 (go_istore [(8, .int 1), (0, .ref ch), (1, .ref (a 0)), (2, .int (nI i)), (3, .int (nI n)), (4, .int (bI op)), (5, .int (nI k)), (6, .long ((lnB eN gN K W ST SH L DD PP dw i) k))] d_Cho_findNext_64 (by decide) rfl) rfl ?_
        refine EvF.go (go_pick [1, 2, 3, 4, 5, 6, 7, 0] [(0, .ref ch), (1, .ref (a 0)), (2, .int (nI i)), (3, .int (nI n)), (4, .int (bI op)), (5, .int (nI k)), (6, .long ((lnB eN gN K W ST SH L DD PP dw i) k)), (8, .int 1)] rfl) ?_
        refine EvF.gop 68 (go_iload d_Cho_findNext_66 7 rfl) rfl ?_
        refine EvF.gop 71 (go_if_eq_f 96 d_Cho_findNext_68 (by decide) (by decide)) rfl ?_
        refine EvF.gop 73 (go_lload d_Cho_findNext_71 6 rfl) rfl ?_
        refine EvF.gop 76 (go_ldc2 (v := (-1)) d_Cho_findNext_73 kl_Cho_46) rfl ?_
        refine EvF.gop 77 (go_lcmp d_Cho_findNext_76) rfl ?_
        by_cases c3 : (lg_cmp ((lnB eN gN K W ST SH L DD PP dw i) k) (-1)) = 0
        · refine EvF.gop 96 (go_if_eq_t 96 d_Cho_findNext_77 (by decide) (c3)) rfl ?_
          refine EvF.gop 97 (go_aload_n d_Cho_findNext_96 rfl 1 rfl) rfl ?_
          refine EvF.gop 100 (go_get f_Cho_22 d_Cho_findNext_97 ((gRd_n _ _ (hA 0 (by decide) _ (by simp))).trans ((gRd_n _ _ (hA 0 (by decide) _ (by simp))).trans ((gRd_n _ _ (hA 0 (by decide) _ (by simp))).trans (hq.1)))) rfl) rfl ?_
          refine EvF.gop 103 (go_get f_Cho_56 d_Cho_findNext_100 ((gRd_n _ _ (hA 2 (by decide) _ (by simp))).trans ((gRd_n _ _ (hA 2 (by decide) _ (by simp))).trans ((gRd_n _ _ (hA 2 (by decide) _ (by simp))).trans (hq.2.1)))) rfl) rfl ?_
          refine EvF.gop 105 (go_iload d_Cho_findNext_103 5 rfl) rfl ?_
          refine EvF.gop 106 (go_iald (j := k) d_Cho_findNext_105 ((gRd_n _ _ (hA 6 (by decide) _ (by simp))).trans ((gRd_n _ _ (hA 6 (by decide) _ (by simp))).trans ((gRd_n _ _ (hA 6 (by decide) _ (by simp))).trans (hq.2.2.1)))) (rfl) (by omega) (by omega)) rfl ?_
          refine EvF.gop 107 (go_iconst (v := 3) d_Cho_findNext_106 (by decide)) rfl ?_
          by_cases c4 : (K k) = 3
          · refine EvF.gop 114 (go_icmp_eq_t 114 d_Cho_findNext_107 (by decide) (c4)) rfl ?_
            refine EvF.gop 115 (go_iconst (v := bI false) d_Cho_findNext_114 (rfl)) rfl ?_
            refine EvF.gop 117 (go_istore [(4, .int (bI false)), (0, .ref ch), (1, .ref (a 0)), (2, .int (nI i)), (3, .int (nI n)), (5, .int (nI k)), (6, .long ((lnB eN gN K W ST SH L DD PP dw i) k)), (8, .int 1)] d_Cho_findNext_115 (by decide) rfl) rfl ?_
            refine EvF.go (go_pick [1, 2, 3, 4, 0, 5, 6, 7] [(0, .ref ch), (1, .ref (a 0)), (2, .int (nI i)), (3, .int (nI n)), (4, .int (bI false)), (5, .int (nI k)), (6, .long ((lnB eN gN K W ST SH L DD PP dw i) k)), (8, .int 1)] rfl) ?_
            refine EvF.gop 120 (go_inc1 (n0 := 5) (x := k) [(5, .int (nI (k + 1))), (0, .ref ch), (1, .ref (a 0)), (2, .int (nI i)), (3, .int (nI n)), (4, .int (bI false)), (6, .long ((lnB eN gN K W ST SH L DD PP dw i) k)), (8, .int 1)] d_Cho_findNext_117 rfl (by decide) rfl) rfl ?_
            refine EvF.go (go_pick [1, 2, 3, 4, 5, 0, 6, 7] [(0, .ref ch), (1, .ref (a 0)), (2, .int (nI i)), (3, .int (nI n)), (4, .int (bI false)), (5, .int (nI (k + 1))), (6, .long ((lnB eN gN K W ST SH L DD PP dw i) k)), (8, .int 1)] rfl) ?_
            refine EvF.gop 23 (go_goto 23 d_Cho_findNext_120 (by decide)) rfl ?_
            refine EvF.go (go_pick [0, 1, 2, 3, 4, 5] [(0, .ref ch), (1, .ref (a 0)), (2, .int (nI i)), (3, .int (nI n)), (4, .int (bI false)), (5, .int (nI (k + 1)))] rfl) ?_
            rw [show (fnF n (lnB eN gN K W ST SH L DD PP dw i) (fun j => prI PP K i j (lnB eN gN K W ST SH L DD PP dw i j)) K i (r + 1) k op C) = (fnF n (lnB eN gN K W ST SH L DD PP dw i) (fun j => prI PP K i j (lnB eN gN K W ST SH L DD PP dw i j)) K i r (k + 1) false C) from by rw [fnF, if_pos (by assumption), if_neg (by clear ih; simp_all), (decide_eq_true ‹K k = 3›)]; rfl]
            exact ih (k + 1) _ _ (by omega) (by omega)
          · refine EvF.gop 110 (go_icmp_eq_f 114 d_Cho_findNext_107 (by decide) (c4)) rfl ?_
            refine EvF.gop 111 (go_iconst (v := bI true) d_Cho_findNext_110 (rfl)) rfl ?_
            refine EvF.gop 115 (go_goto 115 d_Cho_findNext_111 (by decide)) rfl ?_
            refine EvF.gop 117 (go_istore [(4, .int (bI true)), (0, .ref ch), (1, .ref (a 0)), (2, .int (nI i)), (3, .int (nI n)), (5, .int (nI k)), (6, .long ((lnB eN gN K W ST SH L DD PP dw i) k)), (8, .int 1)] d_Cho_findNext_115 (by decide) rfl) rfl ?_
            refine EvF.go (go_pick [1, 2, 3, 4, 0, 5, 6, 7] [(0, .ref ch), (1, .ref (a 0)), (2, .int (nI i)), (3, .int (nI n)), (4, .int (bI true)), (5, .int (nI k)), (6, .long ((lnB eN gN K W ST SH L DD PP dw i) k)), (8, .int 1)] rfl) ?_
            refine EvF.gop 120 (go_inc1 (n0 := 5) (x := k) [(5, .int (nI (k + 1))), (0, .ref ch), (1, .ref (a 0)), (2, .int (nI i)), (3, .int (nI n)), (4, .int (bI true)), (6, .long ((lnB eN gN K W ST SH L DD PP dw i) k)), (8, .int 1)] d_Cho_findNext_117 rfl (by decide) rfl) rfl ?_
            refine EvF.go (go_pick [1, 2, 3, 4, 5, 0, 6, 7] [(0, .ref ch), (1, .ref (a 0)), (2, .int (nI i)), (3, .int (nI n)), (4, .int (bI true)), (5, .int (nI (k + 1))), (6, .long ((lnB eN gN K W ST SH L DD PP dw i) k)), (8, .int 1)] rfl) ?_
            refine EvF.gop 23 (go_goto 23 d_Cho_findNext_120 (by decide)) rfl ?_
            refine EvF.go (go_pick [0, 1, 2, 3, 4, 5] [(0, .ref ch), (1, .ref (a 0)), (2, .int (nI i)), (3, .int (nI n)), (4, .int (bI true)), (5, .int (nI (k + 1)))] rfl) ?_
            rw [show (fnF n (lnB eN gN K W ST SH L DD PP dw i) (fun j => prI PP K i j (lnB eN gN K W ST SH L DD PP dw i j)) K i (r + 1) k op C) = (fnF n (lnB eN gN K W ST SH L DD PP dw i) (fun j => prI PP K i j (lnB eN gN K W ST SH L DD PP dw i j)) K i r (k + 1) true C) from by rw [fnF, if_pos (by assumption), if_neg (by clear ih; simp_all), (decide_eq_false ‹¬ K k = 3›)]; rfl]
            exact ih (k + 1) _ _ (by omega) (by omega)
        · refine EvF.gop 80 (go_if_eq_f 96 d_Cho_findNext_77 (by decide) (c3)) rfl ?_
          refine EvF.gop 81 (go_aload_n d_Cho_findNext_80 rfl 0 rfl) rfl ?_
          refine EvF.gop 82 (go_iload_n d_Cho_findNext_81 rfl 2 rfl) rfl ?_
          refine EvF.gop 84 (go_iload d_Cho_findNext_82 5 rfl) rfl ?_
          refine EvF.gop 85 (go_aload_n d_Cho_findNext_84 rfl 1 rfl) rfl ?_
          refine EvF.gop 86 (go_iload_n d_Cho_findNext_85 rfl 2 rfl) rfl ?_
          refine EvF.gop 88 (go_iload d_Cho_findNext_86 5 rfl) rfl ?_
          refine EvF.gop 90 (go_lload d_Cho_findNext_88 6 rfl) rfl ?_
          refine EvF.gop 93 (go_callV [.int (nI i), .int (nI k), .long ((lnB eN gN K W ST SH L DD PP dw i) k)] [.long (prI PP K i k ((lnB eN gN K W ST SH L DD PP dw i) k)), .int (nI k), .int (nI i), .ref ch] c0_Stg_price im_Stg_price se_Stg_price lk_Cho_48 d_Cho_findNext_90 rfl rfl ((gRd_n _ _ (hA 0 (by decide) _ (by simp))).trans ((gRd_n _ _ (hA 0 (by decide) _ (by simp))).trans ((gRd_n _ _ (hA 0 (by decide) _ (by simp))).trans (hq.1)))) (e_Stg_price G _ a dw cl ln tt (nI n) K E B W ST SH L DD PP X i k ((lnB eN gN K W ST SH L DD PP dw i) k) (((hq.wr _ (fun x hx => hA x hx _ (by simp))).wr _ (fun x hx => hA x hx _ (by simp))).wr _ (fun x hx => hA x hx _ (by simp))) (by omega) (by omega)) (by decide) rfl rfl (Nat.le_of_ble_eq_true rfl) rfl) rfl ?_
          refine EvF.gop 96 (go_callV [.int (nI i), .int (nI k), .long (prI PP K i k ((lnB eN gN K W ST SH L DD PP dw i) k))] [] c0_Cho_keepBetter im_Cho_keepBetter se_Cho_keepBetter lk_Cho_52 d_Cho_findNext_93 rfl rfl ((gRd_n _ _ (ndN yN 0 3 rfl rfl (by decide))).trans ((gRd_n _ _ (ndN yN 0 2 rfl rfl (by decide))).trans ((gRd_n _ _ (ndN yN 0 1 rfl rfl (by decide))).trans (y1)))) (e_Cho_keepBetter G M ch cp cn cx C i k (prI PP K i k ((lnB eN gN K W ST SH L DD PP dw i) k)) y1 yN (by omega) (by omega)) (by decide) rfl rfl (Nat.le_of_ble_eq_true rfl) rfl) rfl ?_
          refine EvF.gop 97 (go_aload_n d_Cho_findNext_96 rfl 1 rfl) rfl ?_
          refine EvF.gop 100 (go_get f_Cho_22 d_Cho_findNext_97 ((gRd_n _ _ (hA 0 (by decide) _ (by simp))).trans ((gRd_n _ _ (hA 0 (by decide) _ (by simp))).trans ((gRd_n _ _ (hA 0 (by decide) _ (by simp))).trans (hq.1)))) rfl) rfl ?_
          refine EvF.gop 103 (go_get f_Cho_56 d_Cho_findNext_100 ((gRd_n _ _ (hA 2 (by decide) _ (by simp))).trans ((gRd_n _ _ (hA 2 (by decide) _ (by simp))).trans ((gRd_n _ _ (hA 2 (by decide) _ (by simp))).trans (hq.2.1)))) rfl) rfl ?_
          refine EvF.gop 105 (go_iload d_Cho_findNext_103 5 rfl) rfl ?_
          refine EvF.gop 106 (go_iald (j := k) d_Cho_findNext_105 ((gRd_n _ _ (hA 6 (by decide) _ (by simp))).trans ((gRd_n _ _ (hA 6 (by decide) _ (by simp))).trans ((gRd_n _ _ (hA 6 (by decide) _ (by simp))).trans (hq.2.2.1)))) (rfl) (by omega) (by omega)) rfl ?_
          refine EvF.gop 107 (go_iconst (v := 3) d_Cho_findNext_106 (by decide)) rfl ?_
          by_cases c5 : (K k) = 3
          · refine EvF.gop 114 (go_icmp_eq_t 114 d_Cho_findNext_107 (by decide) (c5)) rfl ?_
            refine EvF.gop 115 (go_iconst (v := bI false) d_Cho_findNext_114 (rfl)) rfl ?_
            refine EvF.gop 117 (go_istore [(4, .int (bI false)), (0, .ref ch), (1, .ref (a 0)), (2, .int (nI i)), (3, .int (nI n)), (5, .int (nI k)), (6, .long ((lnB eN gN K W ST SH L DD PP dw i) k)), (8, .int 1)] d_Cho_findNext_115 (by decide) rfl) rfl ?_
            refine EvF.go (go_pick [1, 2, 3, 4, 0, 5, 6, 7] [(0, .ref ch), (1, .ref (a 0)), (2, .int (nI i)), (3, .int (nI n)), (4, .int (bI false)), (5, .int (nI k)), (6, .long ((lnB eN gN K W ST SH L DD PP dw i) k)), (8, .int 1)] rfl) ?_
            refine EvF.gop 120 (go_inc1 (n0 := 5) (x := k) [(5, .int (nI (k + 1))), (0, .ref ch), (1, .ref (a 0)), (2, .int (nI i)), (3, .int (nI n)), (4, .int (bI false)), (6, .long ((lnB eN gN K W ST SH L DD PP dw i) k)), (8, .int 1)] d_Cho_findNext_117 rfl (by decide) rfl) rfl ?_
            refine EvF.go (go_pick [1, 2, 3, 4, 5, 0, 6, 7] [(0, .ref ch), (1, .ref (a 0)), (2, .int (nI i)), (3, .int (nI n)), (4, .int (bI false)), (5, .int (nI (k + 1))), (6, .long ((lnB eN gN K W ST SH L DD PP dw i) k)), (8, .int 1)] rfl) ?_
            refine EvF.gop 23 (go_goto 23 d_Cho_findNext_120 (by decide)) rfl ?_
            refine EvF.go (go_pick [0, 1, 2, 3, 4, 5] [(0, .ref ch), (1, .ref (a 0)), (2, .int (nI i)), (3, .int (nI n)), (4, .int (bI false)), (5, .int (nI (k + 1)))] rfl) ?_
            rw [show (fnF n (lnB eN gN K W ST SH L DD PP dw i) (fun j => prI PP K i j (lnB eN gN K W ST SH L DD PP dw i j)) K i (r + 1) k op C) = (fnF n (lnB eN gN K W ST SH L DD PP dw i) (fun j => prI PP K i j (lnB eN gN K W ST SH L DD PP dw i j)) K i r (k + 1) false (kB i k (prI PP K i k ((lnB eN gN K W ST SH L DD PP dw i) k)) C)) from by rw [fnF, if_pos (by assumption), if_pos (by clear ih; simp_all), (decide_eq_true ‹K k = 3›)]; rfl]
            exact ih (k + 1) _ _ (by omega) (by omega)
          · refine EvF.gop 110 (go_icmp_eq_f 114 d_Cho_findNext_107 (by decide) (c5)) rfl ?_
            refine EvF.gop 111 (go_iconst (v := bI true) d_Cho_findNext_110 (rfl)) rfl ?_
            refine EvF.gop 115 (go_goto 115 d_Cho_findNext_111 (by decide)) rfl ?_
            refine EvF.gop 117 (go_istore [(4, .int (bI true)), (0, .ref ch), (1, .ref (a 0)), (2, .int (nI i)), (3, .int (nI n)), (5, .int (nI k)), (6, .long ((lnB eN gN K W ST SH L DD PP dw i) k)), (8, .int 1)] d_Cho_findNext_115 (by decide) rfl) rfl ?_
            refine EvF.go (go_pick [1, 2, 3, 4, 0, 5, 6, 7] [(0, .ref ch), (1, .ref (a 0)), (2, .int (nI i)), (3, .int (nI n)), (4, .int (bI true)), (5, .int (nI k)), (6, .long ((lnB eN gN K W ST SH L DD PP dw i) k)), (8, .int 1)] rfl) ?_
            refine EvF.gop 120 (go_inc1 (n0 := 5) (x := k) [(5, .int (nI (k + 1))), (0, .ref ch), (1, .ref (a 0)), (2, .int (nI i)), (3, .int (nI n)), (4, .int (bI true)), (6, .long ((lnB eN gN K W ST SH L DD PP dw i) k)), (8, .int 1)] d_Cho_findNext_117 rfl (by decide) rfl) rfl ?_
            refine EvF.go (go_pick [1, 2, 3, 4, 5, 0, 6, 7] [(0, .ref ch), (1, .ref (a 0)), (2, .int (nI i)), (3, .int (nI n)), (4, .int (bI true)), (5, .int (nI (k + 1))), (6, .long ((lnB eN gN K W ST SH L DD PP dw i) k)), (8, .int 1)] rfl) ?_
            refine EvF.gop 23 (go_goto 23 d_Cho_findNext_120 (by decide)) rfl ?_
            refine EvF.go (go_pick [0, 1, 2, 3, 4, 5] [(0, .ref ch), (1, .ref (a 0)), (2, .int (nI i)), (3, .int (nI n)), (4, .int (bI true)), (5, .int (nI (k + 1)))] rfl) ?_
            rw [show (fnF n (lnB eN gN K W ST SH L DD PP dw i) (fun j => prI PP K i j (lnB eN gN K W ST SH L DD PP dw i j)) K i (r + 1) k op C) = (fnF n (lnB eN gN K W ST SH L DD PP dw i) (fun j => prI PP K i j (lnB eN gN K W ST SH L DD PP dw i j)) K i r (k + 1) true (kB i k (prI PP K i k ((lnB eN gN K W ST SH L DD PP dw i) k)) C)) from by rw [fnF, if_pos (by assumption), if_pos (by clear ih; simp_all), (decide_eq_false ‹¬ K k = 3›)]; rfl]
            exact ih (k + 1) _ _ (by omega) (by omega)
      · have c2x : ¬ k = n := fun q9 => c2 ((nI_eq (a := k) (b := n) (by omega) (by omega)).mpr q9)
        refine EvF.gop 49 (go_icmp_eq_f 59 d_Cho_findNext_46 (by decide) (c2)) rfl ?_
        refine EvF.gop 50 (go_aload_n d_Cho_findNext_49 rfl 0 rfl) rfl ?_
        refine EvF.gop 53 (go_get f_Cho_19 d_Cho_findNext_50 ((gRd_n _ _ (ndN yN 0 3 rfl rfl (by decide))).trans ((gRd_n _ _ (ndN yN 0 2 rfl rfl (by decide))).trans ((gRd_n _ _ (ndN yN 0 1 rfl rfl (by decide))).trans (y1)))) rfl) rfl ?_
        refine EvF.gop 55 (go_iload d_Cho_findNext_53 5 rfl) rfl ?_
        refine EvF.gop 56 (go_iald (j := k) d_Cho_findNext_55 (gRd_s _ _ _) (rfl) (by omega) (by omega)) rfl ?_
        by_cases c6 : (C.2.2 k) = 0
        · refine EvF.gop 63 (go_if_eq_t 63 d_Cho_findNext_56 (by decide) (c6)) rfl ?_
          refine EvF.gop 64 (go_iconst (v := 0) d_Cho_findNext_63 (by decide)) rfl ?_
          refine EvF.gop 66 (go_istore [(8, .int 0), (0, .ref ch), (1, .ref (a 0)), (2, .int (nI i)), (3, .int (nI n)), (4, .int (bI op)), (5, .int (nI k)), (6, .long ((lnB eN gN K W ST SH L DD PP dw i) k))] d_Cho_findNext_64 (by decide) rfl) rfl ?_
          refine EvF.go (go_pick [1, 2, 3, 4, 5, 6, 7, 0] [(0, .ref ch), (1, .ref (a 0)), (2, .int (nI i)), (3, .int (nI n)), (4, .int (bI op)), (5, .int (nI k)), (6, .long ((lnB eN gN K W ST SH L DD PP dw i) k)), (8, .int 0)] rfl) ?_
          refine EvF.gop 68 (go_iload d_Cho_findNext_66 7 rfl) rfl ?_
          refine EvF.gop 96 (go_if_eq_t 96 d_Cho_findNext_68 (by decide) (by decide)) rfl ?_
          refine EvF.gop 97 (go_aload_n d_Cho_findNext_96 rfl 1 rfl) rfl ?_
          refine EvF.gop 100 (go_get f_Cho_22 d_Cho_findNext_97 ((gRd_n _ _ (hA 0 (by decide) _ (by simp))).trans ((gRd_n _ _ (hA 0 (by decide) _ (by simp))).trans ((gRd_n _ _ (hA 0 (by decide) _ (by simp))).trans (hq.1)))) rfl) rfl ?_
          refine EvF.gop 103 (go_get f_Cho_56 d_Cho_findNext_100 ((gRd_n _ _ (hA 2 (by decide) _ (by simp))).trans ((gRd_n _ _ (hA 2 (by decide) _ (by simp))).trans ((gRd_n _ _ (hA 2 (by decide) _ (by simp))).trans (hq.2.1)))) rfl) rfl ?_
          refine EvF.gop 105 (go_iload d_Cho_findNext_103 5 rfl) rfl ?_
          refine EvF.gop 106 (go_iald (j := k) d_Cho_findNext_105 ((gRd_n _ _ (hA 6 (by decide) _ (by simp))).trans ((gRd_n _ _ (hA 6 (by decide) _ (by simp))).trans ((gRd_n _ _ (hA 6 (by decide) _ (by simp))).trans (hq.2.2.1)))) (rfl) (by omega) (by omega)) rfl ?_
          refine EvF.gop 107 (go_iconst (v := 3) d_Cho_findNext_106 (by decide)) rfl ?_
          by_cases c7 : (K k) = 3
          · refine EvF.gop 114 (go_icmp_eq_t 114 d_Cho_findNext_107 (by decide) (c7)) rfl ?_
            refine EvF.gop 115 (go_iconst (v := bI false) d_Cho_findNext_114 (rfl)) rfl ?_
            refine EvF.gop 117 (go_istore [(4, .int (bI false)), (0, .ref ch), (1, .ref (a 0)), (2, .int (nI i)), (3, .int (nI n)), (5, .int (nI k)), (6, .long ((lnB eN gN K W ST SH L DD PP dw i) k)), (8, .int 0)] d_Cho_findNext_115 (by decide) rfl) rfl ?_
            refine EvF.go (go_pick [1, 2, 3, 4, 0, 5, 6, 7] [(0, .ref ch), (1, .ref (a 0)), (2, .int (nI i)), (3, .int (nI n)), (4, .int (bI false)), (5, .int (nI k)), (6, .long ((lnB eN gN K W ST SH L DD PP dw i) k)), (8, .int 0)] rfl) ?_
            refine EvF.gop 120 (go_inc1 (n0 := 5) (x := k) [(5, .int (nI (k + 1))), (0, .ref ch), (1, .ref (a 0)), (2, .int (nI i)), (3, .int (nI n)), (4, .int (bI false)), (6, .long ((lnB eN gN K W ST SH L DD PP dw i) k)), (8, .int 0)] d_Cho_findNext_117 rfl (by decide) rfl) rfl ?_
            refine EvF.go (go_pick [1, 2, 3, 4, 5, 0, 6, 7] [(0, .ref ch), (1, .ref (a 0)), (2, .int (nI i)), (3, .int (nI n)), (4, .int (bI false)), (5, .int (nI (k + 1))), (6, .long ((lnB eN gN K W ST SH L DD PP dw i) k)), (8, .int 0)] rfl) ?_
            refine EvF.gop 23 (go_goto 23 d_Cho_findNext_120 (by decide)) rfl ?_
            refine EvF.go (go_pick [0, 1, 2, 3, 4, 5] [(0, .ref ch), (1, .ref (a 0)), (2, .int (nI i)), (3, .int (nI n)), (4, .int (bI false)), (5, .int (nI (k + 1)))] rfl) ?_
            rw [show (fnF n (lnB eN gN K W ST SH L DD PP dw i) (fun j => prI PP K i j (lnB eN gN K W ST SH L DD PP dw i j)) K i (r + 1) k op C) = (fnF n (lnB eN gN K W ST SH L DD PP dw i) (fun j => prI PP K i j (lnB eN gN K W ST SH L DD PP dw i j)) K i r (k + 1) false C) from by rw [fnF, if_pos (by assumption), if_neg (by clear ih; simp_all), (decide_eq_true ‹K k = 3›)]; rfl]
            exact ih (k + 1) _ _ (by omega) (by omega)
          · refine EvF.gop 110 (go_icmp_eq_f 114 d_Cho_findNext_107 (by decide) (c7)) rfl ?_
            refine EvF.gop 111 (go_iconst (v := bI true) d_Cho_findNext_110 (rfl)) rfl ?_
            refine EvF.gop 115 (go_goto 115 d_Cho_findNext_111 (by decide)) rfl ?_
            refine EvF.gop 117 (go_istore [(4, .int (bI true)), (0, .ref ch), (1, .ref (a 0)), (2, .int (nI i)), (3, .int (nI n)), (5, .int (nI k)), (6, .long ((lnB eN gN K W ST SH L DD PP dw i) k)), (8, .int 0)] d_Cho_findNext_115 (by decide) rfl) rfl ?_
            refine EvF.go (go_pick [1, 2, 3, 4, 0, 5, 6, 7] [(0, .ref ch), (1, .ref (a 0)), (2, .int (nI i)), (3, .int (nI n)), (4, .int (bI true)), (5, .int (nI k)), (6, .long ((lnB eN gN K W ST SH L DD PP dw i) k)), (8, .int 0)] rfl) ?_
            refine EvF.gop 120 (go_inc1 (n0 := 5) (x := k) [(5, .int (nI (k + 1))), (0, .ref ch), (1, .ref (a 0)), (2, .int (nI i)), (3, .int (nI n)), (4, .int (bI true)), (6, .long ((lnB eN gN K W ST SH L DD PP dw i) k)), (8, .int 0)] d_Cho_findNext_117 rfl (by decide) rfl) rfl ?_
            refine EvF.go (go_pick [1, 2, 3, 4, 5, 0, 6, 7] [(0, .ref ch), (1, .ref (a 0)), (2, .int (nI i)), (3, .int (nI n)), (4, .int (bI true)), (5, .int (nI (k + 1))), (6, .long ((lnB eN gN K W ST SH L DD PP dw i) k)), (8, .int 0)] rfl) ?_
            refine EvF.gop 23 (go_goto 23 d_Cho_findNext_120 (by decide)) rfl ?_
            refine EvF.go (go_pick [0, 1, 2, 3, 4, 5] [(0, .ref ch), (1, .ref (a 0)), (2, .int (nI i)), (3, .int (nI n)), (4, .int (bI true)), (5, .int (nI (k + 1)))] rfl) ?_
            rw [show (fnF n (lnB eN gN K W ST SH L DD PP dw i) (fun j => prI PP K i j (lnB eN gN K W ST SH L DD PP dw i j)) K i (r + 1) k op C) = (fnF n (lnB eN gN K W ST SH L DD PP dw i) (fun j => prI PP K i j (lnB eN gN K W ST SH L DD PP dw i j)) K i r (k + 1) true C) from by rw [fnF, if_pos (by assumption), if_neg (by clear ih; simp_all), (decide_eq_false ‹¬ K k = 3›)]; rfl]
            exact ih (k + 1) _ _ (by omega) (by omega)
        · refine EvF.gop 59 (go_if_eq_f 63 d_Cho_findNext_56 (by decide) (c6)) rfl ?_
          refine EvF.gop 60 (go_iconst (v := 1) d_Cho_findNext_59 (by decide)) rfl ?_
          refine EvF.gop 64 (go_goto 64 d_Cho_findNext_60 (by decide)) rfl ?_
          refine EvF.gop 66 (go_istore [(8, .int 1), (0, .ref ch), (1, .ref (a 0)), (2, .int (nI i)), (3, .int (nI n)), (4, .int (bI op)), (5, .int (nI k)), (6, .long ((lnB eN gN K W ST SH L DD PP dw i) k))] d_Cho_findNext_64 (by decide) rfl) rfl ?_
          refine EvF.go (go_pick [1, 2, 3, 4, 5, 6, 7, 0] [(0, .ref ch), (1, .ref (a 0)), (2, .int (nI i)), (3, .int (nI n)), (4, .int (bI op)), (5, .int (nI k)), (6, .long ((lnB eN gN K W ST SH L DD PP dw i) k)), (8, .int 1)] rfl) ?_
          refine EvF.gop 68 (go_iload d_Cho_findNext_66 7 rfl) rfl ?_
          refine EvF.gop 71 (go_if_eq_f 96 d_Cho_findNext_68 (by decide) (by decide)) rfl ?_
          refine EvF.gop 73 (go_lload d_Cho_findNext_71 6 rfl) rfl ?_
          refine EvF.gop 76 (go_ldc2 (v := (-1)) d_Cho_findNext_73 kl_Cho_46) rfl ?_
          refine EvF.gop 77 (go_lcmp d_Cho_findNext_76) rfl ?_
          by_cases c8 : (lg_cmp ((lnB eN gN K W ST SH L DD PP dw i) k) (-1)) = 0
          · refine EvF.gop 96 (go_if_eq_t 96 d_Cho_findNext_77 (by decide) (c8)) rfl ?_
            refine EvF.gop 97 (go_aload_n d_Cho_findNext_96 rfl 1 rfl) rfl ?_
            refine EvF.gop 100 (go_get f_Cho_22 d_Cho_findNext_97 ((gRd_n _ _ (hA 0 (by decide) _ (by simp))).trans ((gRd_n _ _ (hA 0 (by decide) _ (by simp))).trans ((gRd_n _ _ (hA 0 (by decide) _ (by simp))).trans (hq.1)))) rfl) rfl ?_
            refine EvF.gop 103 (go_get f_Cho_56 d_Cho_findNext_100 ((gRd_n _ _ (hA 2 (by decide) _ (by simp))).trans ((gRd_n _ _ (hA 2 (by decide) _ (by simp))).trans ((gRd_n _ _ (hA 2 (by decide) _ (by simp))).trans (hq.2.1)))) rfl) rfl ?_
            refine EvF.gop 105 (go_iload d_Cho_findNext_103 5 rfl) rfl ?_
            refine EvF.gop 106 (go_iald (j := k) d_Cho_findNext_105 ((gRd_n _ _ (hA 6 (by decide) _ (by simp))).trans ((gRd_n _ _ (hA 6 (by decide) _ (by simp))).trans ((gRd_n _ _ (hA 6 (by decide) _ (by simp))).trans (hq.2.2.1)))) (rfl) (by omega) (by omega)) rfl ?_
            refine EvF.gop 107 (go_iconst (v := 3) d_Cho_findNext_106 (by decide)) rfl ?_
            by_cases c9 : (K k) = 3
            · refine EvF.gop 114 (go_icmp_eq_t 114 d_Cho_findNext_107 (by decide) (c9)) rfl ?_
              refine EvF.gop 115 (go_iconst (v := bI false) d_Cho_findNext_114 (rfl)) rfl ?_
              refine EvF.gop 117 (go_istore [(4, .int (bI false)), (0, .ref ch), (1, .ref (a 0)), (2, .int (nI i)), (3, .int (nI n)), (5, .int (nI k)), (6, .long ((lnB eN gN K W ST SH L DD PP dw i) k)), (8, .int 1)] d_Cho_findNext_115 (by decide) rfl) rfl ?_
              refine EvF.go (go_pick [1, 2, 3, 4, 0, 5, 6, 7] [(0, .ref ch), (1, .ref (a 0)), (2, .int (nI i)), (3, .int (nI n)), (4, .int (bI false)), (5, .int (nI k)), (6, .long ((lnB eN gN K W ST SH L DD PP dw i) k)), (8, .int 1)] rfl) ?_
              refine EvF.gop 120 (go_inc1 (n0 := 5) (x := k) [(5, .int (nI (k + 1))), (0, .ref ch), (1, .ref (a 0)), (2, .int (nI i)), (3, .int (nI n)), (4, .int (bI false)), (6, .long ((lnB eN gN K W ST SH L DD PP dw i) k)), (8, .int 1)] d_Cho_findNext_117 rfl (by decide) rfl) rfl ?_
              refine EvF.go (go_pick [1, 2, 3, 4, 5, 0, 6, 7] [(0, .ref ch), (1, .ref (a 0)), (2, .int (nI i)), (3, .int (nI n)), (4, .int (bI false)), (5, .int (nI (k + 1))), (6, .long ((lnB eN gN K W ST SH L DD PP dw i) k)), (8, .int 1)] rfl) ?_
              refine EvF.gop 23 (go_goto 23 d_Cho_findNext_120 (by decide)) rfl ?_
              refine EvF.go (go_pick [0, 1, 2, 3, 4, 5] [(0, .ref ch), (1, .ref (a 0)), (2, .int (nI i)), (3, .int (nI n)), (4, .int (bI false)), (5, .int (nI (k + 1)))] rfl) ?_
              rw [show (fnF n (lnB eN gN K W ST SH L DD PP dw i) (fun j => prI PP K i j (lnB eN gN K W ST SH L DD PP dw i j)) K i (r + 1) k op C) = (fnF n (lnB eN gN K W ST SH L DD PP dw i) (fun j => prI PP K i j (lnB eN gN K W ST SH L DD PP dw i j)) K i r (k + 1) false C) from by rw [fnF, if_pos (by assumption), if_neg (by clear ih; simp_all), (decide_eq_true ‹K k = 3›)]; rfl]
              exact ih (k + 1) _ _ (by omega) (by omega)
            · refine EvF.gop 110 (go_icmp_eq_f 114 d_Cho_findNext_107 (by decide) (c9)) rfl ?_
              refine EvF.gop 111 (go_iconst (v := bI true) d_Cho_findNext_110 (rfl)) rfl ?_
              refine EvF.gop 115 (go_goto 115 d_Cho_findNext_111 (by decide)) rfl ?_
              refine EvF.gop 117 (go_istore [(4, .int (bI true)), (0, .ref ch), (1, .ref (a 0)), (2, .int (nI i)), (3, .int (nI n)), (5, .int (nI k)), (6, .long ((lnB eN gN K W ST SH L DD PP dw i) k)), (8, .int 1)] d_Cho_findNext_115 (by decide) rfl) rfl ?_
              refine EvF.go (go_pick [1, 2, 3, 4, 0, 5, 6, 7] [(0, .ref ch), (1, .ref (a 0)), (2, .int (nI i)), (3, .int (nI n)), (4, .int (bI true)), (5, .int (nI k)), (6, .long ((lnB eN gN K W ST SH L DD PP dw i) k)), (8, .int 1)] rfl) ?_
              refine EvF.gop 120 (go_inc1 (n0 := 5) (x := k) [(5, .int (nI (k + 1))), (0, .ref ch), (1, .ref (a 0)), (2, .int (nI i)), (3, .int (nI n)), (4, .int (bI true)), (6, .long ((lnB eN gN K W ST SH L DD PP dw i) k)), (8, .int 1)] d_Cho_findNext_117 rfl (by decide) rfl) rfl ?_
              refine EvF.go (go_pick [1, 2, 3, 4, 5, 0, 6, 7] [(0, .ref ch), (1, .ref (a 0)), (2, .int (nI i)), (3, .int (nI n)), (4, .int (bI true)), (5, .int (nI (k + 1))), (6, .long ((lnB eN gN K W ST SH L DD PP dw i) k)), (8, .int 1)] rfl) ?_
              refine EvF.gop 23 (go_goto 23 d_Cho_findNext_120 (by decide)) rfl ?_
              refine EvF.go (go_pick [0, 1, 2, 3, 4, 5] [(0, .ref ch), (1, .ref (a 0)), (2, .int (nI i)), (3, .int (nI n)), (4, .int (bI true)), (5, .int (nI (k + 1)))] rfl) ?_
              rw [show (fnF n (lnB eN gN K W ST SH L DD PP dw i) (fun j => prI PP K i j (lnB eN gN K W ST SH L DD PP dw i j)) K i (r + 1) k op C) = (fnF n (lnB eN gN K W ST SH L DD PP dw i) (fun j => prI PP K i j (lnB eN gN K W ST SH L DD PP dw i j)) K i r (k + 1) true C) from by rw [fnF, if_pos (by assumption), if_neg (by clear ih; simp_all), (decide_eq_false ‹¬ K k = 3›)]; rfl]
              exact ih (k + 1) _ _ (by omega) (by omega)
          · refine EvF.gop 80 (go_if_eq_f 96 d_Cho_findNext_77 (by decide) (c8)) rfl ?_
            refine EvF.gop 81 (go_aload_n d_Cho_findNext_80 rfl 0 rfl) rfl ?_
            refine EvF.gop 82 (go_iload_n d_Cho_findNext_81 rfl 2 rfl) rfl ?_
            refine EvF.gop 84 (go_iload d_Cho_findNext_82 5 rfl) rfl ?_
            refine EvF.gop 85 (go_aload_n d_Cho_findNext_84 rfl 1 rfl) rfl ?_
            refine EvF.gop 86 (go_iload_n d_Cho_findNext_85 rfl 2 rfl) rfl ?_
            refine EvF.gop 88 (go_iload d_Cho_findNext_86 5 rfl) rfl ?_
            refine EvF.gop 90 (go_lload d_Cho_findNext_88 6 rfl) rfl ?_
            refine EvF.gop 93 (go_callV [.int (nI i), .int (nI k), .long ((lnB eN gN K W ST SH L DD PP dw i) k)] [.long (prI PP K i k ((lnB eN gN K W ST SH L DD PP dw i) k)), .int (nI k), .int (nI i), .ref ch] c0_Stg_price im_Stg_price se_Stg_price lk_Cho_48 d_Cho_findNext_90 rfl rfl ((gRd_n _ _ (hA 0 (by decide) _ (by simp))).trans ((gRd_n _ _ (hA 0 (by decide) _ (by simp))).trans ((gRd_n _ _ (hA 0 (by decide) _ (by simp))).trans (hq.1)))) (e_Stg_price G _ a dw cl ln tt (nI n) K E B W ST SH L DD PP X i k ((lnB eN gN K W ST SH L DD PP dw i) k) (((hq.wr _ (fun x hx => hA x hx _ (by simp))).wr _ (fun x hx => hA x hx _ (by simp))).wr _ (fun x hx => hA x hx _ (by simp))) (by omega) (by omega)) (by decide) rfl rfl (Nat.le_of_ble_eq_true rfl) rfl) rfl ?_
            refine EvF.gop 96 (go_callV [.int (nI i), .int (nI k), .long (prI PP K i k ((lnB eN gN K W ST SH L DD PP dw i) k))] [] c0_Cho_keepBetter im_Cho_keepBetter se_Cho_keepBetter lk_Cho_52 d_Cho_findNext_93 rfl rfl ((gRd_n _ _ (ndN yN 0 3 rfl rfl (by decide))).trans ((gRd_n _ _ (ndN yN 0 2 rfl rfl (by decide))).trans ((gRd_n _ _ (ndN yN 0 1 rfl rfl (by decide))).trans (y1)))) (e_Cho_keepBetter G M ch cp cn cx C i k (prI PP K i k ((lnB eN gN K W ST SH L DD PP dw i) k)) y1 yN (by omega) (by omega)) (by decide) rfl rfl (Nat.le_of_ble_eq_true rfl) rfl) rfl ?_
            refine EvF.gop 97 (go_aload_n d_Cho_findNext_96 rfl 1 rfl) rfl ?_
            refine EvF.gop 100 (go_get f_Cho_22 d_Cho_findNext_97 ((gRd_n _ _ (hA 0 (by decide) _ (by simp))).trans ((gRd_n _ _ (hA 0 (by decide) _ (by simp))).trans ((gRd_n _ _ (hA 0 (by decide) _ (by simp))).trans (hq.1)))) rfl) rfl ?_
            refine EvF.gop 103 (go_get f_Cho_56 d_Cho_findNext_100 ((gRd_n _ _ (hA 2 (by decide) _ (by simp))).trans ((gRd_n _ _ (hA 2 (by decide) _ (by simp))).trans ((gRd_n _ _ (hA 2 (by decide) _ (by simp))).trans (hq.2.1)))) rfl) rfl ?_
            refine EvF.gop 105 (go_iload d_Cho_findNext_103 5 rfl) rfl ?_
            refine EvF.gop 106 (go_iald (j := k) d_Cho_findNext_105 ((gRd_n _ _ (hA 6 (by decide) _ (by simp))).trans ((gRd_n _ _ (hA 6 (by decide) _ (by simp))).trans ((gRd_n _ _ (hA 6 (by decide) _ (by simp))).trans (hq.2.2.1)))) (rfl) (by omega) (by omega)) rfl ?_
            refine EvF.gop 107 (go_iconst (v := 3) d_Cho_findNext_106 (by decide)) rfl ?_
            by_cases c10 : (K k) = 3
            · refine EvF.gop 114 (go_icmp_eq_t 114 d_Cho_findNext_107 (by decide) (c10)) rfl ?_
              refine EvF.gop 115 (go_iconst (v := bI false) d_Cho_findNext_114 (rfl)) rfl ?_
              refine EvF.gop 117 (go_istore [(4, .int (bI false)), (0, .ref ch), (1, .ref (a 0)), (2, .int (nI i)), (3, .int (nI n)), (5, .int (nI k)), (6, .long ((lnB eN gN K W ST SH L DD PP dw i) k)), (8, .int 1)] d_Cho_findNext_115 (by decide) rfl) rfl ?_
              refine EvF.go (go_pick [1, 2, 3, 4, 0, 5, 6, 7] [(0, .ref ch), (1, .ref (a 0)), (2, .int (nI i)), (3, .int (nI n)), (4, .int (bI false)), (5, .int (nI k)), (6, .long ((lnB eN gN K W ST SH L DD PP dw i) k)), (8, .int 1)] rfl) ?_
              refine EvF.gop 120 (go_inc1 (n0 := 5) (x := k) [(5, .int (nI (k + 1))), (0, .ref ch), (1, .ref (a 0)), (2, .int (nI i)), (3, .int (nI n)), (4, .int (bI false)), (6, .long ((lnB eN gN K W ST SH L DD PP dw i) k)), (8, .int 1)] d_Cho_findNext_117 rfl (by decide) rfl) rfl ?_
              refine EvF.go (go_pick [1, 2, 3, 4, 5, 0, 6, 7] [(0, .ref ch), (1, .ref (a 0)), (2, .int (nI i)), (3, .int (nI n)), (4, .int (bI false)), (5, .int (nI (k + 1))), (6, .long ((lnB eN gN K W ST SH L DD PP dw i) k)), (8, .int 1)] rfl) ?_
              refine EvF.gop 23 (go_goto 23 d_Cho_findNext_120 (by decide)) rfl ?_
              refine EvF.go (go_pick [0, 1, 2, 3, 4, 5] [(0, .ref ch), (1, .ref (a 0)), (2, .int (nI i)), (3, .int (nI n)), (4, .int (bI false)), (5, .int (nI (k + 1)))] rfl) ?_
              rw [show (fnF n (lnB eN gN K W ST SH L DD PP dw i) (fun j => prI PP K i j (lnB eN gN K W ST SH L DD PP dw i j)) K i (r + 1) k op C) = (fnF n (lnB eN gN K W ST SH L DD PP dw i) (fun j => prI PP K i j (lnB eN gN K W ST SH L DD PP dw i j)) K i r (k + 1) false (kB i k (prI PP K i k ((lnB eN gN K W ST SH L DD PP dw i) k)) C)) from by rw [fnF, if_pos (by assumption), if_pos (by clear ih; simp_all), (decide_eq_true ‹K k = 3›)]; rfl]
              exact ih (k + 1) _ _ (by omega) (by omega)
            · refine EvF.gop 110 (go_icmp_eq_f 114 d_Cho_findNext_107 (by decide) (c10)) rfl ?_
              refine EvF.gop 111 (go_iconst (v := bI true) d_Cho_findNext_110 (rfl)) rfl ?_
              refine EvF.gop 115 (go_goto 115 d_Cho_findNext_111 (by decide)) rfl ?_
              refine EvF.gop 117 (go_istore [(4, .int (bI true)), (0, .ref ch), (1, .ref (a 0)), (2, .int (nI i)), (3, .int (nI n)), (5, .int (nI k)), (6, .long ((lnB eN gN K W ST SH L DD PP dw i) k)), (8, .int 1)] d_Cho_findNext_115 (by decide) rfl) rfl ?_
              refine EvF.go (go_pick [1, 2, 3, 4, 0, 5, 6, 7] [(0, .ref ch), (1, .ref (a 0)), (2, .int (nI i)), (3, .int (nI n)), (4, .int (bI true)), (5, .int (nI k)), (6, .long ((lnB eN gN K W ST SH L DD PP dw i) k)), (8, .int 1)] rfl) ?_
              refine EvF.gop 120 (go_inc1 (n0 := 5) (x := k) [(5, .int (nI (k + 1))), (0, .ref ch), (1, .ref (a 0)), (2, .int (nI i)), (3, .int (nI n)), (4, .int (bI true)), (6, .long ((lnB eN gN K W ST SH L DD PP dw i) k)), (8, .int 1)] d_Cho_findNext_117 rfl (by decide) rfl) rfl ?_
              refine EvF.go (go_pick [1, 2, 3, 4, 5, 0, 6, 7] [(0, .ref ch), (1, .ref (a 0)), (2, .int (nI i)), (3, .int (nI n)), (4, .int (bI true)), (5, .int (nI (k + 1))), (6, .long ((lnB eN gN K W ST SH L DD PP dw i) k)), (8, .int 1)] rfl) ?_
              refine EvF.gop 23 (go_goto 23 d_Cho_findNext_120 (by decide)) rfl ?_
              refine EvF.go (go_pick [0, 1, 2, 3, 4, 5] [(0, .ref ch), (1, .ref (a 0)), (2, .int (nI i)), (3, .int (nI n)), (4, .int (bI true)), (5, .int (nI (k + 1)))] rfl) ?_
              rw [show (fnF n (lnB eN gN K W ST SH L DD PP dw i) (fun j => prI PP K i j (lnB eN gN K W ST SH L DD PP dw i j)) K i (r + 1) k op C) = (fnF n (lnB eN gN K W ST SH L DD PP dw i) (fun j => prI PP K i j (lnB eN gN K W ST SH L DD PP dw i j)) K i r (k + 1) true (kB i k (prI PP K i k ((lnB eN gN K W ST SH L DD PP dw i) k)) C)) from by rw [fnF, if_pos (by assumption), if_pos (by clear ih; simp_all), (decide_eq_false ‹¬ K k = 3›)]; rfl]
              exact ih (k + 1) _ _ (by omega) (by omega)
theorem e_Cho_findNext (G : gG) (M : gM) (ch cp cn cx : Nat) (a : Nat → Nat) (dw cl ln : Int32) (tt : Int64) (K E B W ST SH L DD PP X : Nat → Int32) (n i : Nat) (eN gN : Nat → Nat) (C : cS) (y1 : gRd M ch = some (.inr (9, [.ref cp, .ref cn, .ref cx]))) (yN : va_nd [ch, cp, cn, cx] = true) (hq : StgAt G M a dw cl ln tt (nI n) K E B W ST SH L DD PP X) (hA : ∀ x, x < 14 → ∀ y ∈ [cp, cn, cx], a x ≠ y) (hL : LnOk n eN gN E B ST SH) (hi : i < n) : Ev G 4 m_Cho_findNext [.ref ch, .ref (a 0), .int (nI i)] (gWr (gWr (gWr M cp (aL G 25 C.1)) cn (aI G 25 C.2.1)) cx (aI G 25 C.2.2)) none (gWr (gWr (gWr M cp (aL G 25 ((fnF n (lnB eN gN K W ST SH L DD PP dw i) (fun j => prI PP K i j (lnB eN gN K W ST SH L DD PP dw i j)) K i (n - i) (i + 1) true (C.1, C.2.1, upd C.2.2 i 0)).1))) cn (aI G 25 ((fnF n (lnB eN gN K W ST SH L DD PP dw i) (fun j => prI PP K i j (lnB eN gN K W ST SH L DD PP dw i j)) K i (n - i) (i + 1) true (C.1, C.2.1, upd C.2.2 i 0)).2.1))) cx (aI G 25 ((fnF n (lnB eN gN K W ST SH L DD PP dw i) (fun j => prI PP K i j (lnB eN gN K W ST SH L DD PP dw i j)) K i (n - i) (i + 1) true (C.1, C.2.1, upd C.2.2 i 0)).2.2))) := by
  have hn24 := hL.1
  refine Ev.of (Nat.le_of_ble_eq_true rfl) ?_
  show EvF G 4 m_Cho_findNext (0, [(0, .ref ch), (1, .ref (a 0)), (2, .int (nI i))], [], (gWr (gWr (gWr M cp (aL G 25 C.1)) cn (aI G 25 C.2.1)) cx (aI G 25 C.2.2))) _ _
  refine EvF.gop 1 (go_aload_n d_Cho_findNext_0 rfl 1 rfl) rfl ?_
  refine EvF.gop 4 (go_get f_Cho_22 d_Cho_findNext_1 ((gRd_n _ _ (hA 0 (by decide) _ (by simp))).trans ((gRd_n _ _ (hA 0 (by decide) _ (by simp))).trans ((gRd_n _ _ (hA 0 (by decide) _ (by simp))).trans (hq.1)))) rfl) rfl ?_
  refine EvF.gop 7 (go_get f_Cho_28 d_Cho_findNext_4 ((gRd_n _ _ (hA 2 (by decide) _ (by simp))).trans ((gRd_n _ _ (hA 2 (by decide) _ (by simp))).trans ((gRd_n _ _ (hA 2 (by decide) _ (by simp))).trans (hq.2.1)))) rfl) rfl ?_
  refine EvF.gop 8 (go_istore_n [(3, .int (nI n)), (0, .ref ch), (1, .ref (a 0)), (2, .int (nI i))] d_Cho_findNext_7 rfl (by decide) rfl) rfl ?_
  refine EvF.go (go_pick [1, 2, 3, 0] [(0, .ref ch), (1, .ref (a 0)), (2, .int (nI i)), (3, .int (nI n))] rfl) ?_
  refine EvF.gop 9 (go_aload_n d_Cho_findNext_8 rfl 0 rfl) rfl ?_
  refine EvF.gop 12 (go_get f_Cho_19 d_Cho_findNext_9 ((gRd_n _ _ (ndN yN 0 3 rfl rfl (by decide))).trans ((gRd_n _ _ (ndN yN 0 2 rfl rfl (by decide))).trans ((gRd_n _ _ (ndN yN 0 1 rfl rfl (by decide))).trans (y1)))) rfl) rfl ?_
  refine EvF.gop 13 (go_iload_n d_Cho_findNext_12 rfl 2 rfl) rfl ?_
  refine EvF.gop 14 (go_iconst (v := 0) d_Cho_findNext_13 (by decide)) rfl ?_
  refine EvF.gop 15 (go_iast (j := i) d_Cho_findNext_14 (gRd_s _ _ _) (rfl) (by omega) (by omega)) rfl ?_
  refine EvF.go (go_m (M' := (gWr (gWr (gWr M cp (aL G 25 C.1)) cn (aI G 25 C.2.1)) cx (aI G 25 (upd C.2.2 i 0)))) (gWr_wr (gWr (gWr M cp (aL G 25 C.1)) cn (aI G 25 C.2.1)) cx (aI G 25 C.2.2) (aI G 25 (upd C.2.2 i 0)))) ?_
  refine EvF.gop 16 (go_iconst (v := bI true) d_Cho_findNext_15 (rfl)) rfl ?_
  refine EvF.gop 18 (go_istore [(4, .int (bI true)), (0, .ref ch), (1, .ref (a 0)), (2, .int (nI i)), (3, .int (nI n))] d_Cho_findNext_16 (by decide) rfl) rfl ?_
  refine EvF.go (go_pick [1, 2, 3, 4, 0] [(0, .ref ch), (1, .ref (a 0)), (2, .int (nI i)), (3, .int (nI n)), (4, .int (bI true))] rfl) ?_
  refine EvF.gop 19 (go_iload_n d_Cho_findNext_18 rfl 2 rfl) rfl ?_
  refine EvF.gop 20 (go_iconst (v := 1) d_Cho_findNext_19 (by decide)) rfl ?_
  refine EvF.gop 21 (go_iadd d_Cho_findNext_20) rfl ?_
  refine EvF.go (go_v (y := nI (i + 1)) (nI_1 i)) ?_
  refine EvF.gop 23 (go_istore [(5, .int (nI (i + 1))), (0, .ref ch), (1, .ref (a 0)), (2, .int (nI i)), (3, .int (nI n)), (4, .int (bI true))] d_Cho_findNext_21 (by decide) rfl) rfl ?_
  refine EvF.go (go_pick [1, 2, 3, 4, 5, 0] [(0, .ref ch), (1, .ref (a 0)), (2, .int (nI i)), (3, .int (nI n)), (4, .int (bI true)), (5, .int (nI (i + 1)))] rfl) ?_
  exact g_Cho_findNext G M ch cp cn cx a dw cl ln tt K E B W ST SH L DD PP X n i eN gN y1 yN hq hA hL hi (n - i) (i + 1) true (C.1, C.2.1, upd C.2.2 i 0) (by omega) (by omega)
