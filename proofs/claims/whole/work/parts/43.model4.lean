theorem mgF_le : ∀ (r n : Nat) (l : Nat → Int32) (d gn : Nat) (g : Nat → Int32), gn + n < 200 → (mgF r n l d gn g).2.1 ≤ n ∧ (mgF r n l d gn g).2.2.2.1 ≤ 200 := by
  intro r
  induction r with
  | zero => intro n l d gn g h; exact ⟨Nat.le_refl n, by show gn ≤ 200; omega⟩
  | succ r ih =>
    intro n l d gn g h
    rw [mgF]
    generalize (if l 0 = 123 then d + 1 else if l 0 = 125 then d - 1 else d) = d2
    split
    · exact ⟨Nat.le_refl n, by show gn ≤ 200; omega⟩
    · split
      · split
        · exact ⟨by show n - 1 ≤ n; omega, by show gn ≤ 200; omega⟩
        · have := ih (n - 1) (shF l (n - 1)) d2 (gn + 1) (upd g gn (l 0)) (by omega)
          exact ⟨by omega, this.2⟩
      · exact ⟨by show n - 1 ≤ n; omega, by show gn ≤ 200; omega⟩
theorem maF_le {n : Nat} {l g : Nat → Int32} (h : n ≤ 200) : (maF n l g).2.1 ≤ n ∧ (maF n l g).2.2.2.1 ≤ 200 := by
  unfold maF
  split
  · exact ⟨Nat.le_refl n, by show 0 ≤ 200; omega⟩
  · split
    · exact ⟨by show n - 1 ≤ n; omega, by show 0 ≤ 200; omega⟩
    · split
      · exact ⟨by show n - 1 ≤ n; omega, by show 0 ≤ 200; omega⟩
      · split
        · have := mgF_le 201 (n - 1) (shF l (n - 1)) 1 0 g (by omega)
          exact ⟨by omega, this.2⟩
        · exact ⟨by show n - 1 ≤ n; omega, by show 1 ≤ 200; omega⟩
theorem e_Mod_call (G : gG) (M : gM) (A : Nat) (a : Nat → Nat) (s : Nat → Int32) (c : Int64) (bo bl : Nat → Int32) (m bn n gn cl : Nat) (l g rr : Nat → Int32) (hI : InjA A a) (m4 : gRd M (a 4) = some (aI G 96 bo)) (m5 : gRd M (a 5) = some (aI G 4 bl)) (hm : m < 4) (hb : bl m = nI bn) (hbn : bn ≤ 24) (hn : n ≤ 200) (hgn : gn ≤ 200) (hcl : cl ≤ 40) : Ev G 2 m_Mod_call [.ref A, .int (nI m)] (gWr (gWr (gWr (gWr M A (.inr (11, oMod a (upd (upd (upd s 14 (nI n)) 15 (nI gn)) 16 (nI cl)) c))) (a 10) (aI G 200 l)) (a 12) (aI G 200 g)) (a 11) (aI G 200 rr)) (some (.int (mcF (fun i => bo (m * 24 + i)) bn n cl l gn g rr).1)) (gWr (gWr (gWr (gWr M A (.inr (11, oMod a (upd (upd (upd s 14 (nI ((mcF (fun i => bo (m * 24 + i)) bn n cl l gn g rr).2.1))) 15 (nI ((mcF (fun i => bo (m * 24 + i)) bn n cl l gn g rr).2.2.2.2.1))) 16 (nI ((mcF (fun i => bo (m * 24 + i)) bn n cl l gn g rr).2.2.1))) c))) (a 10) (aI G 200 ((mcF (fun i => bo (m * 24 + i)) bn n cl l gn g rr).2.2.2.1))) (a 12) (aI G 200 ((mcF (fun i => bo (m * 24 + i)) bn n cl l gn g rr).2.2.2.2.2.1))) (a 11) (aI G 200 ((mcF (fun i => bo (m * 24 + i)) bn n cl l gn g rr).2.2.2.2.2.2))) := by
  refine Ev.of (Nat.le_of_ble_eq_true rfl) ?_
  show EvF G 2 m_Mod_call (0, [(0, .ref A), (1, .int (nI m))], [], (gWr (gWr (gWr (gWr M A (.inr (11, oMod a (upd (upd (upd s 14 (nI n)) 15 (nI gn)) 16 (nI cl)) c))) (a 10) (aI G 200 l)) (a 12) (aI G 200 g)) (a 11) (aI G 200 rr))) _ _
  refine EvF.gop 1 (go_aload_n d_Mod_call_0 rfl 0 rfl) rfl ?_
  refine EvF.gop 4 (go_get f_Mod_22 d_Mod_call_1 ((gRd_n _ _ (hI.2 11)).trans ((gRd_n _ _ (hI.2 12)).trans ((gRd_n _ _ (hI.2 10)).trans (gRd_s _ _ _)))) rfl) rfl ?_
  refine EvF.gop 5 (go_iload_n d_Mod_call_4 rfl 1 rfl) rfl ?_
  refine EvF.gop 6 (go_iald (j := m) d_Mod_call_5 ((gRd_n _ _ (hI.n (i := 5) (j := 11) (by decide))).trans ((gRd_n _ _ (hI.n (i := 5) (j := 12) (by decide))).trans ((gRd_n _ _ (hI.n (i := 5) (j := 10) (by decide))).trans ((gRd_n _ _ (Ne.symm (hI.2 5))).trans (m5))))) (rfl) (by omega) (by omega)) rfl ?_
  refine EvF.go (go_v (y := nI bn) (hb)) ?_
  refine EvF.gop 12 (go_if_ge_t 12 d_Mod_call_6 (by decide) (nI_pos' (by omega))) rfl ?_
  refine EvF.gop 13 (go_aload_n d_Mod_call_12 rfl 0 rfl) rfl ?_
  refine EvF.gop 16 (go_get f_Mod_135 d_Mod_call_13 ((gRd_n _ _ (hI.2 11)).trans ((gRd_n _ _ (hI.2 12)).trans ((gRd_n _ _ (hI.2 10)).trans (gRd_s _ _ _)))) rfl) rfl ?_
  refine EvF.gop 18 (go_bipush (v := 40) d_Mod_call_16 (by decide)) rfl ?_
  by_cases c1 : (nI cl) = 40
  · have c1x : cl = 40 := (nI_eq (a := cl) (b := 40) (by omega) (by decide)).mp c1
    refine EvF.gop 21 (go_icmp_ne_f 24 d_Mod_call_18 (by decide) (c1)) rfl ?_
    refine EvF.gop 23 (go_bipush (v := (-4)) d_Mod_call_21 (by decide)) rfl ?_
    rw [show (mcF (fun i => bo (m * 24 + i)) bn n cl l gn g rr) = (-4, n, cl, l, gn, g, rr) from by unfold mcF; rw [if_pos (by assumption)]]
    exact EvF.ri d_Mod_call_23 rfl (rfl) (rfl)
  · have c1x : ¬ cl = 40 := fun q9 => c1 ((nI_eq (a := cl) (b := 40) (by omega) (by decide)).mpr q9)
    refine EvF.gop 24 (go_icmp_ne_t 24 d_Mod_call_18 (by decide) (c1)) rfl ?_
    refine EvF.gop 25 (go_aload_n d_Mod_call_24 rfl 0 rfl) rfl ?_
    refine EvF.gop 26 (go_dup d_Mod_call_25 rfl) rfl ?_
    refine EvF.gop 29 (go_get f_Mod_135 d_Mod_call_26 ((gRd_n _ _ (hI.2 11)).trans ((gRd_n _ _ (hI.2 12)).trans ((gRd_n _ _ (hI.2 10)).trans (gRd_s _ _ _)))) rfl) rfl ?_
    refine EvF.gop 30 (go_iconst (v := 1) d_Mod_call_29 (by decide)) rfl ?_
    refine EvF.gop 31 (go_iadd d_Mod_call_30) rfl ?_
    refine EvF.go (go_v (y := nI (cl + 1)) (nI_1 cl)) ?_
    refine EvF.gop 34 (go_put (oMod a (upd (upd (upd s 14 (nI n)) 15 (nI gn)) 16 (nI (cl + 1))) c) f_Mod_135 ft_Mod_16 d_Mod_call_31 ((gRd_n _ _ (hI.2 11)).trans ((gRd_n _ _ (hI.2 12)).trans ((gRd_n _ _ (hI.2 10)).trans (gRd_s _ _ _)))) rfl rfl (Nat.le_of_ble_eq_true rfl) rfl) rfl ?_
    refine EvF.go (go_m (M' := (gWr (gWr (gWr (gWr M A (.inr (11, oMod a (upd (upd (upd s 14 (nI n)) 15 (nI gn)) 16 (nI (cl + 1))) c))) (a 10) (aI G 200 l)) (a 12) (aI G 200 g)) (a 11) (aI G 200 rr))) ((gWr_cm (gWr (gWr (gWr M A (.inr (11, oMod a (upd (upd (upd s 14 (nI n)) 15 (nI gn)) 16 (nI cl)) c))) (a 10) (aI G 200 l)) (a 12) (aI G 200 g)) (aI G 200 rr) (.inr (11, oMod a (upd (upd (upd s 14 (nI n)) 15 (nI gn)) 16 (nI (cl + 1))) c)) (Ne.symm (hI.2 11))).trans (congrArg (fun mZ => gWr mZ (a 11) (aI G 200 rr)) ((gWr_cm (gWr (gWr M A (.inr (11, oMod a (upd (upd (upd s 14 (nI n)) 15 (nI gn)) 16 (nI cl)) c))) (a 10) (aI G 200 l)) (aI G 200 g) (.inr (11, oMod a (upd (upd (upd s 14 (nI n)) 15 (nI gn)) 16 (nI (cl + 1))) c)) (Ne.symm (hI.2 12))).trans (congrArg (fun mZ => gWr mZ (a 12) (aI G 200 g)) ((gWr_cm (gWr M A (.inr (11, oMod a (upd (upd (upd s 14 (nI n)) 15 (nI gn)) 16 (nI cl)) c))) (aI G 200 l) (.inr (11, oMod a (upd (upd (upd s 14 (nI n)) 15 (nI gn)) 16 (nI (cl + 1))) c)) (Ne.symm (hI.2 10))).trans (congrArg (fun mZ => gWr mZ (a 10) (aI G 200 l)) (gWr_wr M A (.inr (11, oMod a (upd (upd (upd s 14 (nI n)) 15 (nI gn)) 16 (nI cl)) c)) (.inr (11, oMod a (upd (upd (upd s 14 (nI n)) 15 (nI gn)) 16 (nI (cl + 1))) c)))))))))) ?_
    refine EvF.gop 35 (go_iconst (v := nI (cntI (fun i => bo (m * 24 + i)) 35 0)) d_Mod_call_34 (rfl)) rfl ?_
    refine EvF.gop 36 (go_istore_n [(2, .int (nI (cntI (fun i => bo (m * 24 + i)) 35 0))), (0, .ref A), (1, .int (nI m))] d_Mod_call_35 rfl (by decide) rfl) rfl ?_
    refine EvF.go (go_pick [1, 2, 0] [(0, .ref A), (1, .int (nI m)), (2, .int (nI (cntI (fun i => bo (m * 24 + i)) 35 0)))] rfl) ?_
    refine EvF.gop 37 (go_aload_n d_Mod_call_36 rfl 0 rfl) rfl ?_
    refine EvF.gop 40 (go_get f_Mod_22 d_Mod_call_37 ((gRd_n _ _ (hI.2 11)).trans ((gRd_n _ _ (hI.2 12)).trans ((gRd_n _ _ (hI.2 10)).trans (gRd_s _ _ _)))) rfl) rfl ?_
    refine EvF.gop 41 (go_iload_n d_Mod_call_40 rfl 1 rfl) rfl ?_
    refine EvF.gop 42 (go_iald (j := m) d_Mod_call_41 ((gRd_n _ _ (hI.n (i := 5) (j := 11) (by decide))).trans ((gRd_n _ _ (hI.n (i := 5) (j := 12) (by decide))).trans ((gRd_n _ _ (hI.n (i := 5) (j := 10) (by decide))).trans ((gRd_n _ _ (Ne.symm (hI.2 5))).trans (m5))))) (rfl) (by omega) (by omega)) rfl ?_
    refine EvF.go (go_v (y := nI bn) (hb)) ?_
    refine EvF.gop 43 (go_istore_n [(3, .int (nI bn)), (0, .ref A), (1, .int (nI m)), (2, .int (nI (cntI (fun i => bo (m * 24 + i)) 35 0)))] d_Mod_call_42 rfl (by decide) rfl) rfl ?_
    refine EvF.go (go_pick [1, 2, 3, 0] [(0, .ref A), (1, .int (nI m)), (2, .int (nI (cntI (fun i => bo (m * 24 + i)) 35 0))), (3, .int (nI bn))] rfl) ?_
    refine EvF.gop 44 (go_iconst (v := nI 0) d_Mod_call_43 (rfl)) rfl ?_
    refine EvF.gop 46 (go_istore [(4, .int (nI 0)), (0, .ref A), (1, .int (nI m)), (2, .int (nI (cntI (fun i => bo (m * 24 + i)) 35 0))), (3, .int (nI bn))] d_Mod_call_44 (by decide) rfl) rfl ?_
    refine EvF.go (go_pick [1, 2, 3, 4, 0] [(0, .ref A), (1, .int (nI m)), (2, .int (nI (cntI (fun i => bo (m * 24 + i)) 35 0))), (3, .int (nI bn)), (4, .int (nI 0))] rfl) ?_
    refine EvF.go (g_Mod_call1 G M A a s c bo bl m bn n gn (cl + 1) l g rr hI m4 m5 hm hb hbn bn 0 (by omega)) ?_
    have hcn := cntI_le (fun i => bo (m * 24 + i)) 35 bn
    refine EvF.gop 79 (go_iload_n d_Mod_call_78 rfl 2 rfl) rfl ?_
    by_cases c11 : (nI (cntI (fun i => bo (m * 24 + i)) 35 bn)) ≤ 0
    · have c11x : (cntI (fun i => bo (m * 24 + i)) 35 bn) ≤ 0 := (nI_leI (a := (cntI (fun i => bo (m * 24 + i)) 35 bn)) (b := 0) (by omega) (by decide)).mp c11
      have c11y : ¬ 0 < (cntI (fun i => bo (m * 24 + i)) 35 bn) := by omega
      refine EvF.gop 92 (go_if_le_t 92 d_Mod_call_79 (by decide) (c11)) rfl ?_
      refine EvF.gop 93 (go_iload_n d_Mod_call_92 rfl 2 rfl) rfl ?_
      refine EvF.gop 107 (go_if_le_t 107 d_Mod_call_93 (by decide) (by assumption)) rfl ?_
      refine EvF.gop 108 (go_iload_n d_Mod_call_107 rfl 3 rfl) rfl ?_
      refine EvF.gop 109 (go_aload_n d_Mod_call_108 rfl 0 rfl) rfl ?_
      refine EvF.gop 112 (go_get f_Mod_125 d_Mod_call_109 ((gRd_n _ _ (hI.2 11)).trans ((gRd_n _ _ (hI.2 12)).trans ((gRd_n _ _ (hI.2 10)).trans (gRd_s _ _ _)))) rfl) rfl ?_
      refine EvF.gop 113 (go_iadd d_Mod_call_112) rfl ?_
      refine EvF.go (go_v (y := nI (exL (fun i => bo (m * 24 + i)) gn bn + n)) (by rw [show exL (fun i => bo (m * 24 + i)) gn bn = bn from by have := exL_eq (fun i => bo (m * 24 + i)) gn bn; rw [show cntI (fun i => bo (m * 24 + i)) 35 bn = 0 from by omega] at this; omega]; exact nI_add _ _)) ?_
      refine EvF.gop 116 (go_sipush (v := nI 200) d_Mod_call_113 (rfl)) rfl ?_
      have hx1 := exL_lt (bd := (fun i => bo (m * 24 + i))) hbn hgn
      by_cases c12 : (nI (exL (fun i => bo (m * 24 + i)) gn bn + n)) ≤ (nI 200)
      · have c12x : (exL (fun i => bo (m * 24 + i)) gn bn + n) ≤ 200 := (nI_leI (a := (exL (fun i => bo (m * 24 + i)) gn bn + n)) (b := 200) (by omega) (by decide)).mp c12
        have c12y : ¬ 200 < (exL (fun i => bo (m * 24 + i)) gn bn + n) := by omega
        refine EvF.gop 122 (go_icmp_le_t 122 d_Mod_call_116 (by decide) (c12)) rfl ?_
        refine EvF.gop 123 (go_iconst (v := nI 0) d_Mod_call_122 (rfl)) rfl ?_
        refine EvF.gop 125 (go_istore [(4, .int (nI 0)), (0, .ref A), (1, .int (nI m)), (2, .int (nI (cntI (fun i => bo (m * 24 + i)) 35 bn))), (3, .int (nI bn))] d_Mod_call_123 (by decide) rfl) rfl ?_
        refine EvF.go (go_pick [1, 2, 3, 4, 0] [(0, .ref A), (1, .int (nI m)), (2, .int (nI (cntI (fun i => bo (m * 24 + i)) 35 bn))), (3, .int (nI bn)), (4, .int (nI 0))] rfl) ?_
        refine EvF.go (go_pick [0, 1, 4] [(0, .ref A), (1, .int (nI m)), (4, .int (nI 0))] rfl) ?_
        have hn9 : n ≤ 200 := hn
        have hg9 : gn ≤ 200 := hgn
        have hp9 := piF_1 (fun i => bo (m * 24 + i)) gn g 0 l bn
        refine EvF.go (go_m (M' := (gWr (gWr (gWr (gWr M A (.inr (11, oMod a (upd (upd (upd s 14 (nI n)) 15 (nI gn)) 16 (nI (cl + 1))) c))) (a 10) (aI G 200 l)) (a 12) (aI G 200 g)) (a 11) (aI G 200 (cpI l 0 rr)))) (by rw [cpI_0])) ?_
        refine EvF.go (g_Mod_call2 G M A a s c bo bl m bn n gn (cl + 1) l g rr hI m4 m5 hm hb hbn hn9 n 0 (by omega)) ?_
        refine EvF.gop 155 (go_iconst (v := nI (piF (fun i => bo (m * 24 + i)) gn g 0 l 0).1) d_Mod_call_154 (rfl)) rfl ?_
        refine EvF.gop 157 (go_istore [(4, .int (nI (piF (fun i => bo (m * 24 + i)) gn g 0 l 0).1)), (0, .ref A), (1, .int (nI m))] d_Mod_call_155 (by decide) rfl) rfl ?_
        refine EvF.go (go_pick [1, 2, 0] [(0, .ref A), (1, .int (nI m)), (4, .int (nI (piF (fun i => bo (m * 24 + i)) gn g 0 l 0).1))] rfl) ?_
        refine EvF.gop 158 (go_iconst (v := nI 0) d_Mod_call_157 (rfl)) rfl ?_
        refine EvF.gop 160 (go_istore [(5, .int (nI 0)), (0, .ref A), (1, .int (nI m)), (4, .int (nI (piF (fun i => bo (m * 24 + i)) gn g 0 l 0).1))] d_Mod_call_158 (by decide) rfl) rfl ?_
        refine EvF.go (go_pick [1, 2, 3, 0] [(0, .ref A), (1, .int (nI m)), (4, .int (nI (piF (fun i => bo (m * 24 + i)) gn g 0 l 0).1)), (5, .int (nI 0))] rfl) ?_
        refine EvF.go (g_Mod_call4 G M A a s c bo bl m bn n gn (cl + 1) l g (cpI l n rr) hI m4 m5 hm hb hbn hg9 (by omega) bn 0 (by omega)) ?_
        refine EvF.gop 256 (go_iconst (v := nI 0) d_Mod_call_255 (rfl)) rfl ?_
        refine EvF.gop 258 (go_istore [(5, .int (nI 0)), (0, .ref A), (1, .int (nI m)), (4, .int (nI (piF (fun i => bo (m * 24 + i)) gn g 0 l bn).1))] d_Mod_call_256 (by decide) rfl) rfl ?_
        refine EvF.go (go_pick [1, 2, 3, 0] [(0, .ref A), (1, .int (nI m)), (4, .int (nI (piF (fun i => bo (m * 24 + i)) gn g 0 l bn).1)), (5, .int (nI 0))] rfl) ?_
        refine EvF.go (go_m (M' := (gWr (gWr (gWr (gWr M A (.inr (11, oMod a (upd (upd (upd s 14 (nI n)) 15 (nI gn)) 16 (nI (cl + 1))) c))) (a 10) (aI G 200 (wrB (piF (fun i => bo (m * 24 + i)) gn g 0 l bn).2 (piF (fun i => bo (m * 24 + i)) gn g 0 l bn).1 (cpI l n rr) 0))) (a 12) (aI G 200 g)) (a 11) (aI G 200 (cpI l n rr)))) (by rw [wrB_0])) ?_
        refine EvF.go (g_Mod_call5 G M A a s c bo bl m bn n gn (cl + 1) (piF (fun i => bo (m * 24 + i)) gn g 0 l bn).2 g (cpI l n rr) (piF (fun i => bo (m * 24 + i)) gn g 0 l bn).1 hI m4 m5 hm hb hbn (by omega) n 0 (by omega)) ?_
        refine EvF.gop 291 (go_aload_n d_Mod_call_290 rfl 0 rfl) rfl ?_
        refine EvF.gop 292 (go_dup d_Mod_call_291 rfl) rfl ?_
        refine EvF.gop 295 (go_get f_Mod_125 d_Mod_call_292 ((gRd_n _ _ (hI.2 11)).trans ((gRd_n _ _ (hI.2 12)).trans ((gRd_n _ _ (hI.2 10)).trans (gRd_s _ _ _)))) rfl) rfl ?_
        refine EvF.gop 297 (go_iload d_Mod_call_295 2 rfl) rfl ?_
        refine EvF.gop 298 (go_iadd d_Mod_call_297) rfl ?_
        refine EvF.go (go_v (y := nI (n + (piF (fun i => bo (m * 24 + i)) gn g 0 l bn).1)) (nI_add _ _)) ?_
        refine EvF.gop 301 (go_put (oMod a (upd (upd (upd s 14 (nI (n + (piF (fun i => bo (m * 24 + i)) gn g 0 l bn).1))) 15 (nI gn)) 16 (nI (cl + 1))) c) f_Mod_125 ft_Mod_14 d_Mod_call_298 ((gRd_n _ _ (hI.2 11)).trans ((gRd_n _ _ (hI.2 12)).trans ((gRd_n _ _ (hI.2 10)).trans (gRd_s _ _ _)))) rfl rfl (Nat.le_of_ble_eq_true rfl) rfl) rfl ?_
        refine EvF.go (go_m (M' := (gWr (gWr (gWr (gWr M A (.inr (11, oMod a (upd (upd (upd s 14 (nI (n + (piF (fun i => bo (m * 24 + i)) gn g 0 l bn).1))) 15 (nI gn)) 16 (nI (cl + 1))) c))) (a 10) (aI G 200 (wrB (piF (fun i => bo (m * 24 + i)) gn g 0 l bn).2 (piF (fun i => bo (m * 24 + i)) gn g 0 l bn).1 (cpI l n rr) n))) (a 12) (aI G 200 g)) (a 11) (aI G 200 (cpI l n rr)))) ((gWr_cm (gWr (gWr (gWr M A (.inr (11, oMod a (upd (upd (upd s 14 (nI n)) 15 (nI gn)) 16 (nI (cl + 1))) c))) (a 10) (aI G 200 (wrB (piF (fun i => bo (m * 24 + i)) gn g 0 l bn).2 (piF (fun i => bo (m * 24 + i)) gn g 0 l bn).1 (cpI l n rr) n))) (a 12) (aI G 200 g)) (aI G 200 (cpI l n rr)) (.inr (11, oMod a (upd (upd (upd s 14 (nI (n + (piF (fun i => bo (m * 24 + i)) gn g 0 l bn).1))) 15 (nI gn)) 16 (nI (cl + 1))) c)) (Ne.symm (hI.2 11))).trans (congrArg (fun mZ => gWr mZ (a 11) (aI G 200 (cpI l n rr))) ((gWr_cm (gWr (gWr M A (.inr (11, oMod a (upd (upd (upd s 14 (nI n)) 15 (nI gn)) 16 (nI (cl + 1))) c))) (a 10) (aI G 200 (wrB (piF (fun i => bo (m * 24 + i)) gn g 0 l bn).2 (piF (fun i => bo (m * 24 + i)) gn g 0 l bn).1 (cpI l n rr) n))) (aI G 200 g) (.inr (11, oMod a (upd (upd (upd s 14 (nI (n + (piF (fun i => bo (m * 24 + i)) gn g 0 l bn).1))) 15 (nI gn)) 16 (nI (cl + 1))) c)) (Ne.symm (hI.2 12))).trans (congrArg (fun mZ => gWr mZ (a 12) (aI G 200 g)) ((gWr_cm (gWr M A (.inr (11, oMod a (upd (upd (upd s 14 (nI n)) 15 (nI gn)) 16 (nI (cl + 1))) c))) (aI G 200 (wrB (piF (fun i => bo (m * 24 + i)) gn g 0 l bn).2 (piF (fun i => bo (m * 24 + i)) gn g 0 l bn).1 (cpI l n rr) n)) (.inr (11, oMod a (upd (upd (upd s 14 (nI (n + (piF (fun i => bo (m * 24 + i)) gn g 0 l bn).1))) 15 (nI gn)) 16 (nI (cl + 1))) c)) (Ne.symm (hI.2 10))).trans (congrArg (fun mZ => gWr mZ (a 10) (aI G 200 (wrB (piF (fun i => bo (m * 24 + i)) gn g 0 l bn).2 (piF (fun i => bo (m * 24 + i)) gn g 0 l bn).1 (cpI l n rr) n))) (gWr_wr M A (.inr (11, oMod a (upd (upd (upd s 14 (nI n)) 15 (nI gn)) 16 (nI (cl + 1))) c)) (.inr (11, oMod a (upd (upd (upd s 14 (nI (n + (piF (fun i => bo (m * 24 + i)) gn g 0 l bn).1))) 15 (nI gn)) 16 (nI (cl + 1))) c)))))))))) ?_
        refine EvF.gop 302 (go_iconst (v := 0) d_Mod_call_301 (by decide)) rfl ?_
        rw [show (mcF (fun i => bo (m * 24 + i)) bn n cl l gn g rr) = (0, n + (piF (fun i => bo (m * 24 + i)) gn g 0 l bn).1, cl + 1, wrB (piF (fun i => bo (m * 24 + i)) gn g 0 l bn).2 (piF (fun i => bo (m * 24 + i)) gn g 0 l bn).1 (cpI l n rr) n, gn, g, cpI l n rr) from by unfold mcF; rw [if_neg (by assumption), if_pos (by omega)]; unfold mc2; rw [if_pos (by omega)]]
        exact EvF.ri d_Mod_call_302 rfl (rfl) (rfl)
      · have c12x : 200 < (exL (fun i => bo (m * 24 + i)) gn bn + n) := Nat.lt_of_not_le (fun q9 => c12 ((nI_leI (a := (exL (fun i => bo (m * 24 + i)) gn bn + n)) (b := 200) (by omega) (by decide)).mpr q9))
        have c12y : ¬ (exL (fun i => bo (m * 24 + i)) gn bn + n) ≤ 200 := by omega
        refine EvF.gop 119 (go_icmp_le_f 122 d_Mod_call_116 (by decide) (c12)) rfl ?_
        refine EvF.gop 121 (go_bipush (v := (-4)) d_Mod_call_119 (by decide)) rfl ?_
        rw [show (mcF (fun i => bo (m * 24 + i)) bn n cl l gn g rr) = (-4, n, cl + 1, l, gn, g, rr) from by unfold mcF; rw [if_neg (by assumption), if_pos (by omega)]; unfold mc2; rw [if_neg (by omega)]]
        exact EvF.ri d_Mod_call_121 rfl (rfl) (rfl)
    · have c11x : 0 < (cntI (fun i => bo (m * 24 + i)) 35 bn) := Nat.lt_of_not_le (fun q9 => c11 ((nI_leI (a := (cntI (fun i => bo (m * 24 + i)) 35 bn)) (b := 0) (by omega) (by decide)).mpr q9))
      have c11y : ¬ (cntI (fun i => bo (m * 24 + i)) 35 bn) ≤ 0 := by omega
      refine EvF.gop 82 (go_if_le_f 92 d_Mod_call_79 (by decide) (c11)) rfl ?_
      refine EvF.gop 83 (go_aload_n d_Mod_call_82 rfl 0 rfl) rfl ?_
      refine EvF.gop 86 (go_callV [] [.int (bI (maF n l g).1)] c0_Mod_takeArgument im_Mod_takeArgument se_Mod_takeArgument lk_Mod_138 d_Mod_call_83 rfl rfl ((gRd_n _ _ (hI.2 11)).trans ((gRd_n _ _ (hI.2 12)).trans ((gRd_n _ _ (hI.2 10)).trans (gRd_s _ _ _)))) (e_Mod_takeArgument G _ A a (upd (upd (upd s 14 (nI n)) 15 (nI gn)) 16 (nI (cl + 1))) c l g n hI ((gRd_n _ _ (hI.2 11)).trans ((gRd_n _ _ (hI.2 12)).trans ((gRd_n _ _ (hI.2 10)).trans (gRd_s _ _ _)))) ((gRd_n _ _ (hI.n (i := 10) (j := 11) (by decide))).trans ((gRd_n _ _ (hI.n (i := 10) (j := 12) (by decide))).trans (gRd_s _ _ _))) ((gRd_n _ _ (hI.n (i := 12) (j := 11) (by decide))).trans (gRd_s _ _ _)) rfl hn) (by decide) rfl rfl (Nat.le_of_ble_eq_true rfl) rfl) rfl ?_
      refine EvF.go (go_m (M' := (gWr (gWr (gWr (gWr M A (.inr (11, oMod a (upd (upd (upd s 14 (nI ((maF n l g).2.1))) 15 (nI ((maF n l g).2.2.2.1))) 16 (nI (cl + 1))) c))) (a 10) (aI G 200 ((maF n l g).2.2.1))) (a 12) (aI G 200 ((maF n l g).2.2.2.2))) (a 11) (aI G 200 rr))) ((congrArg (fun mZ => gWr mZ (a 12) (aI G 200 ((maF n l g).2.2.2.2))) ((congrArg (fun mZ => gWr mZ (a 10) (aI G 200 ((maF n l g).2.2.1))) ((gWr_cm (gWr (gWr (gWr M A (.inr (11, oMod a (upd (upd (upd s 14 (nI n)) 15 (nI gn)) 16 (nI (cl + 1))) c))) (a 10) (aI G 200 l)) (a 12) (aI G 200 g)) (aI G 200 rr) (.inr (11, oMod a (upd (upd (upd s 14 (nI ((maF n l g).2.1))) 15 (nI ((maF n l g).2.2.2.1))) 16 (nI (cl + 1))) c)) (Ne.symm (hI.2 11))).trans (congrArg (fun mZ => gWr mZ (a 11) (aI G 200 rr)) ((gWr_cm (gWr (gWr M A (.inr (11, oMod a (upd (upd (upd s 14 (nI n)) 15 (nI gn)) 16 (nI (cl + 1))) c))) (a 10) (aI G 200 l)) (aI G 200 g) (.inr (11, oMod a (upd (upd (upd s 14 (nI ((maF n l g).2.1))) 15 (nI ((maF n l g).2.2.2.1))) 16 (nI (cl + 1))) c)) (Ne.symm (hI.2 12))).trans (congrArg (fun mZ => gWr mZ (a 12) (aI G 200 g)) ((gWr_cm (gWr M A (.inr (11, oMod a (upd (upd (upd s 14 (nI n)) 15 (nI gn)) 16 (nI (cl + 1))) c))) (aI G 200 l) (.inr (11, oMod a (upd (upd (upd s 14 (nI ((maF n l g).2.1))) 15 (nI ((maF n l g).2.2.2.1))) 16 (nI (cl + 1))) c)) (Ne.symm (hI.2 10))).trans (congrArg (fun mZ => gWr mZ (a 10) (aI G 200 l)) (gWr_wr M A (.inr (11, oMod a (upd (upd (upd s 14 (nI n)) 15 (nI gn)) 16 (nI (cl + 1))) c)) (.inr (11, oMod a (upd (upd (upd s 14 (nI ((maF n l g).2.1))) 15 (nI ((maF n l g).2.2.2.1))) 16 (nI (cl + 1))) c)))))))))).trans ((gWr_cm (gWr (gWr (gWr M A (.inr (11, oMod a (upd (upd (upd s 14 (nI ((maF n l g).2.1))) 15 (nI ((maF n l g).2.2.2.1))) 16 (nI (cl + 1))) c))) (a 10) (aI G 200 l)) (a 12) (aI G 200 g)) (aI G 200 rr) (aI G 200 ((maF n l g).2.2.1)) (hI.n (i := 11) (j := 10) (by decide))).trans (congrArg (fun mZ => gWr mZ (a 11) (aI G 200 rr)) ((gWr_cm (gWr (gWr M A (.inr (11, oMod a (upd (upd (upd s 14 (nI ((maF n l g).2.1))) 15 (nI ((maF n l g).2.2.2.1))) 16 (nI (cl + 1))) c))) (a 10) (aI G 200 l)) (aI G 200 g) (aI G 200 ((maF n l g).2.2.1)) (hI.n (i := 12) (j := 10) (by decide))).trans (congrArg (fun mZ => gWr mZ (a 12) (aI G 200 g)) (gWr_wr (gWr M A (.inr (11, oMod a (upd (upd (upd s 14 (nI ((maF n l g).2.1))) 15 (nI ((maF n l g).2.2.2.1))) 16 (nI (cl + 1))) c))) (a 10) (aI G 200 l) (aI G 200 ((maF n l g).2.2.1))))))))).trans ((gWr_cm (gWr (gWr (gWr M A (.inr (11, oMod a (upd (upd (upd s 14 (nI ((maF n l g).2.1))) 15 (nI ((maF n l g).2.2.2.1))) 16 (nI (cl + 1))) c))) (a 10) (aI G 200 ((maF n l g).2.2.1))) (a 12) (aI G 200 g)) (aI G 200 rr) (aI G 200 ((maF n l g).2.2.2.2)) (hI.n (i := 11) (j := 12) (by decide))).trans (congrArg (fun mZ => gWr mZ (a 11) (aI G 200 rr)) (gWr_wr (gWr (gWr M A (.inr (11, oMod a (upd (upd (upd s 14 (nI ((maF n l g).2.1))) 15 (nI ((maF n l g).2.2.2.1))) 16 (nI (cl + 1))) c))) (a 10) (aI G 200 ((maF n l g).2.2.1))) (a 12) (aI G 200 g) (aI G 200 ((maF n l g).2.2.2.2))))))) ?_
      by_cases c13 : (bI (maF n l g).1) = 0
      · have c13x : (maF n l g).1 = false := bI_0.mp c13
        refine EvF.gop 89 (go_if_ne_f 92 d_Mod_call_86 (by decide) (c13)) rfl ?_
        refine EvF.gop 91 (go_bipush (v := (-3)) d_Mod_call_89 (by decide)) rfl ?_
        rw [show (mcF (fun i => bo (m * 24 + i)) bn n cl l gn g rr) = (-3, (maF n l g).2.1, cl + 1, (maF n l g).2.2.1, (maF n l g).2.2.2.1, (maF n l g).2.2.2.2, rr) from by unfold mcF; rw [if_neg (by assumption), if_neg (by omega), if_neg (fun q9 => by rw [‹(maF n l g).1 = false›] at q9; cases q9)]]
        exact EvF.ri d_Mod_call_91 rfl (rfl) (rfl)
      · have c13x : (maF n l g).1 = true := bI_n0.mp c13
        refine EvF.gop 92 (go_if_ne_t 92 d_Mod_call_86 (by decide) (c13)) rfl ?_
        refine EvF.gop 93 (go_iload_n d_Mod_call_92 rfl 2 rfl) rfl ?_
        refine EvF.gop 96 (go_if_le_f 107 d_Mod_call_93 (by decide) (by assumption)) rfl ?_
        refine EvF.gop 97 (go_iload_n d_Mod_call_96 rfl 3 rfl) rfl ?_
        refine EvF.gop 98 (go_iload_n d_Mod_call_97 rfl 2 rfl) rfl ?_
        refine EvF.gop 99 (go_aload_n d_Mod_call_98 rfl 0 rfl) rfl ?_
        refine EvF.gop 102 (go_get f_Mod_128 d_Mod_call_99 ((gRd_n _ _ (hI.2 11)).trans ((gRd_n _ _ (hI.2 12)).trans ((gRd_n _ _ (hI.2 10)).trans (gRd_s _ _ _)))) rfl) rfl ?_
        refine EvF.gop 103 (go_iconst (v := 1) d_Mod_call_102 (by decide)) rfl ?_
        refine EvF.gop 104 (go_isub d_Mod_call_103) rfl ?_
        refine EvF.gop 105 (go_imul d_Mod_call_104) rfl ?_
        refine EvF.gop 106 (go_iadd d_Mod_call_105) rfl ?_
        refine EvF.go (go_v (y := nI (exL (fun i => bo (m * 24 + i)) ((maF n l g).2.2.2.1) bn)) (nI_ex (by have := exL_eq (fun i => bo (m * 24 + i)) ((maF n l g).2.2.2.1) bn; omega))) ?_
        refine EvF.gop 107 (go_istore_n [(3, .int (nI (exL (fun i => bo (m * 24 + i)) ((maF n l g).2.2.2.1) bn))), (0, .ref A), (1, .int (nI m)), (2, .int (nI (cntI (fun i => bo (m * 24 + i)) 35 bn))), (4, .int (nI bn))] d_Mod_call_106 rfl (by decide) rfl) rfl ?_
        refine EvF.go (go_pick [1, 2, 3, 0, 4] [(0, .ref A), (1, .int (nI m)), (2, .int (nI (cntI (fun i => bo (m * 24 + i)) 35 bn))), (3, .int (nI (exL (fun i => bo (m * 24 + i)) ((maF n l g).2.2.2.1) bn))), (4, .int (nI bn))] rfl) ?_
        refine EvF.gop 108 (go_iload_n d_Mod_call_107 rfl 3 rfl) rfl ?_
        refine EvF.gop 109 (go_aload_n d_Mod_call_108 rfl 0 rfl) rfl ?_
        refine EvF.gop 112 (go_get f_Mod_125 d_Mod_call_109 ((gRd_n _ _ (hI.2 11)).trans ((gRd_n _ _ (hI.2 12)).trans ((gRd_n _ _ (hI.2 10)).trans (gRd_s _ _ _)))) rfl) rfl ?_
        refine EvF.gop 113 (go_iadd d_Mod_call_112) rfl ?_
        refine EvF.go (go_v (y := nI (exL (fun i => bo (m * 24 + i)) ((maF n l g).2.2.2.1) bn + (maF n l g).2.1)) (nI_add _ _)) ?_
        refine EvF.gop 116 (go_sipush (v := nI 200) d_Mod_call_113 (rfl)) rfl ?_
        have hx1 := exL_lt (bd := (fun i => bo (m * 24 + i))) hbn (maF_le (l := l) (g := g) hn).2
        have hx2 := (maF_le (l := l) (g := g) hn).1
        by_cases c14 : (nI (exL (fun i => bo (m * 24 + i)) ((maF n l g).2.2.2.1) bn + (maF n l g).2.1)) ≤ (nI 200)
        · have c14x : (exL (fun i => bo (m * 24 + i)) ((maF n l g).2.2.2.1) bn + (maF n l g).2.1) ≤ 200 := (nI_leI (a := (exL (fun i => bo (m * 24 + i)) ((maF n l g).2.2.2.1) bn + (maF n l g).2.1)) (b := 200) (by omega) (by decide)).mp c14
          have c14y : ¬ 200 < (exL (fun i => bo (m * 24 + i)) ((maF n l g).2.2.2.1) bn + (maF n l g).2.1) := by omega
          refine EvF.gop 122 (go_icmp_le_t 122 d_Mod_call_116 (by decide) (c14)) rfl ?_
          refine EvF.gop 123 (go_iconst (v := nI 0) d_Mod_call_122 (rfl)) rfl ?_
          refine EvF.gop 125 (go_istore [(4, .int (nI 0)), (0, .ref A), (1, .int (nI m)), (2, .int (nI (cntI (fun i => bo (m * 24 + i)) 35 bn))), (3, .int (nI (exL (fun i => bo (m * 24 + i)) ((maF n l g).2.2.2.1) bn)))] d_Mod_call_123 (by decide) rfl) rfl ?_
          refine EvF.go (go_pick [1, 2, 3, 4, 0] [(0, .ref A), (1, .int (nI m)), (2, .int (nI (cntI (fun i => bo (m * 24 + i)) 35 bn))), (3, .int (nI (exL (fun i => bo (m * 24 + i)) ((maF n l g).2.2.2.1) bn))), (4, .int (nI 0))] rfl) ?_
          refine EvF.go (go_pick [0, 1, 4] [(0, .ref A), (1, .int (nI m)), (4, .int (nI 0))] rfl) ?_
          have hn9 : (maF n l g).2.1 ≤ 200 := Nat.le_trans (maF_le (l := l) (g := g) hn).1 hn
          have hg9 : (maF n l g).2.2.2.1 ≤ 200 := (maF_le (l := l) (g := g) hn).2
          have hp9 := piF_1 (fun i => bo (m * 24 + i)) ((maF n l g).2.2.2.1) ((maF n l g).2.2.2.2) 0 ((maF n l g).2.2.1) bn
          refine EvF.go (go_m (M' := (gWr (gWr (gWr (gWr M A (.inr (11, oMod a (upd (upd (upd s 14 (nI ((maF n l g).2.1))) 15 (nI ((maF n l g).2.2.2.1))) 16 (nI (cl + 1))) c))) (a 10) (aI G 200 ((maF n l g).2.2.1))) (a 12) (aI G 200 ((maF n l g).2.2.2.2))) (a 11) (aI G 200 (cpI ((maF n l g).2.2.1) 0 rr)))) (by rw [cpI_0])) ?_
          refine EvF.go (g_Mod_call2 G M A a s c bo bl m bn ((maF n l g).2.1) ((maF n l g).2.2.2.1) (cl + 1) ((maF n l g).2.2.1) ((maF n l g).2.2.2.2) rr hI m4 m5 hm hb hbn hn9 ((maF n l g).2.1) 0 (by omega)) ?_
          refine EvF.gop 155 (go_iconst (v := nI (piF (fun i => bo (m * 24 + i)) ((maF n l g).2.2.2.1) ((maF n l g).2.2.2.2) 0 ((maF n l g).2.2.1) 0).1) d_Mod_call_154 (rfl)) rfl ?_
          refine EvF.gop 157 (go_istore [(4, .int (nI (piF (fun i => bo (m * 24 + i)) ((maF n l g).2.2.2.1) ((maF n l g).2.2.2.2) 0 ((maF n l g).2.2.1) 0).1)), (0, .ref A), (1, .int (nI m))] d_Mod_call_155 (by decide) rfl) rfl ?_
          refine EvF.go (go_pick [1, 2, 0] [(0, .ref A), (1, .int (nI m)), (4, .int (nI (piF (fun i => bo (m * 24 + i)) ((maF n l g).2.2.2.1) ((maF n l g).2.2.2.2) 0 ((maF n l g).2.2.1) 0).1))] rfl) ?_
          refine EvF.gop 158 (go_iconst (v := nI 0) d_Mod_call_157 (rfl)) rfl ?_
          refine EvF.gop 160 (go_istore [(5, .int (nI 0)), (0, .ref A), (1, .int (nI m)), (4, .int (nI (piF (fun i => bo (m * 24 + i)) ((maF n l g).2.2.2.1) ((maF n l g).2.2.2.2) 0 ((maF n l g).2.2.1) 0).1))] d_Mod_call_158 (by decide) rfl) rfl ?_
          refine EvF.go (go_pick [1, 2, 3, 0] [(0, .ref A), (1, .int (nI m)), (4, .int (nI (piF (fun i => bo (m * 24 + i)) ((maF n l g).2.2.2.1) ((maF n l g).2.2.2.2) 0 ((maF n l g).2.2.1) 0).1)), (5, .int (nI 0))] rfl) ?_
          refine EvF.go (g_Mod_call4 G M A a s c bo bl m bn ((maF n l g).2.1) ((maF n l g).2.2.2.1) (cl + 1) ((maF n l g).2.2.1) ((maF n l g).2.2.2.2) (cpI ((maF n l g).2.2.1) ((maF n l g).2.1) rr) hI m4 m5 hm hb hbn hg9 (by omega) bn 0 (by omega)) ?_
          refine EvF.gop 256 (go_iconst (v := nI 0) d_Mod_call_255 (rfl)) rfl ?_
          refine EvF.gop 258 (go_istore [(5, .int (nI 0)), (0, .ref A), (1, .int (nI m)), (4, .int (nI (piF (fun i => bo (m * 24 + i)) ((maF n l g).2.2.2.1) ((maF n l g).2.2.2.2) 0 ((maF n l g).2.2.1) bn).1))] d_Mod_call_256 (by decide) rfl) rfl ?_
          refine EvF.go (go_pick [1, 2, 3, 0] [(0, .ref A), (1, .int (nI m)), (4, .int (nI (piF (fun i => bo (m * 24 + i)) ((maF n l g).2.2.2.1) ((maF n l g).2.2.2.2) 0 ((maF n l g).2.2.1) bn).1)), (5, .int (nI 0))] rfl) ?_
          refine EvF.go (go_m (M' := (gWr (gWr (gWr (gWr M A (.inr (11, oMod a (upd (upd (upd s 14 (nI ((maF n l g).2.1))) 15 (nI ((maF n l g).2.2.2.1))) 16 (nI (cl + 1))) c))) (a 10) (aI G 200 (wrB (piF (fun i => bo (m * 24 + i)) ((maF n l g).2.2.2.1) ((maF n l g).2.2.2.2) 0 ((maF n l g).2.2.1) bn).2 (piF (fun i => bo (m * 24 + i)) ((maF n l g).2.2.2.1) ((maF n l g).2.2.2.2) 0 ((maF n l g).2.2.1) bn).1 (cpI ((maF n l g).2.2.1) ((maF n l g).2.1) rr) 0))) (a 12) (aI G 200 ((maF n l g).2.2.2.2))) (a 11) (aI G 200 (cpI ((maF n l g).2.2.1) ((maF n l g).2.1) rr)))) (by rw [wrB_0])) ?_
          refine EvF.go (g_Mod_call5 G M A a s c bo bl m bn ((maF n l g).2.1) ((maF n l g).2.2.2.1) (cl + 1) (piF (fun i => bo (m * 24 + i)) ((maF n l g).2.2.2.1) ((maF n l g).2.2.2.2) 0 ((maF n l g).2.2.1) bn).2 ((maF n l g).2.2.2.2) (cpI ((maF n l g).2.2.1) ((maF n l g).2.1) rr) (piF (fun i => bo (m * 24 + i)) ((maF n l g).2.2.2.1) ((maF n l g).2.2.2.2) 0 ((maF n l g).2.2.1) bn).1 hI m4 m5 hm hb hbn (by omega) ((maF n l g).2.1) 0 (by omega)) ?_
          refine EvF.gop 291 (go_aload_n d_Mod_call_290 rfl 0 rfl) rfl ?_
          refine EvF.gop 292 (go_dup d_Mod_call_291 rfl) rfl ?_
          refine EvF.gop 295 (go_get f_Mod_125 d_Mod_call_292 ((gRd_n _ _ (hI.2 11)).trans ((gRd_n _ _ (hI.2 12)).trans ((gRd_n _ _ (hI.2 10)).trans (gRd_s _ _ _)))) rfl) rfl ?_
          refine EvF.gop 297 (go_iload d_Mod_call_295 2 rfl) rfl ?_
          refine EvF.gop 298 (go_iadd d_Mod_call_297) rfl ?_
          refine EvF.go (go_v (y := nI ((maF n l g).2.1 + (piF (fun i => bo (m * 24 + i)) ((maF n l g).2.2.2.1) ((maF n l g).2.2.2.2) 0 ((maF n l g).2.2.1) bn).1)) (nI_add _ _)) ?_
          refine EvF.gop 301 (go_put (oMod a (upd (upd (upd s 14 (nI ((maF n l g).2.1 + (piF (fun i => bo (m * 24 + i)) ((maF n l g).2.2.2.1) ((maF n l g).2.2.2.2) 0 ((maF n l g).2.2.1) bn).1))) 15 (nI ((maF n l g).2.2.2.1))) 16 (nI (cl + 1))) c) f_Mod_125 ft_Mod_14 d_Mod_call_298 ((gRd_n _ _ (hI.2 11)).trans ((gRd_n _ _ (hI.2 12)).trans ((gRd_n _ _ (hI.2 10)).trans (gRd_s _ _ _)))) rfl rfl (Nat.le_of_ble_eq_true rfl) rfl) rfl ?_
          refine EvF.go (go_m (M' := (gWr (gWr (gWr (gWr M A (.inr (11, oMod a (upd (upd (upd s 14 (nI ((maF n l g).2.1 + (piF (fun i => bo (m * 24 + i)) ((maF n l g).2.2.2.1) ((maF n l g).2.2.2.2) 0 ((maF n l g).2.2.1) bn).1))) 15 (nI ((maF n l g).2.2.2.1))) 16 (nI (cl + 1))) c))) (a 10) (aI G 200 (wrB (piF (fun i => bo (m * 24 + i)) ((maF n l g).2.2.2.1) ((maF n l g).2.2.2.2) 0 ((maF n l g).2.2.1) bn).2 (piF (fun i => bo (m * 24 + i)) ((maF n l g).2.2.2.1) ((maF n l g).2.2.2.2) 0 ((maF n l g).2.2.1) bn).1 (cpI ((maF n l g).2.2.1) ((maF n l g).2.1) rr) ((maF n l g).2.1)))) (a 12) (aI G 200 ((maF n l g).2.2.2.2))) (a 11) (aI G 200 (cpI ((maF n l g).2.2.1) ((maF n l g).2.1) rr)))) ((gWr_cm (gWr (gWr (gWr M A (.inr (11, oMod a (upd (upd (upd s 14 (nI ((maF n l g).2.1))) 15 (nI ((maF n l g).2.2.2.1))) 16 (nI (cl + 1))) c))) (a 10) (aI G 200 (wrB (piF (fun i => bo (m * 24 + i)) ((maF n l g).2.2.2.1) ((maF n l g).2.2.2.2) 0 ((maF n l g).2.2.1) bn).2 (piF (fun i => bo (m * 24 + i)) ((maF n l g).2.2.2.1) ((maF n l g).2.2.2.2) 0 ((maF n l g).2.2.1) bn).1 (cpI ((maF n l g).2.2.1) ((maF n l g).2.1) rr) ((maF n l g).2.1)))) (a 12) (aI G 200 ((maF n l g).2.2.2.2))) (aI G 200 (cpI ((maF n l g).2.2.1) ((maF n l g).2.1) rr)) (.inr (11, oMod a (upd (upd (upd s 14 (nI ((maF n l g).2.1 + (piF (fun i => bo (m * 24 + i)) ((maF n l g).2.2.2.1) ((maF n l g).2.2.2.2) 0 ((maF n l g).2.2.1) bn).1))) 15 (nI ((maF n l g).2.2.2.1))) 16 (nI (cl + 1))) c)) (Ne.symm (hI.2 11))).trans (congrArg (fun mZ => gWr mZ (a 11) (aI G 200 (cpI ((maF n l g).2.2.1) ((maF n l g).2.1) rr))) ((gWr_cm (gWr (gWr M A (.inr (11, oMod a (upd (upd (upd s 14 (nI ((maF n l g).2.1))) 15 (nI ((maF n l g).2.2.2.1))) 16 (nI (cl + 1))) c))) (a 10) (aI G 200 (wrB (piF (fun i => bo (m * 24 + i)) ((maF n l g).2.2.2.1) ((maF n l g).2.2.2.2) 0 ((maF n l g).2.2.1) bn).2 (piF (fun i => bo (m * 24 + i)) ((maF n l g).2.2.2.1) ((maF n l g).2.2.2.2) 0 ((maF n l g).2.2.1) bn).1 (cpI ((maF n l g).2.2.1) ((maF n l g).2.1) rr) ((maF n l g).2.1)))) (aI G 200 ((maF n l g).2.2.2.2)) (.inr (11, oMod a (upd (upd (upd s 14 (nI ((maF n l g).2.1 + (piF (fun i => bo (m * 24 + i)) ((maF n l g).2.2.2.1) ((maF n l g).2.2.2.2) 0 ((maF n l g).2.2.1) bn).1))) 15 (nI ((maF n l g).2.2.2.1))) 16 (nI (cl + 1))) c)) (Ne.symm (hI.2 12))).trans (congrArg (fun mZ => gWr mZ (a 12) (aI G 200 ((maF n l g).2.2.2.2))) ((gWr_cm (gWr M A (.inr (11, oMod a (upd (upd (upd s 14 (nI ((maF n l g).2.1))) 15 (nI ((maF n l g).2.2.2.1))) 16 (nI (cl + 1))) c))) (aI G 200 (wrB (piF (fun i => bo (m * 24 + i)) ((maF n l g).2.2.2.1) ((maF n l g).2.2.2.2) 0 ((maF n l g).2.2.1) bn).2 (piF (fun i => bo (m * 24 + i)) ((maF n l g).2.2.2.1) ((maF n l g).2.2.2.2) 0 ((maF n l g).2.2.1) bn).1 (cpI ((maF n l g).2.2.1) ((maF n l g).2.1) rr) ((maF n l g).2.1))) (.inr (11, oMod a (upd (upd (upd s 14 (nI ((maF n l g).2.1 + (piF (fun i => bo (m * 24 + i)) ((maF n l g).2.2.2.1) ((maF n l g).2.2.2.2) 0 ((maF n l g).2.2.1) bn).1))) 15 (nI ((maF n l g).2.2.2.1))) 16 (nI (cl + 1))) c)) (Ne.symm (hI.2 10))).trans (congrArg (fun mZ => gWr mZ (a 10) (aI G 200 (wrB (piF (fun i => bo (m * 24 + i)) ((maF n l g).2.2.2.1) ((maF n l g).2.2.2.2) 0 ((maF n l g).2.2.1) bn).2 (piF (fun i => bo (m * 24 + i)) ((maF n l g).2.2.2.1) ((maF n l g).2.2.2.2) 0 ((maF n l g).2.2.1) bn).1 (cpI ((maF n l g).2.2.1) ((maF n l g).2.1) rr) ((maF n l g).2.1)))) (gWr_wr M A (.inr (11, oMod a (upd (upd (upd s 14 (nI ((maF n l g).2.1))) 15 (nI ((maF n l g).2.2.2.1))) 16 (nI (cl + 1))) c)) (.inr (11, oMod a (upd (upd (upd s 14 (nI ((maF n l g).2.1 + (piF (fun i => bo (m * 24 + i)) ((maF n l g).2.2.2.1) ((maF n l g).2.2.2.2) 0 ((maF n l g).2.2.1) bn).1))) 15 (nI ((maF n l g).2.2.2.1))) 16 (nI (cl + 1))) c)))))))))) ?_
          refine EvF.gop 302 (go_iconst (v := 0) d_Mod_call_301 (by decide)) rfl ?_
          rw [show (mcF (fun i => bo (m * 24 + i)) bn n cl l gn g rr) = (0, (maF n l g).2.1 + (piF (fun i => bo (m * 24 + i)) ((maF n l g).2.2.2.1) ((maF n l g).2.2.2.2) 0 ((maF n l g).2.2.1) bn).1, cl + 1, wrB (piF (fun i => bo (m * 24 + i)) ((maF n l g).2.2.2.1) ((maF n l g).2.2.2.2) 0 ((maF n l g).2.2.1) bn).2 (piF (fun i => bo (m * 24 + i)) ((maF n l g).2.2.2.1) ((maF n l g).2.2.2.2) 0 ((maF n l g).2.2.1) bn).1 (cpI ((maF n l g).2.2.1) ((maF n l g).2.1) rr) (maF n l g).2.1, (maF n l g).2.2.2.1, (maF n l g).2.2.2.2, cpI ((maF n l g).2.2.1) ((maF n l g).2.1) rr) from by unfold mcF; rw [if_neg (by assumption), if_neg (by omega), if_pos (by assumption)]; unfold mc2; rw [if_pos (by omega)]]
          exact EvF.ri d_Mod_call_302 rfl (rfl) (rfl)
        · have c14x : 200 < (exL (fun i => bo (m * 24 + i)) ((maF n l g).2.2.2.1) bn + (maF n l g).2.1) := Nat.lt_of_not_le (fun q9 => c14 ((nI_leI (a := (exL (fun i => bo (m * 24 + i)) ((maF n l g).2.2.2.1) bn + (maF n l g).2.1)) (b := 200) (by omega) (by decide)).mpr q9))
          have c14y : ¬ (exL (fun i => bo (m * 24 + i)) ((maF n l g).2.2.2.1) bn + (maF n l g).2.1) ≤ 200 := by omega
          refine EvF.gop 119 (go_icmp_le_f 122 d_Mod_call_116 (by decide) (c14)) rfl ?_
          refine EvF.gop 121 (go_bipush (v := (-4)) d_Mod_call_119 (by decide)) rfl ?_
          rw [show (mcF (fun i => bo (m * 24 + i)) bn n cl l gn g rr) = (-4, (maF n l g).2.1, cl + 1, (maF n l g).2.2.1, (maF n l g).2.2.2.1, (maF n l g).2.2.2.2, rr) from by unfold mcF; rw [if_neg (by assumption), if_neg (by omega), if_pos (by assumption)]; unfold mc2; rw [if_neg (by omega)]]
          exact EvF.ri d_Mod_call_121 rfl (rfl) (rfl)
theorem e_Mod_callU (G : gG) (M : gM) (A : Nat) (a : Nat → Nat) (s : Nat → Int32) (c : Int64) (bl : Nat → Int32) (m : Nat) (hI : InjA A a) (hA : gRd M A = some (.inr (11, oMod a s c))) (m5 : gRd M (a 5) = some (aI G 4 bl)) (hm : m < 4) (hb : ¬ 0 ≤ bl m) : Ev G 2 m_Mod_call [.ref A, .int (nI m)] M (some (.int (-3))) M := by
  refine Ev.of (Nat.le_of_ble_eq_true rfl) ?_
  show EvF G 2 m_Mod_call (0, [(0, .ref A), (1, .int (nI m))], [], M) _ _
  refine EvF.gop 1 (go_aload_n d_Mod_call_0 rfl 0 rfl) rfl ?_
  refine EvF.gop 4 (go_get f_Mod_22 d_Mod_call_1 (hA) rfl) rfl ?_
  refine EvF.gop 5 (go_iload_n d_Mod_call_4 rfl 1 rfl) rfl ?_
  refine EvF.gop 6 (go_iald (j := m) d_Mod_call_5 (m5) (rfl) (hm) (by omega)) rfl ?_
  refine EvF.gop 9 (go_if_ge_f 12 d_Mod_call_6 (by decide) (hb)) rfl ?_
  refine EvF.gop 11 (go_bipush (v := (-3)) d_Mod_call_9 (by decide)) rfl ?_
  exact EvF.ri d_Mod_call_11 rfl (rfl) (rfl)
