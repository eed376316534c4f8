theorem c_PS (G : gG) (M : gM) (p : Nat) (h0 : gRd M p = some (.inr (10, [.null, .null, .null, .null, .null, .null, .null, .null]))) (hb : M.2.1 = p + 1) : ∃ M2 : gM, Ev G 4 m_PS_init [.ref p] M none M2 ∧ XAt M2 p (p + 90) (p + 106) ∧ TypAt G M2 p (fun _ => 0) 0 ∧ gRd M2 (p + 3) = some (aI G 27 (cpI (fun _ => 5) 27 (fun _ => 0))) ∧ gRd M2 (p + 4) = some (aI G 5 (cpI (gSv 0) 5 (fun _ => 0))) ∧ ExpAt G M2 p 0 0 0 0 0 (fun _ => 0) (fun _ => 0) (fun _ => 0) ∧ MacAt G M2 p (fun _ => false) (fun _ => 0) (fun _ _ => 0) ∧ HypAt G M2 p 0 (fun _ => 0) (fun _ => 0) (fun _ _ => 0) (fun _ _ => 0) ∧ ChoAt G M2 p ((fun _ => 0), (fun _ => 0), (fun _ => 0)) ∧ StgAt G M2 (sA (p + 90)) 0 0 0 0 0 (fun _ => 0) (fun _ => 0) (fun _ => 0) (fun _ => 0) (fun _ => 0) (fun _ => 0) (fun _ => 0) (fun _ => 0) (fun _ => 0) (fun _ => 0) ∧ TxtAt G M2 (p + 90) 0 (fun _ => 0) (fun _ => 0) ∧ StgAt G M2 (sA (p + 106)) 0 0 0 0 0 (fun _ => 0) (fun _ => 0) (fun _ => 0) (fun _ => 0) (fun _ => 0) (fun _ => 0) (fun _ => 0) (fun _ => 0) (fun _ => 0) (fun _ => 0) ∧ TxtAt G M2 (p + 106) 0 (fun _ => 0) (fun _ => 0) ∧ M2.2 = (p + 122, M.2.2 + 3072) ∧ (∀ q, q < p → gRd M2 q = gRd M q) := by
  obtain ⟨Ma, ga, a0, a1, a3, a4, av, af⟩ := c_PSa G M p h0 hb
  obtain ⟨Mb, gb, b0, b1, b2, bv, bf⟩ := c_PSb G Ma p a0 (by rw [av])
  obtain ⟨Mc, gc, c0, c1, cv, cf⟩ := c_PSc G Mb p b0 (by rw [bv])
  obtain ⟨Md, gd, d0, d1, dv, df⟩ := c_PSd G Mc p c0 (by rw [cv])
  obtain ⟨Me, ge, e0, e1, e2, ev, ef⟩ := c_PSe G Md p d0 (by rw [dv])
  obtain ⟨Mf, gf, f0, f1, f2, fv, ff⟩ := c_PSf G Me p e0 (by rw [ev])
  have kb : ∀ q, q < p + 5 → q ≠ p → gRd Mf q = gRd Ma q := fun q h1 h2 => (ff q (by omega) h2).trans ((ef q (by omega) h2).trans ((df q (by omega) h2).trans ((cf q (by omega) h2).trans (bf q h1 h2))))
  have kc : ∀ q, q < p + 23 → q ≠ p → gRd Mf q = gRd Mb q := fun q h1 h2 => (ff q (by omega) h2).trans ((ef q (by omega) h2).trans ((df q (by omega) h2).trans (cf q h1 h2)))
  have kd : ∀ q, q < p + 86 → q ≠ p → gRd Mf q = gRd Mc q := fun q h1 h2 => (ff q (by omega) h2).trans ((ef q (by omega) h2).trans (df q h1 h2))
  have ke : ∀ q, q < p + 90 → q ≠ p → gRd Mf q = gRd Md q := fun q h1 h2 => (ff q (by omega) h2).trans (ef q h1 h2)
  have t3 : gRd Mf (p + 3) = some (aI G 27 (fun _ => 0)) := (kb _ (by omega) (by omega)).trans a3
  have t4 : gRd Mf (p + 4) = some (aI G 5 (fun _ => 0)) := (kb _ (by omega) (by omega)).trans a4
  refine ⟨(gWr (gWr Mf (p + 3) (aI G 27 (cpI (fun _ => 5) 27 (fun _ => 0)))) (p + 4) (aI G 5 (cpI (gSv 0) 5 (fun _ => 0)))), ?_, ?_, a1.sm (fun q h1 h2 => (gRd_n _ _ (by omega)).trans ((gRd_n _ _ (by omega)).trans (kb q (by omega) (by omega)))), ?_, gRd_s _ _ _, b1.sm (fun q h1 h2 => (gRd_n _ _ (by omega)).trans ((gRd_n _ _ (by omega)).trans (kc q (by omega) (by omega)))), b2.sm (fun q h1 h2 => (gRd_n _ _ (by omega)).trans ((gRd_n _ _ (by omega)).trans (kc q (by omega) (by omega)))), c1.sm (fun q h1 h2 => (gRd_n _ _ (by omega)).trans ((gRd_n _ _ (by omega)).trans (kd q (by omega) (by omega)))), d1.sm (fun q h1 h2 => (gRd_n _ _ (by omega)).trans ((gRd_n _ _ (by omega)).trans (ke q (by omega) (by omega)))), e1.sm (fun q h1 h2 => (gRd_n _ _ (by omega)).trans ((gRd_n _ _ (by omega)).trans (ff q (by omega) (by omega)))), e2.sm (fun q h1 h2 => (gRd_n _ _ (by omega)).trans ((gRd_n _ _ (by omega)).trans (ff q (by omega) (by omega)))), f1.sm (fun q h1 h2 => (gRd_n _ _ (by omega)).trans ((gRd_n _ _ (by omega)).trans (rfl))), f2.sm (fun q h1 h2 => (gRd_n _ _ (by omega)).trans ((gRd_n _ _ (by omega)).trans (rfl))), ?_, fun q hq => ?_⟩
  · refine Ev.of (Nat.le_of_ble_eq_true rfl) ?_
    show EvF G 4 m_PS_init (0, [(0, .ref p)], [], M) _ _
    refine EvF.go (ga.tr (gb.tr (gc.tr (gd.tr (ge.tr gf))))) ?_
    refine EvF.gop 91 (go_iconst (v := nI 0) d_PS_init_90 (rfl)) rfl ?_
    refine EvF.gop 92 (go_istore_n [(1, .int (nI 0)), (0, .ref p)] d_PS_init_91 rfl (by decide) rfl) rfl ?_
    refine EvF.go (go_pick [1, 0] [(0, .ref p), (1, .int (nI 0))] rfl) ?_
    refine EvF.go (go_m (M' := (gWr Mf (p + 3) (aI G 27 (fun _ => 0)))) (gWr_id (t3)).symm) ?_
    refine EvF.go (go_m (M' := (gWr Mf (p + 3) (aI G 27 (cpI (fun _ => 5) 0 (fun _ => 0))))) (by rw [cpI_0])) ?_
    refine EvF.go (g_PS_init1 G Mf p (fun _ => 0) (fun _ => 0) f0 t3 t4 27 0 (by omega)) ?_
    refine EvF.gop 115 (go_iconst (v := nI 0) d_PS_init_114 (rfl)) rfl ?_
    refine EvF.gop 116 (go_istore_n [(1, .int (nI 0)), (0, .ref p)] d_PS_init_115 rfl (by decide) rfl) rfl ?_
    refine EvF.go (go_pick [1, 0] [(0, .ref p), (1, .int (nI 0))] rfl) ?_
    refine EvF.go (go_m (M' := (gWr (gWr Mf (p + 3) (aI G 27 (cpI (fun _ => 5) 27 (fun _ => 0)))) (p + 4) (aI G 5 (fun _ => 0)))) (gWr_id ((gRd_n _ _ (by omega)).trans (t4))).symm) ?_
    refine EvF.go (go_m (M' := (gWr (gWr Mf (p + 3) (aI G 27 (cpI (fun _ => 5) 27 (fun _ => 0)))) (p + 4) (aI G 5 (cpI (gSv 0) 0 (fun _ => 0))))) (by rw [cpI_0])) ?_
    refine EvF.go (g_PS_init2 G (gWr Mf (p + 3) (aI G 27 (cpI (fun _ => 5) 27 (fun _ => 0)))) p (cpI (fun _ => 5) 27 (fun _ => 0)) (fun _ => 0) ((gRd_n _ _ (by omega)).trans f0) (gRd_s _ _ _) ((gRd_n _ _ (by omega)).trans t4) 5 0 (by omega)) ?_
    exact EvF.rv d_PS_init_142 rfl rfl
  · exact (gRd_n _ _ (by omega)).trans ((gRd_n _ _ (by omega)).trans f0)
  · exact (gRd_n _ _ (by omega)).trans (gRd_s _ _ _)
  · show Mf.2 = _; rw [fv, ev, dv, cv, bv, av]
  · rw [gRd_n _ _ (by omega), gRd_n _ _ (by omega), kb q (by omega) (by omega), af q hq]
/-- the model with its first t arrays laid -/
def oMb (A t : Nat) : List Value := (List.range 52).map (fun i => if mK i = true then (if mP i ≤ t then .ref (A + mP i) else .null) else if i = 51 then .long 0 else .int 0)
theorem c_Md1 (G : gG) (M : gM) (A : Nat) (h0 : gRd M A = some (.inr (11, oMb A 0))) (hb : M.2.1 = A + 1) : ∃ M2 : gM, Go G m_Mod_init 1 (0, [(0, .ref A)], [], M) (12, [(0, .ref A)], [], M2) ∧ gRd M2 A = some (.inr (11, oMb A 1)) ∧ gRd M2 (A + 1) = some (aI G 60 (fun _ => 0)) ∧ M2.2 = (A + 2, M.2.2 + 60) ∧ (∀ q, q < A + 1 → q ≠ A → gRd M2 q = gRd M q) := by
  refine ⟨gWr (gWr (gXt M 1 60) (A + 1) (aI G 60 (fun _ => 0))) A (.inr (11, oMb A 1)), ?_, gRd_s _ _ _, (gRd_n _ _ (by omega)).trans (gRd_s _ _ _), by show (M.2.1 + 1, M.2.2 + 60) = _; rw [hb], fun q h1 h2 => (gRd_n _ _ h2).trans (gRd_n _ _ (by omega))⟩
  refine Go.trp 1 (go_aload_n d_Mod_init_0 rfl 0 rfl) rfl ?_
  refine Go.trp 4 (go_obj ob_Mod_1 ob_im ob_co d_Mod_init_1 (by decide) (Nat.le_of_ble_eq_true rfl)) rfl ?_
  refine Go.trp 5 (go_aload_n d_Mod_init_4 rfl 0 rfl) rfl ?_
  refine Go.trp 7 (go_bipush (v := 60) d_Mod_init_5 (by decide)) rfl ?_
  refine Go.trp 9 (go_newI (N := 60) rfl (by decide) d_Mod_init_7 ac_int) rfl ?_
  refine (go_al (a := A + 1) (M' := (gWr (gXt M 1 60) (A + 1) (aI G 60 (fun _ => 0)))) hb (gNw_at hb)).tr ?_
  refine Go.trp 12 (go_putF (oMb A 1) f_Mod_7 ft_Mod_0 ff_Mod_7 rfl d_Mod_init_9 ((gRd_n _ _ (by omega)).trans h0) (rfl) (rfl) (Nat.le_of_ble_eq_true rfl) rfl) rfl ?_
  exact Go.rf
theorem c_Md2 (G : gG) (M : gM) (A : Nat) (h0 : gRd M A = some (.inr (11, oMb A 1))) (hb : M.2.1 = A + 2) : ∃ M2 : gM, Go G m_Mod_init 1 (12, [(0, .ref A)], [], M) (21, [(0, .ref A)], [], M2) ∧ gRd M2 A = some (.inr (11, oMb A 2)) ∧ gRd M2 (A + 2) = some (aI G 128 (fun _ => 0)) ∧ M2.2 = (A + 3, M.2.2 + 128) ∧ (∀ q, q < A + 2 → q ≠ A → gRd M2 q = gRd M q) := by
  refine ⟨gWr (gWr (gXt M 1 128) (A + 2) (aI G 128 (fun _ => 0))) A (.inr (11, oMb A 2)), ?_, gRd_s _ _ _, (gRd_n _ _ (by omega)).trans (gRd_s _ _ _), by show (M.2.1 + 1, M.2.2 + 128) = _; rw [hb], fun q h1 h2 => (gRd_n _ _ h2).trans (gRd_n _ _ (by omega))⟩
  refine Go.trp 13 (go_aload_n d_Mod_init_12 rfl 0 rfl) rfl ?_
  refine Go.trp 16 (go_sipush (v := 128) d_Mod_init_13 (by decide)) rfl ?_
  refine Go.trp 18 (go_newI (N := 128) rfl (by decide) d_Mod_init_16 ac_int) rfl ?_
  refine (go_al (a := A + 2) (M' := (gWr (gXt M 1 128) (A + 2) (aI G 128 (fun _ => 0)))) hb (gNw_at hb)).tr ?_
  refine Go.trp 21 (go_putF (oMb A 2) f_Mod_13 ft_Mod_2 ff_Mod_13 rfl d_Mod_init_18 ((gRd_n _ _ (by omega)).trans h0) (rfl) (rfl) (Nat.le_of_ble_eq_true rfl) rfl) rfl ?_
  exact Go.rf
theorem c_Md3 (G : gG) (M : gM) (A : Nat) (h0 : gRd M A = some (.inr (11, oMb A 2))) (hb : M.2.1 = A + 3) : ∃ M2 : gM, Go G m_Mod_init 1 (21, [(0, .ref A)], [], M) (28, [(0, .ref A)], [], M2) ∧ gRd M2 A = some (.inr (11, oMb A 3)) ∧ gRd M2 (A + 3) = some (aI G 5 (fun _ => 0)) ∧ M2.2 = (A + 4, M.2.2 + 5) ∧ (∀ q, q < A + 3 → q ≠ A → gRd M2 q = gRd M q) := by
  refine ⟨gWr (gWr (gXt M 1 5) (A + 3) (aI G 5 (fun _ => 0))) A (.inr (11, oMb A 3)), ?_, gRd_s _ _ _, (gRd_n _ _ (by omega)).trans (gRd_s _ _ _), by show (M.2.1 + 1, M.2.2 + 5) = _; rw [hb], fun q h1 h2 => (gRd_n _ _ h2).trans (gRd_n _ _ (by omega))⟩
  refine Go.trp 22 (go_aload_n d_Mod_init_21 rfl 0 rfl) rfl ?_
  refine Go.trp 23 (go_iconst (v := 5) d_Mod_init_22 (by decide)) rfl ?_
  refine Go.trp 25 (go_newI (N := 5) rfl (by decide) d_Mod_init_23 ac_int) rfl ?_
  refine (go_al (a := A + 3) (M' := (gWr (gXt M 1 5) (A + 3) (aI G 5 (fun _ => 0)))) hb (gNw_at hb)).tr ?_
  refine Go.trp 28 (go_putF (oMb A 3) f_Mod_16 ft_Mod_3 ff_Mod_16 rfl d_Mod_init_25 ((gRd_n _ _ (by omega)).trans h0) (rfl) (rfl) (Nat.le_of_ble_eq_true rfl) rfl) rfl ?_
  exact Go.rf
theorem c_Md4 (G : gG) (M : gM) (A : Nat) (h0 : gRd M A = some (.inr (11, oMb A 3))) (hb : M.2.1 = A + 4) : ∃ M2 : gM, Go G m_Mod_init 1 (28, [(0, .ref A)], [], M) (36, [(0, .ref A)], [], M2) ∧ gRd M2 A = some (.inr (11, oMb A 4)) ∧ gRd M2 (A + 4) = some (aI G 96 (fun _ => 0)) ∧ M2.2 = (A + 5, M.2.2 + 96) ∧ (∀ q, q < A + 4 → q ≠ A → gRd M2 q = gRd M q) := by
  refine ⟨gWr (gWr (gXt M 1 96) (A + 4) (aI G 96 (fun _ => 0))) A (.inr (11, oMb A 4)), ?_, gRd_s _ _ _, (gRd_n _ _ (by omega)).trans (gRd_s _ _ _), by show (M.2.1 + 1, M.2.2 + 96) = _; rw [hb], fun q h1 h2 => (gRd_n _ _ h2).trans (gRd_n _ _ (by omega))⟩
  refine Go.trp 29 (go_aload_n d_Mod_init_28 rfl 0 rfl) rfl ?_
  refine Go.trp 31 (go_bipush (v := 96) d_Mod_init_29 (by decide)) rfl ?_
  refine Go.trp 33 (go_newI (N := 96) rfl (by decide) d_Mod_init_31 ac_int) rfl ?_
  refine (go_al (a := A + 4) (M' := (gWr (gXt M 1 96) (A + 4) (aI G 96 (fun _ => 0)))) hb (gNw_at hb)).tr ?_
  refine Go.trp 36 (go_putF (oMb A 4) f_Mod_19 ft_Mod_4 ff_Mod_19 rfl d_Mod_init_33 ((gRd_n _ _ (by omega)).trans h0) (rfl) (rfl) (Nat.le_of_ble_eq_true rfl) rfl) rfl ?_
  exact Go.rf
theorem c_Md5 (G : gG) (M : gM) (A : Nat) (h0 : gRd M A = some (.inr (11, oMb A 4))) (hb : M.2.1 = A + 5) : ∃ M2 : gM, Go G m_Mod_init 1 (36, [(0, .ref A)], [], M) (43, [(0, .ref A)], [], M2) ∧ gRd M2 A = some (.inr (11, oMb A 5)) ∧ gRd M2 (A + 5) = some (aI G 4 (fun _ => 0)) ∧ M2.2 = (A + 6, M.2.2 + 4) ∧ (∀ q, q < A + 5 → q ≠ A → gRd M2 q = gRd M q) := by
  refine ⟨gWr (gWr (gXt M 1 4) (A + 5) (aI G 4 (fun _ => 0))) A (.inr (11, oMb A 5)), ?_, gRd_s _ _ _, (gRd_n _ _ (by omega)).trans (gRd_s _ _ _), by show (M.2.1 + 1, M.2.2 + 4) = _; rw [hb], fun q h1 h2 => (gRd_n _ _ h2).trans (gRd_n _ _ (by omega))⟩
  refine Go.trp 37 (go_aload_n d_Mod_init_36 rfl 0 rfl) rfl ?_
  refine Go.trp 38 (go_iconst (v := 4) d_Mod_init_37 (by decide)) rfl ?_
  refine Go.trp 40 (go_newI (N := 4) rfl (by decide) d_Mod_init_38 ac_int) rfl ?_
  refine (go_al (a := A + 5) (M' := (gWr (gXt M 1 4) (A + 5) (aI G 4 (fun _ => 0)))) hb (gNw_at hb)).tr ?_
  refine Go.trp 43 (go_putF (oMb A 5) f_Mod_22 ft_Mod_5 ff_Mod_22 rfl d_Mod_init_40 ((gRd_n _ _ (by omega)).trans h0) (rfl) (rfl) (Nat.le_of_ble_eq_true rfl) rfl) rfl ?_
  exact Go.rf
theorem c_Md6 (G : gG) (M : gM) (A : Nat) (h0 : gRd M A = some (.inr (11, oMb A 5))) (hb : M.2.1 = A + 6) : ∃ M2 : gM, Go G m_Mod_init 1 (43, [(0, .ref A)], [], M) (51, [(0, .ref A)], [], M2) ∧ gRd M2 A = some (.inr (11, oMb A 6)) ∧ gRd M2 (A + 6) = some (aI G 100 (fun _ => 0)) ∧ M2.2 = (A + 7, M.2.2 + 100) ∧ (∀ q, q < A + 6 → q ≠ A → gRd M2 q = gRd M q) := by
  refine ⟨gWr (gWr (gXt M 1 100) (A + 6) (aI G 100 (fun _ => 0))) A (.inr (11, oMb A 6)), ?_, gRd_s _ _ _, (gRd_n _ _ (by omega)).trans (gRd_s _ _ _), by show (M.2.1 + 1, M.2.2 + 100) = _; rw [hb], fun q h1 h2 => (gRd_n _ _ h2).trans (gRd_n _ _ (by omega))⟩
  refine Go.trp 44 (go_aload_n d_Mod_init_43 rfl 0 rfl) rfl ?_
  refine Go.trp 46 (go_bipush (v := 100) d_Mod_init_44 (by decide)) rfl ?_
  refine Go.trp 48 (go_newI (N := 100) rfl (by decide) d_Mod_init_46 ac_int) rfl ?_
  refine (go_al (a := A + 6) (M' := (gWr (gXt M 1 100) (A + 6) (aI G 100 (fun _ => 0)))) hb (gNw_at hb)).tr ?_
  refine Go.trp 51 (go_putF (oMb A 6) f_Mod_25 ft_Mod_6 ff_Mod_25 rfl d_Mod_init_48 ((gRd_n _ _ (by omega)).trans h0) (rfl) (rfl) (Nat.le_of_ble_eq_true rfl) rfl) rfl ?_
  exact Go.rf
theorem c_Md7 (G : gG) (M : gM) (A : Nat) (h0 : gRd M A = some (.inr (11, oMb A 6))) (hb : M.2.1 = A + 7) : ∃ M2 : gM, Go G m_Mod_init 1 (51, [(0, .ref A)], [], M) (59, [(0, .ref A)], [], M2) ∧ gRd M2 A = some (.inr (11, oMb A 7)) ∧ gRd M2 (A + 7) = some (aI G 120 (fun _ => 0)) ∧ M2.2 = (A + 8, M.2.2 + 120) ∧ (∀ q, q < A + 7 → q ≠ A → gRd M2 q = gRd M q) := by
  refine ⟨gWr (gWr (gXt M 1 120) (A + 7) (aI G 120 (fun _ => 0))) A (.inr (11, oMb A 7)), ?_, gRd_s _ _ _, (gRd_n _ _ (by omega)).trans (gRd_s _ _ _), by show (M.2.1 + 1, M.2.2 + 120) = _; rw [hb], fun q h1 h2 => (gRd_n _ _ h2).trans (gRd_n _ _ (by omega))⟩
  refine Go.trp 52 (go_aload_n d_Mod_init_51 rfl 0 rfl) rfl ?_
  refine Go.trp 54 (go_bipush (v := 120) d_Mod_init_52 (by decide)) rfl ?_
  refine Go.trp 56 (go_newI (N := 120) rfl (by decide) d_Mod_init_54 ac_int) rfl ?_
  refine (go_al (a := A + 7) (M' := (gWr (gXt M 1 120) (A + 7) (aI G 120 (fun _ => 0)))) hb (gNw_at hb)).tr ?_
  refine Go.trp 59 (go_putF (oMb A 7) f_Mod_28 ft_Mod_7 ff_Mod_28 rfl d_Mod_init_56 ((gRd_n _ _ (by omega)).trans h0) (rfl) (rfl) (Nat.le_of_ble_eq_true rfl) rfl) rfl ?_
  exact Go.rf
theorem c_Md8 (G : gG) (M : gM) (A : Nat) (h0 : gRd M A = some (.inr (11, oMb A 7))) (hb : M.2.1 = A + 8) : ∃ M2 : gM, Go G m_Mod_init 1 (59, [(0, .ref A)], [], M) (67, [(0, .ref A)], [], M2) ∧ gRd M2 A = some (.inr (11, oMb A 8)) ∧ gRd M2 (A + 8) = some (aI G 20 (fun _ => 0)) ∧ M2.2 = (A + 9, M.2.2 + 20) ∧ (∀ q, q < A + 8 → q ≠ A → gRd M2 q = gRd M q) := by
  refine ⟨gWr (gWr (gXt M 1 20) (A + 8) (aI G 20 (fun _ => 0))) A (.inr (11, oMb A 8)), ?_, gRd_s _ _ _, (gRd_n _ _ (by omega)).trans (gRd_s _ _ _), by show (M.2.1 + 1, M.2.2 + 20) = _; rw [hb], fun q h1 h2 => (gRd_n _ _ h2).trans (gRd_n _ _ (by omega))⟩
  refine Go.trp 60 (go_aload_n d_Mod_init_59 rfl 0 rfl) rfl ?_
  refine Go.trp 62 (go_bipush (v := 20) d_Mod_init_60 (by decide)) rfl ?_
  refine Go.trp 64 (go_newI (N := 20) rfl (by decide) d_Mod_init_62 ac_int) rfl ?_
  refine (go_al (a := A + 8) (M' := (gWr (gXt M 1 20) (A + 8) (aI G 20 (fun _ => 0)))) hb (gNw_at hb)).tr ?_
  refine Go.trp 67 (go_putF (oMb A 8) f_Mod_31 ft_Mod_8 ff_Mod_31 rfl d_Mod_init_64 ((gRd_n _ _ (by omega)).trans h0) (rfl) (rfl) (Nat.le_of_ble_eq_true rfl) rfl) rfl ?_
  exact Go.rf
theorem c_Md9 (G : gG) (M : gM) (A : Nat) (h0 : gRd M A = some (.inr (11, oMb A 8))) (hb : M.2.1 = A + 9) : ∃ M2 : gM, Go G m_Mod_init 1 (67, [(0, .ref A)], [], M) (76, [(0, .ref A)], [], M2) ∧ gRd M2 A = some (.inr (11, oMb A 9)) ∧ gRd M2 (A + 9) = some (aI G 200 (fun _ => 0)) ∧ M2.2 = (A + 10, M.2.2 + 200) ∧ (∀ q, q < A + 9 → q ≠ A → gRd M2 q = gRd M q) := by
  refine ⟨gWr (gWr (gXt M 1 200) (A + 9) (aI G 200 (fun _ => 0))) A (.inr (11, oMb A 9)), ?_, gRd_s _ _ _, (gRd_n _ _ (by omega)).trans (gRd_s _ _ _), by show (M.2.1 + 1, M.2.2 + 200) = _; rw [hb], fun q h1 h2 => (gRd_n _ _ h2).trans (gRd_n _ _ (by omega))⟩
  refine Go.trp 68 (go_aload_n d_Mod_init_67 rfl 0 rfl) rfl ?_
  refine Go.trp 71 (go_sipush (v := 200) d_Mod_init_68 (by decide)) rfl ?_
  refine Go.trp 73 (go_newI (N := 200) rfl (by decide) d_Mod_init_71 ac_int) rfl ?_
  refine (go_al (a := A + 9) (M' := (gWr (gXt M 1 200) (A + 9) (aI G 200 (fun _ => 0)))) hb (gNw_at hb)).tr ?_
  refine Go.trp 76 (go_putF (oMb A 9) f_Mod_34 ft_Mod_10 ff_Mod_34 rfl d_Mod_init_73 ((gRd_n _ _ (by omega)).trans h0) (rfl) (rfl) (Nat.le_of_ble_eq_true rfl) rfl) rfl ?_
  exact Go.rf
theorem c_Md10 (G : gG) (M : gM) (A : Nat) (h0 : gRd M A = some (.inr (11, oMb A 9))) (hb : M.2.1 = A + 10) : ∃ M2 : gM, Go G m_Mod_init 1 (76, [(0, .ref A)], [], M) (85, [(0, .ref A)], [], M2) ∧ gRd M2 A = some (.inr (11, oMb A 10)) ∧ gRd M2 (A + 10) = some (aI G 200 (fun _ => 0)) ∧ M2.2 = (A + 11, M.2.2 + 200) ∧ (∀ q, q < A + 10 → q ≠ A → gRd M2 q = gRd M q) := by
  refine ⟨gWr (gWr (gXt M 1 200) (A + 10) (aI G 200 (fun _ => 0))) A (.inr (11, oMb A 10)), ?_, gRd_s _ _ _, (gRd_n _ _ (by omega)).trans (gRd_s _ _ _), by show (M.2.1 + 1, M.2.2 + 200) = _; rw [hb], fun q h1 h2 => (gRd_n _ _ h2).trans (gRd_n _ _ (by omega))⟩
  refine Go.trp 77 (go_aload_n d_Mod_init_76 rfl 0 rfl) rfl ?_
  refine Go.trp 80 (go_sipush (v := 200) d_Mod_init_77 (by decide)) rfl ?_
  refine Go.trp 82 (go_newI (N := 200) rfl (by decide) d_Mod_init_80 ac_int) rfl ?_
  refine (go_al (a := A + 10) (M' := (gWr (gXt M 1 200) (A + 10) (aI G 200 (fun _ => 0)))) hb (gNw_at hb)).tr ?_
  refine Go.trp 85 (go_putF (oMb A 10) f_Mod_37 ft_Mod_11 ff_Mod_37 rfl d_Mod_init_82 ((gRd_n _ _ (by omega)).trans h0) (rfl) (rfl) (Nat.le_of_ble_eq_true rfl) rfl) rfl ?_
  exact Go.rf
theorem c_Md11 (G : gG) (M : gM) (A : Nat) (h0 : gRd M A = some (.inr (11, oMb A 10))) (hb : M.2.1 = A + 11) : ∃ M2 : gM, Go G m_Mod_init 1 (85, [(0, .ref A)], [], M) (94, [(0, .ref A)], [], M2) ∧ gRd M2 A = some (.inr (11, oMb A 11)) ∧ gRd M2 (A + 11) = some (aI G 200 (fun _ => 0)) ∧ M2.2 = (A + 12, M.2.2 + 200) ∧ (∀ q, q < A + 11 → q ≠ A → gRd M2 q = gRd M q) := by
  refine ⟨gWr (gWr (gXt M 1 200) (A + 11) (aI G 200 (fun _ => 0))) A (.inr (11, oMb A 11)), ?_, gRd_s _ _ _, (gRd_n _ _ (by omega)).trans (gRd_s _ _ _), by show (M.2.1 + 1, M.2.2 + 200) = _; rw [hb], fun q h1 h2 => (gRd_n _ _ h2).trans (gRd_n _ _ (by omega))⟩
  refine Go.trp 86 (go_aload_n d_Mod_init_85 rfl 0 rfl) rfl ?_
  refine Go.trp 89 (go_sipush (v := 200) d_Mod_init_86 (by decide)) rfl ?_
  refine Go.trp 91 (go_newI (N := 200) rfl (by decide) d_Mod_init_89 ac_int) rfl ?_
  refine (go_al (a := A + 11) (M' := (gWr (gXt M 1 200) (A + 11) (aI G 200 (fun _ => 0)))) hb (gNw_at hb)).tr ?_
  refine Go.trp 94 (go_putF (oMb A 11) f_Mod_40 ft_Mod_12 ff_Mod_40 rfl d_Mod_init_91 ((gRd_n _ _ (by omega)).trans h0) (rfl) (rfl) (Nat.le_of_ble_eq_true rfl) rfl) rfl ?_
  exact Go.rf
theorem c_Md12 (G : gG) (M : gM) (A : Nat) (h0 : gRd M A = some (.inr (11, oMb A 11))) (hb : M.2.1 = A + 12) : ∃ M2 : gM, Go G m_Mod_init 1 (94, [(0, .ref A)], [], M) (102, [(0, .ref A)], [], M2) ∧ gRd M2 A = some (.inr (11, oMb A 12)) ∧ gRd M2 (A + 12) = some (aI G 8 (fun _ => 0)) ∧ M2.2 = (A + 13, M.2.2 + 8) ∧ (∀ q, q < A + 12 → q ≠ A → gRd M2 q = gRd M q) := by
  refine ⟨gWr (gWr (gXt M 1 8) (A + 12) (aI G 8 (fun _ => 0))) A (.inr (11, oMb A 12)), ?_, gRd_s _ _ _, (gRd_n _ _ (by omega)).trans (gRd_s _ _ _), by show (M.2.1 + 1, M.2.2 + 8) = _; rw [hb], fun q h1 h2 => (gRd_n _ _ h2).trans (gRd_n _ _ (by omega))⟩
  refine Go.trp 95 (go_aload_n d_Mod_init_94 rfl 0 rfl) rfl ?_
  refine Go.trp 97 (go_bipush (v := 8) d_Mod_init_95 (by decide)) rfl ?_
  refine Go.trp 99 (go_newI (N := 8) rfl (by decide) d_Mod_init_97 ac_int) rfl ?_
  refine (go_al (a := A + 12) (M' := (gWr (gXt M 1 8) (A + 12) (aI G 8 (fun _ => 0)))) hb (gNw_at hb)).tr ?_
  refine Go.trp 102 (go_putF (oMb A 12) f_Mod_43 ft_Mod_13 ff_Mod_43 rfl d_Mod_init_99 ((gRd_n _ _ (by omega)).trans h0) (rfl) (rfl) (Nat.le_of_ble_eq_true rfl) rfl) rfl ?_
  exact Go.rf
theorem c_Md13 (G : gG) (M : gM) (A : Nat) (h0 : gRd M A = some (.inr (11, oMb A 12))) (hb : M.2.1 = A + 13) : ∃ M2 : gM, Go G m_Mod_init 1 (102, [(0, .ref A)], [], M) (110, [(0, .ref A)], [], M2) ∧ gRd M2 A = some (.inr (11, oMb A 13)) ∧ gRd M2 (A + 13) = some (aI G 120 (fun _ => 0)) ∧ M2.2 = (A + 14, M.2.2 + 120) ∧ (∀ q, q < A + 13 → q ≠ A → gRd M2 q = gRd M q) := by
  refine ⟨gWr (gWr (gXt M 1 120) (A + 13) (aI G 120 (fun _ => 0))) A (.inr (11, oMb A 13)), ?_, gRd_s _ _ _, (gRd_n _ _ (by omega)).trans (gRd_s _ _ _), by show (M.2.1 + 1, M.2.2 + 120) = _; rw [hb], fun q h1 h2 => (gRd_n _ _ h2).trans (gRd_n _ _ (by omega))⟩
  refine Go.trp 103 (go_aload_n d_Mod_init_102 rfl 0 rfl) rfl ?_
  refine Go.trp 105 (go_bipush (v := 120) d_Mod_init_103 (by decide)) rfl ?_
  refine Go.trp 107 (go_newI (N := 120) rfl (by decide) d_Mod_init_105 ac_int) rfl ?_
  refine (go_al (a := A + 13) (M' := (gWr (gXt M 1 120) (A + 13) (aI G 120 (fun _ => 0)))) hb (gNw_at hb)).tr ?_
  refine Go.trp 110 (go_putF (oMb A 13) f_Mod_46 ft_Mod_17 ff_Mod_46 rfl d_Mod_init_107 ((gRd_n _ _ (by omega)).trans h0) (rfl) (rfl) (Nat.le_of_ble_eq_true rfl) rfl) rfl ?_
  exact Go.rf
theorem c_Md14 (G : gG) (M : gM) (A : Nat) (h0 : gRd M A = some (.inr (11, oMb A 13))) (hb : M.2.1 = A + 14) : ∃ M2 : gM, Go G m_Mod_init 1 (110, [(0, .ref A)], [], M) (118, [(0, .ref A)], [], M2) ∧ gRd M2 A = some (.inr (11, oMb A 14)) ∧ gRd M2 (A + 14) = some (aI G 120 (fun _ => 0)) ∧ M2.2 = (A + 15, M.2.2 + 120) ∧ (∀ q, q < A + 14 → q ≠ A → gRd M2 q = gRd M q) := by
  refine ⟨gWr (gWr (gXt M 1 120) (A + 14) (aI G 120 (fun _ => 0))) A (.inr (11, oMb A 14)), ?_, gRd_s _ _ _, (gRd_n _ _ (by omega)).trans (gRd_s _ _ _), by show (M.2.1 + 1, M.2.2 + 120) = _; rw [hb], fun q h1 h2 => (gRd_n _ _ h2).trans (gRd_n _ _ (by omega))⟩
  refine Go.trp 111 (go_aload_n d_Mod_init_110 rfl 0 rfl) rfl ?_
  refine Go.trp 113 (go_bipush (v := 120) d_Mod_init_111 (by decide)) rfl ?_
  refine Go.trp 115 (go_newI (N := 120) rfl (by decide) d_Mod_init_113 ac_int) rfl ?_
  refine (go_al (a := A + 14) (M' := (gWr (gXt M 1 120) (A + 14) (aI G 120 (fun _ => 0)))) hb (gNw_at hb)).tr ?_
  refine Go.trp 118 (go_putF (oMb A 14) f_Mod_49 ft_Mod_18 ff_Mod_49 rfl d_Mod_init_115 ((gRd_n _ _ (by omega)).trans h0) (rfl) (rfl) (Nat.le_of_ble_eq_true rfl) rfl) rfl ?_
  exact Go.rf
theorem c_Md15 (G : gG) (M : gM) (A : Nat) (h0 : gRd M A = some (.inr (11, oMb A 14))) (hb : M.2.1 = A + 15) : ∃ M2 : gM, Go G m_Mod_init 1 (118, [(0, .ref A)], [], M) (126, [(0, .ref A)], [], M2) ∧ gRd M2 A = some (.inr (11, oMb A 15)) ∧ gRd M2 (A + 15) = some (aI G 120 (fun _ => 0)) ∧ M2.2 = (A + 16, M.2.2 + 120) ∧ (∀ q, q < A + 15 → q ≠ A → gRd M2 q = gRd M q) := by
  refine ⟨gWr (gWr (gXt M 1 120) (A + 15) (aI G 120 (fun _ => 0))) A (.inr (11, oMb A 15)), ?_, gRd_s _ _ _, (gRd_n _ _ (by omega)).trans (gRd_s _ _ _), by show (M.2.1 + 1, M.2.2 + 120) = _; rw [hb], fun q h1 h2 => (gRd_n _ _ h2).trans (gRd_n _ _ (by omega))⟩
  refine Go.trp 119 (go_aload_n d_Mod_init_118 rfl 0 rfl) rfl ?_
  refine Go.trp 121 (go_bipush (v := 120) d_Mod_init_119 (by decide)) rfl ?_
  refine Go.trp 123 (go_newI (N := 120) rfl (by decide) d_Mod_init_121 ac_int) rfl ?_
  refine (go_al (a := A + 15) (M' := (gWr (gXt M 1 120) (A + 15) (aI G 120 (fun _ => 0)))) hb (gNw_at hb)).tr ?_
  refine Go.trp 126 (go_putF (oMb A 15) f_Mod_52 ft_Mod_19 ff_Mod_52 rfl d_Mod_init_123 ((gRd_n _ _ (by omega)).trans h0) (rfl) (rfl) (Nat.le_of_ble_eq_true rfl) rfl) rfl ?_
  exact Go.rf
theorem c_Md16 (G : gG) (M : gM) (A : Nat) (h0 : gRd M A = some (.inr (11, oMb A 15))) (hb : M.2.1 = A + 16) : ∃ M2 : gM, Go G m_Mod_init 1 (126, [(0, .ref A)], [], M) (134, [(0, .ref A)], [], M2) ∧ gRd M2 A = some (.inr (11, oMb A 16)) ∧ gRd M2 (A + 16) = some (aI G 120 (fun _ => 0)) ∧ M2.2 = (A + 17, M.2.2 + 120) ∧ (∀ q, q < A + 16 → q ≠ A → gRd M2 q = gRd M q) := by
  refine ⟨gWr (gWr (gXt M 1 120) (A + 16) (aI G 120 (fun _ => 0))) A (.inr (11, oMb A 16)), ?_, gRd_s _ _ _, (gRd_n _ _ (by omega)).trans (gRd_s _ _ _), by show (M.2.1 + 1, M.2.2 + 120) = _; rw [hb], fun q h1 h2 => (gRd_n _ _ h2).trans (gRd_n _ _ (by omega))⟩
  refine Go.trp 127 (go_aload_n d_Mod_init_126 rfl 0 rfl) rfl ?_
  refine Go.trp 129 (go_bipush (v := 120) d_Mod_init_127 (by decide)) rfl ?_
  refine Go.trp 131 (go_newI (N := 120) rfl (by decide) d_Mod_init_129 ac_int) rfl ?_
  refine (go_al (a := A + 16) (M' := (gWr (gXt M 1 120) (A + 16) (aI G 120 (fun _ => 0)))) hb (gNw_at hb)).tr ?_
  refine Go.trp 134 (go_putF (oMb A 16) f_Mod_55 ft_Mod_20 ff_Mod_55 rfl d_Mod_init_131 ((gRd_n _ _ (by omega)).trans h0) (rfl) (rfl) (Nat.le_of_ble_eq_true rfl) rfl) rfl ?_
  exact Go.rf
theorem c_Md17 (G : gG) (M : gM) (A : Nat) (h0 : gRd M A = some (.inr (11, oMb A 16))) (hb : M.2.1 = A + 17) : ∃ M2 : gM, Go G m_Mod_init 1 (134, [(0, .ref A)], [], M) (142, [(0, .ref A)], [], M2) ∧ gRd M2 A = some (.inr (11, oMb A 17)) ∧ gRd M2 (A + 17) = some (aI G 120 (fun _ => 0)) ∧ M2.2 = (A + 18, M.2.2 + 120) ∧ (∀ q, q < A + 17 → q ≠ A → gRd M2 q = gRd M q) := by
  refine ⟨gWr (gWr (gXt M 1 120) (A + 17) (aI G 120 (fun _ => 0))) A (.inr (11, oMb A 17)), ?_, gRd_s _ _ _, (gRd_n _ _ (by omega)).trans (gRd_s _ _ _), by show (M.2.1 + 1, M.2.2 + 120) = _; rw [hb], fun q h1 h2 => (gRd_n _ _ h2).trans (gRd_n _ _ (by omega))⟩
  refine Go.trp 135 (go_aload_n d_Mod_init_134 rfl 0 rfl) rfl ?_
  refine Go.trp 137 (go_bipush (v := 120) d_Mod_init_135 (by decide)) rfl ?_
  refine Go.trp 139 (go_newI (N := 120) rfl (by decide) d_Mod_init_137 ac_int) rfl ?_
  refine (go_al (a := A + 17) (M' := (gWr (gXt M 1 120) (A + 17) (aI G 120 (fun _ => 0)))) hb (gNw_at hb)).tr ?_
  refine Go.trp 142 (go_putF (oMb A 17) f_Mod_58 ft_Mod_21 ff_Mod_58 rfl d_Mod_init_139 ((gRd_n _ _ (by omega)).trans h0) (rfl) (rfl) (Nat.le_of_ble_eq_true rfl) rfl) rfl ?_
  exact Go.rf
theorem c_Md18 (G : gG) (M : gM) (A : Nat) (h0 : gRd M A = some (.inr (11, oMb A 17))) (hb : M.2.1 = A + 18) : ∃ M2 : gM, Go G m_Mod_init 1 (142, [(0, .ref A)], [], M) (150, [(0, .ref A)], [], M2) ∧ gRd M2 A = some (.inr (11, oMb A 18)) ∧ gRd M2 (A + 18) = some (aZ G 121 (fun _ => 0)) ∧ M2.2 = (A + 19, M.2.2 + 121) ∧ (∀ q, q < A + 18 → q ≠ A → gRd M2 q = gRd M q) := by
  refine ⟨gWr (gWr (gXt M 1 121) (A + 18) (aZ G 121 (fun _ => 0))) A (.inr (11, oMb A 18)), ?_, gRd_s _ _ _, (gRd_n _ _ (by omega)).trans (gRd_s _ _ _), by show (M.2.1 + 1, M.2.2 + 121) = _; rw [hb], fun q h1 h2 => (gRd_n _ _ h2).trans (gRd_n _ _ (by omega))⟩
  refine Go.trp 143 (go_aload_n d_Mod_init_142 rfl 0 rfl) rfl ?_
  refine Go.trp 145 (go_bipush (v := 121) d_Mod_init_143 (by decide)) rfl ?_
  refine Go.trp 147 (go_newZ (N := 121) rfl (by decide) d_Mod_init_145 ac_boolean) rfl ?_
  refine (go_al (a := A + 18) (M' := (gWr (gXt M 1 121) (A + 18) (aZ G 121 (fun _ => 0)))) hb (gNw_at hb)).tr ?_
  refine Go.trp 150 (go_putF (oMb A 18) f_Mod_61 ft_Mod_24 ff_Mod_61 rfl d_Mod_init_147 ((gRd_n _ _ (by omega)).trans h0) (rfl) (rfl) (Nat.le_of_ble_eq_true rfl) rfl) rfl ?_
  exact Go.rf
theorem c_Md19 (G : gG) (M : gM) (A : Nat) (h0 : gRd M A = some (.inr (11, oMb A 18))) (hb : M.2.1 = A + 19) : ∃ M2 : gM, Go G m_Mod_init 1 (150, [(0, .ref A)], [], M) (158, [(0, .ref A)], [], M2) ∧ gRd M2 A = some (.inr (11, oMb A 19)) ∧ gRd M2 (A + 19) = some (aI G 26 (fun _ => 0)) ∧ M2.2 = (A + 20, M.2.2 + 26) ∧ (∀ q, q < A + 19 → q ≠ A → gRd M2 q = gRd M q) := by
  refine ⟨gWr (gWr (gXt M 1 26) (A + 19) (aI G 26 (fun _ => 0))) A (.inr (11, oMb A 19)), ?_, gRd_s _ _ _, (gRd_n _ _ (by omega)).trans (gRd_s _ _ _), by show (M.2.1 + 1, M.2.2 + 26) = _; rw [hb], fun q h1 h2 => (gRd_n _ _ h2).trans (gRd_n _ _ (by omega))⟩
  refine Go.trp 151 (go_aload_n d_Mod_init_150 rfl 0 rfl) rfl ?_
  refine Go.trp 153 (go_bipush (v := 26) d_Mod_init_151 (by decide)) rfl ?_
  refine Go.trp 155 (go_newI (N := 26) rfl (by decide) d_Mod_init_153 ac_int) rfl ?_
  refine (go_al (a := A + 19) (M' := (gWr (gXt M 1 26) (A + 19) (aI G 26 (fun _ => 0)))) hb (gNw_at hb)).tr ?_
  refine Go.trp 158 (go_putF (oMb A 19) f_Mod_65 ft_Mod_25 ff_Mod_65 rfl d_Mod_init_155 ((gRd_n _ _ (by omega)).trans h0) (rfl) (rfl) (Nat.le_of_ble_eq_true rfl) rfl) rfl ?_
  exact Go.rf
theorem c_Md20 (G : gG) (M : gM) (A : Nat) (h0 : gRd M A = some (.inr (11, oMb A 19))) (hb : M.2.1 = A + 20) : ∃ M2 : gM, Go G m_Mod_init 1 (158, [(0, .ref A)], [], M) (166, [(0, .ref A)], [], M2) ∧ gRd M2 A = some (.inr (11, oMb A 20)) ∧ gRd M2 (A + 20) = some (aI G 26 (fun _ => 0)) ∧ M2.2 = (A + 21, M.2.2 + 26) ∧ (∀ q, q < A + 20 → q ≠ A → gRd M2 q = gRd M q) := by
  refine ⟨gWr (gWr (gXt M 1 26) (A + 20) (aI G 26 (fun _ => 0))) A (.inr (11, oMb A 20)), ?_, gRd_s _ _ _, (gRd_n _ _ (by omega)).trans (gRd_s _ _ _), by show (M.2.1 + 1, M.2.2 + 26) = _; rw [hb], fun q h1 h2 => (gRd_n _ _ h2).trans (gRd_n _ _ (by omega))⟩
  refine Go.trp 159 (go_aload_n d_Mod_init_158 rfl 0 rfl) rfl ?_
  refine Go.trp 161 (go_bipush (v := 26) d_Mod_init_159 (by decide)) rfl ?_
  refine Go.trp 163 (go_newI (N := 26) rfl (by decide) d_Mod_init_161 ac_int) rfl ?_
  refine (go_al (a := A + 20) (M' := (gWr (gXt M 1 26) (A + 20) (aI G 26 (fun _ => 0)))) hb (gNw_at hb)).tr ?_
  refine Go.trp 166 (go_putF (oMb A 20) f_Mod_68 ft_Mod_26 ff_Mod_68 rfl d_Mod_init_163 ((gRd_n _ _ (by omega)).trans h0) (rfl) (rfl) (Nat.le_of_ble_eq_true rfl) rfl) rfl ?_
  exact Go.rf
theorem c_Md21 (G : gG) (M : gM) (A : Nat) (h0 : gRd M A = some (.inr (11, oMb A 20))) (hb : M.2.1 = A + 21) : ∃ M2 : gM, Go G m_Mod_init 1 (166, [(0, .ref A)], [], M) (174, [(0, .ref A)], [], M2) ∧ gRd M2 A = some (.inr (11, oMb A 21)) ∧ gRd M2 (A + 21) = some (aI G 26 (fun _ => 0)) ∧ M2.2 = (A + 22, M.2.2 + 26) ∧ (∀ q, q < A + 21 → q ≠ A → gRd M2 q = gRd M q) := by
  refine ⟨gWr (gWr (gXt M 1 26) (A + 21) (aI G 26 (fun _ => 0))) A (.inr (11, oMb A 21)), ?_, gRd_s _ _ _, (gRd_n _ _ (by omega)).trans (gRd_s _ _ _), by show (M.2.1 + 1, M.2.2 + 26) = _; rw [hb], fun q h1 h2 => (gRd_n _ _ h2).trans (gRd_n _ _ (by omega))⟩
  refine Go.trp 167 (go_aload_n d_Mod_init_166 rfl 0 rfl) rfl ?_
  refine Go.trp 169 (go_bipush (v := 26) d_Mod_init_167 (by decide)) rfl ?_
  refine Go.trp 171 (go_newI (N := 26) rfl (by decide) d_Mod_init_169 ac_int) rfl ?_
  refine (go_al (a := A + 21) (M' := (gWr (gXt M 1 26) (A + 21) (aI G 26 (fun _ => 0)))) hb (gNw_at hb)).tr ?_
  refine Go.trp 174 (go_putF (oMb A 21) f_Mod_71 ft_Mod_27 ff_Mod_71 rfl d_Mod_init_171 ((gRd_n _ _ (by omega)).trans h0) (rfl) (rfl) (Nat.le_of_ble_eq_true rfl) rfl) rfl ?_
  exact Go.rf
theorem c_Md22 (G : gG) (M : gM) (A : Nat) (h0 : gRd M A = some (.inr (11, oMb A 21))) (hb : M.2.1 = A + 22) : ∃ M2 : gM, Go G m_Mod_init 1 (174, [(0, .ref A)], [], M) (182, [(0, .ref A)], [], M2) ∧ gRd M2 A = some (.inr (11, oMb A 22)) ∧ gRd M2 (A + 22) = some (aL G 26 (fun _ => 0)) ∧ M2.2 = (A + 23, M.2.2 + 26) ∧ (∀ q, q < A + 22 → q ≠ A → gRd M2 q = gRd M q) := by
  refine ⟨gWr (gWr (gXt M 1 26) (A + 22) (aL G 26 (fun _ => 0))) A (.inr (11, oMb A 22)), ?_, gRd_s _ _ _, (gRd_n _ _ (by omega)).trans (gRd_s _ _ _), by show (M.2.1 + 1, M.2.2 + 26) = _; rw [hb], fun q h1 h2 => (gRd_n _ _ h2).trans (gRd_n _ _ (by omega))⟩
  refine Go.trp 175 (go_aload_n d_Mod_init_174 rfl 0 rfl) rfl ?_
  refine Go.trp 177 (go_bipush (v := 26) d_Mod_init_175 (by decide)) rfl ?_
  refine Go.trp 179 (go_newL (N := 26) rfl (by decide) d_Mod_init_177 ac_long) rfl ?_
  refine (go_al (a := A + 22) (M' := (gWr (gXt M 1 26) (A + 22) (aL G 26 (fun _ => 0)))) hb (gNw_at hb)).tr ?_
  refine Go.trp 182 (go_putF (oMb A 22) f_Mod_74 ft_Mod_30 ff_Mod_74 rfl d_Mod_init_179 ((gRd_n _ _ (by omega)).trans h0) (rfl) (rfl) (Nat.le_of_ble_eq_true rfl) rfl) rfl ?_
  exact Go.rf
theorem c_Md23 (G : gG) (M : gM) (A : Nat) (h0 : gRd M A = some (.inr (11, oMb A 22))) (hb : M.2.1 = A + 23) : ∃ M2 : gM, Go G m_Mod_init 1 (182, [(0, .ref A)], [], M) (190, [(0, .ref A)], [], M2) ∧ gRd M2 A = some (.inr (11, oMb A 23)) ∧ gRd M2 (A + 23) = some (aI G 26 (fun _ => 0)) ∧ M2.2 = (A + 24, M.2.2 + 26) ∧ (∀ q, q < A + 23 → q ≠ A → gRd M2 q = gRd M q) := by
  refine ⟨gWr (gWr (gXt M 1 26) (A + 23) (aI G 26 (fun _ => 0))) A (.inr (11, oMb A 23)), ?_, gRd_s _ _ _, (gRd_n _ _ (by omega)).trans (gRd_s _ _ _), by show (M.2.1 + 1, M.2.2 + 26) = _; rw [hb], fun q h1 h2 => (gRd_n _ _ h2).trans (gRd_n _ _ (by omega))⟩
  refine Go.trp 183 (go_aload_n d_Mod_init_182 rfl 0 rfl) rfl ?_
  refine Go.trp 185 (go_bipush (v := 26) d_Mod_init_183 (by decide)) rfl ?_
  refine Go.trp 187 (go_newI (N := 26) rfl (by decide) d_Mod_init_185 ac_int) rfl ?_
  refine (go_al (a := A + 23) (M' := (gWr (gXt M 1 26) (A + 23) (aI G 26 (fun _ => 0)))) hb (gNw_at hb)).tr ?_
  refine Go.trp 190 (go_putF (oMb A 23) f_Mod_78 ft_Mod_31 ff_Mod_78 rfl d_Mod_init_187 ((gRd_n _ _ (by omega)).trans h0) (rfl) (rfl) (Nat.le_of_ble_eq_true rfl) rfl) rfl ?_
  exact Go.rf
theorem c_Md24 (G : gG) (M : gM) (A : Nat) (h0 : gRd M A = some (.inr (11, oMb A 23))) (hb : M.2.1 = A + 24) : ∃ M2 : gM, Go G m_Mod_init 1 (190, [(0, .ref A)], [], M) (198, [(0, .ref A)], [], M2) ∧ gRd M2 A = some (.inr (11, oMb A 24)) ∧ gRd M2 (A + 24) = some (aI G 26 (fun _ => 0)) ∧ M2.2 = (A + 25, M.2.2 + 26) ∧ (∀ q, q < A + 24 → q ≠ A → gRd M2 q = gRd M q) := by
  refine ⟨gWr (gWr (gXt M 1 26) (A + 24) (aI G 26 (fun _ => 0))) A (.inr (11, oMb A 24)), ?_, gRd_s _ _ _, (gRd_n _ _ (by omega)).trans (gRd_s _ _ _), by show (M.2.1 + 1, M.2.2 + 26) = _; rw [hb], fun q h1 h2 => (gRd_n _ _ h2).trans (gRd_n _ _ (by omega))⟩
  refine Go.trp 191 (go_aload_n d_Mod_init_190 rfl 0 rfl) rfl ?_
  refine Go.trp 193 (go_bipush (v := 26) d_Mod_init_191 (by decide)) rfl ?_
  refine Go.trp 195 (go_newI (N := 26) rfl (by decide) d_Mod_init_193 ac_int) rfl ?_
  refine (go_al (a := A + 24) (M' := (gWr (gXt M 1 26) (A + 24) (aI G 26 (fun _ => 0)))) hb (gNw_at hb)).tr ?_
  refine Go.trp 198 (go_putF (oMb A 24) f_Mod_81 ft_Mod_32 ff_Mod_81 rfl d_Mod_init_195 ((gRd_n _ _ (by omega)).trans h0) (rfl) (rfl) (Nat.le_of_ble_eq_true rfl) rfl) rfl ?_
  exact Go.rf
theorem c_Md25 (G : gG) (M : gM) (A : Nat) (h0 : gRd M A = some (.inr (11, oMb A 24))) (hb : M.2.1 = A + 25) : ∃ M2 : gM, Go G m_Mod_init 1 (198, [(0, .ref A)], [], M) (206, [(0, .ref A)], [], M2) ∧ gRd M2 A = some (.inr (11, oMb A 25)) ∧ gRd M2 (A + 25) = some (aI G 25 (fun _ => 0)) ∧ M2.2 = (A + 26, M.2.2 + 25) ∧ (∀ q, q < A + 25 → q ≠ A → gRd M2 q = gRd M q) := by
  refine ⟨gWr (gWr (gXt M 1 25) (A + 25) (aI G 25 (fun _ => 0))) A (.inr (11, oMb A 25)), ?_, gRd_s _ _ _, (gRd_n _ _ (by omega)).trans (gRd_s _ _ _), by show (M.2.1 + 1, M.2.2 + 25) = _; rw [hb], fun q h1 h2 => (gRd_n _ _ h2).trans (gRd_n _ _ (by omega))⟩
  refine Go.trp 199 (go_aload_n d_Mod_init_198 rfl 0 rfl) rfl ?_
  refine Go.trp 201 (go_bipush (v := 25) d_Mod_init_199 (by decide)) rfl ?_
  refine Go.trp 203 (go_newI (N := 25) rfl (by decide) d_Mod_init_201 ac_int) rfl ?_
  refine (go_al (a := A + 25) (M' := (gWr (gXt M 1 25) (A + 25) (aI G 25 (fun _ => 0)))) hb (gNw_at hb)).tr ?_
  refine Go.trp 206 (go_putF (oMb A 25) f_Mod_84 ft_Mod_38 ff_Mod_84 rfl d_Mod_init_203 ((gRd_n _ _ (by omega)).trans h0) (rfl) (rfl) (Nat.le_of_ble_eq_true rfl) rfl) rfl ?_
  exact Go.rf
theorem c_Md26 (G : gG) (M : gM) (A : Nat) (h0 : gRd M A = some (.inr (11, oMb A 25))) (hb : M.2.1 = A + 26) : ∃ M2 : gM, Go G m_Mod_init 1 (206, [(0, .ref A)], [], M) (214, [(0, .ref A)], [], M2) ∧ gRd M2 A = some (.inr (11, oMb A 26)) ∧ gRd M2 (A + 26) = some (aI G 25 (fun _ => 0)) ∧ M2.2 = (A + 27, M.2.2 + 25) ∧ (∀ q, q < A + 26 → q ≠ A → gRd M2 q = gRd M q) := by
  refine ⟨gWr (gWr (gXt M 1 25) (A + 26) (aI G 25 (fun _ => 0))) A (.inr (11, oMb A 26)), ?_, gRd_s _ _ _, (gRd_n _ _ (by omega)).trans (gRd_s _ _ _), by show (M.2.1 + 1, M.2.2 + 25) = _; rw [hb], fun q h1 h2 => (gRd_n _ _ h2).trans (gRd_n _ _ (by omega))⟩
  refine Go.trp 207 (go_aload_n d_Mod_init_206 rfl 0 rfl) rfl ?_
  refine Go.trp 209 (go_bipush (v := 25) d_Mod_init_207 (by decide)) rfl ?_
  refine Go.trp 211 (go_newI (N := 25) rfl (by decide) d_Mod_init_209 ac_int) rfl ?_
  refine (go_al (a := A + 26) (M' := (gWr (gXt M 1 25) (A + 26) (aI G 25 (fun _ => 0)))) hb (gNw_at hb)).tr ?_
  refine Go.trp 214 (go_putF (oMb A 26) f_Mod_87 ft_Mod_39 ff_Mod_87 rfl d_Mod_init_211 ((gRd_n _ _ (by omega)).trans h0) (rfl) (rfl) (Nat.le_of_ble_eq_true rfl) rfl) rfl ?_
  exact Go.rf
theorem c_Md27 (G : gG) (M : gM) (A : Nat) (h0 : gRd M A = some (.inr (11, oMb A 26))) (hb : M.2.1 = A + 27) : ∃ M2 : gM, Go G m_Mod_init 1 (214, [(0, .ref A)], [], M) (222, [(0, .ref A)], [], M2) ∧ gRd M2 A = some (.inr (11, oMb A 27)) ∧ gRd M2 (A + 27) = some (aI G 25 (fun _ => 0)) ∧ M2.2 = (A + 28, M.2.2 + 25) ∧ (∀ q, q < A + 27 → q ≠ A → gRd M2 q = gRd M q) := by
  refine ⟨gWr (gWr (gXt M 1 25) (A + 27) (aI G 25 (fun _ => 0))) A (.inr (11, oMb A 27)), ?_, gRd_s _ _ _, (gRd_n _ _ (by omega)).trans (gRd_s _ _ _), by show (M.2.1 + 1, M.2.2 + 25) = _; rw [hb], fun q h1 h2 => (gRd_n _ _ h2).trans (gRd_n _ _ (by omega))⟩
  refine Go.trp 215 (go_aload_n d_Mod_init_214 rfl 0 rfl) rfl ?_
  refine Go.trp 217 (go_bipush (v := 25) d_Mod_init_215 (by decide)) rfl ?_
  refine Go.trp 219 (go_newI (N := 25) rfl (by decide) d_Mod_init_217 ac_int) rfl ?_
  refine (go_al (a := A + 27) (M' := (gWr (gXt M 1 25) (A + 27) (aI G 25 (fun _ => 0)))) hb (gNw_at hb)).tr ?_
  refine Go.trp 222 (go_putF (oMb A 27) f_Mod_90 ft_Mod_40 ff_Mod_90 rfl d_Mod_init_219 ((gRd_n _ _ (by omega)).trans h0) (rfl) (rfl) (Nat.le_of_ble_eq_true rfl) rfl) rfl ?_
  exact Go.rf
theorem c_Md28 (G : gG) (M : gM) (A : Nat) (h0 : gRd M A = some (.inr (11, oMb A 27))) (hb : M.2.1 = A + 28) : ∃ M2 : gM, Go G m_Mod_init 1 (222, [(0, .ref A)], [], M) (230, [(0, .ref A)], [], M2) ∧ gRd M2 A = some (.inr (11, oMb A 28)) ∧ gRd M2 (A + 28) = some (aI G 25 (fun _ => 0)) ∧ M2.2 = (A + 29, M.2.2 + 25) ∧ (∀ q, q < A + 28 → q ≠ A → gRd M2 q = gRd M q) := by
  refine ⟨gWr (gWr (gXt M 1 25) (A + 28) (aI G 25 (fun _ => 0))) A (.inr (11, oMb A 28)), ?_, gRd_s _ _ _, (gRd_n _ _ (by omega)).trans (gRd_s _ _ _), by show (M.2.1 + 1, M.2.2 + 25) = _; rw [hb], fun q h1 h2 => (gRd_n _ _ h2).trans (gRd_n _ _ (by omega))⟩
  refine Go.trp 223 (go_aload_n d_Mod_init_222 rfl 0 rfl) rfl ?_
  refine Go.trp 225 (go_bipush (v := 25) d_Mod_init_223 (by decide)) rfl ?_
  refine Go.trp 227 (go_newI (N := 25) rfl (by decide) d_Mod_init_225 ac_int) rfl ?_
  refine (go_al (a := A + 28) (M' := (gWr (gXt M 1 25) (A + 28) (aI G 25 (fun _ => 0)))) hb (gNw_at hb)).tr ?_
  refine Go.trp 230 (go_putF (oMb A 28) f_Mod_93 ft_Mod_41 ff_Mod_93 rfl d_Mod_init_227 ((gRd_n _ _ (by omega)).trans h0) (rfl) (rfl) (Nat.le_of_ble_eq_true rfl) rfl) rfl ?_
  exact Go.rf
theorem c_Md29 (G : gG) (M : gM) (A : Nat) (h0 : gRd M A = some (.inr (11, oMb A 28))) (hb : M.2.1 = A + 29) : ∃ M2 : gM, Go G m_Mod_init 1 (230, [(0, .ref A)], [], M) (238, [(0, .ref A)], [], M2) ∧ gRd M2 A = some (.inr (11, oMb A 29)) ∧ gRd M2 (A + 29) = some (aI G 25 (fun _ => 0)) ∧ M2.2 = (A + 30, M.2.2 + 25) ∧ (∀ q, q < A + 29 → q ≠ A → gRd M2 q = gRd M q) := by
  refine ⟨gWr (gWr (gXt M 1 25) (A + 29) (aI G 25 (fun _ => 0))) A (.inr (11, oMb A 29)), ?_, gRd_s _ _ _, (gRd_n _ _ (by omega)).trans (gRd_s _ _ _), by show (M.2.1 + 1, M.2.2 + 25) = _; rw [hb], fun q h1 h2 => (gRd_n _ _ h2).trans (gRd_n _ _ (by omega))⟩
  refine Go.trp 231 (go_aload_n d_Mod_init_230 rfl 0 rfl) rfl ?_
  refine Go.trp 233 (go_bipush (v := 25) d_Mod_init_231 (by decide)) rfl ?_
  refine Go.trp 235 (go_newI (N := 25) rfl (by decide) d_Mod_init_233 ac_int) rfl ?_
  refine (go_al (a := A + 29) (M' := (gWr (gXt M 1 25) (A + 29) (aI G 25 (fun _ => 0)))) hb (gNw_at hb)).tr ?_
  refine Go.trp 238 (go_putF (oMb A 29) f_Mod_96 ft_Mod_42 ff_Mod_96 rfl d_Mod_init_235 ((gRd_n _ _ (by omega)).trans h0) (rfl) (rfl) (Nat.le_of_ble_eq_true rfl) rfl) rfl ?_
  exact Go.rf
theorem c_Md30 (G : gG) (M : gM) (A : Nat) (h0 : gRd M A = some (.inr (11, oMb A 29))) (hb : M.2.1 = A + 30) : ∃ M2 : gM, Go G m_Mod_init 1 (238, [(0, .ref A)], [], M) (246, [(0, .ref A)], [], M2) ∧ gRd M2 A = some (.inr (11, oMb A 30)) ∧ gRd M2 (A + 30) = some (aI G 25 (fun _ => 0)) ∧ M2.2 = (A + 31, M.2.2 + 25) ∧ (∀ q, q < A + 30 → q ≠ A → gRd M2 q = gRd M q) := by
  refine ⟨gWr (gWr (gXt M 1 25) (A + 30) (aI G 25 (fun _ => 0))) A (.inr (11, oMb A 30)), ?_, gRd_s _ _ _, (gRd_n _ _ (by omega)).trans (gRd_s _ _ _), by show (M.2.1 + 1, M.2.2 + 25) = _; rw [hb], fun q h1 h2 => (gRd_n _ _ h2).trans (gRd_n _ _ (by omega))⟩
  refine Go.trp 239 (go_aload_n d_Mod_init_238 rfl 0 rfl) rfl ?_
  refine Go.trp 241 (go_bipush (v := 25) d_Mod_init_239 (by decide)) rfl ?_
  refine Go.trp 243 (go_newI (N := 25) rfl (by decide) d_Mod_init_241 ac_int) rfl ?_
  refine (go_al (a := A + 30) (M' := (gWr (gXt M 1 25) (A + 30) (aI G 25 (fun _ => 0)))) hb (gNw_at hb)).tr ?_
  refine Go.trp 246 (go_putF (oMb A 30) f_Mod_99 ft_Mod_43 ff_Mod_99 rfl d_Mod_init_243 ((gRd_n _ _ (by omega)).trans h0) (rfl) (rfl) (Nat.le_of_ble_eq_true rfl) rfl) rfl ?_
  exact Go.rf
theorem c_Md31 (G : gG) (M : gM) (A : Nat) (h0 : gRd M A = some (.inr (11, oMb A 30))) (hb : M.2.1 = A + 31) : ∃ M2 : gM, Go G m_Mod_init 1 (246, [(0, .ref A)], [], M) (254, [(0, .ref A)], [], M2) ∧ gRd M2 A = some (.inr (11, oMb A 31)) ∧ gRd M2 (A + 31) = some (aI G 25 (fun _ => 0)) ∧ M2.2 = (A + 32, M.2.2 + 25) ∧ (∀ q, q < A + 31 → q ≠ A → gRd M2 q = gRd M q) := by
  refine ⟨gWr (gWr (gXt M 1 25) (A + 31) (aI G 25 (fun _ => 0))) A (.inr (11, oMb A 31)), ?_, gRd_s _ _ _, (gRd_n _ _ (by omega)).trans (gRd_s _ _ _), by show (M.2.1 + 1, M.2.2 + 25) = _; rw [hb], fun q h1 h2 => (gRd_n _ _ h2).trans (gRd_n _ _ (by omega))⟩
  refine Go.trp 247 (go_aload_n d_Mod_init_246 rfl 0 rfl) rfl ?_
  refine Go.trp 249 (go_bipush (v := 25) d_Mod_init_247 (by decide)) rfl ?_
  refine Go.trp 251 (go_newI (N := 25) rfl (by decide) d_Mod_init_249 ac_int) rfl ?_
  refine (go_al (a := A + 31) (M' := (gWr (gXt M 1 25) (A + 31) (aI G 25 (fun _ => 0)))) hb (gNw_at hb)).tr ?_
  refine Go.trp 254 (go_putF (oMb A 31) f_Mod_102 ft_Mod_44 ff_Mod_102 rfl d_Mod_init_251 ((gRd_n _ _ (by omega)).trans h0) (rfl) (rfl) (Nat.le_of_ble_eq_true rfl) rfl) rfl ?_
  exact Go.rf
theorem c_Md32 (G : gG) (M : gM) (A : Nat) (h0 : gRd M A = some (.inr (11, oMb A 31))) (hb : M.2.1 = A + 32) : ∃ M2 : gM, Go G m_Mod_init 1 (254, [(0, .ref A)], [], M) (262, [(0, .ref A)], [], M2) ∧ gRd M2 A = some (.inr (11, oMb A 32)) ∧ gRd M2 (A + 32) = some (aI G 25 (fun _ => 0)) ∧ M2.2 = (A + 33, M.2.2 + 25) ∧ (∀ q, q < A + 32 → q ≠ A → gRd M2 q = gRd M q) := by
  refine ⟨gWr (gWr (gXt M 1 25) (A + 32) (aI G 25 (fun _ => 0))) A (.inr (11, oMb A 32)), ?_, gRd_s _ _ _, (gRd_n _ _ (by omega)).trans (gRd_s _ _ _), by show (M.2.1 + 1, M.2.2 + 25) = _; rw [hb], fun q h1 h2 => (gRd_n _ _ h2).trans (gRd_n _ _ (by omega))⟩
  refine Go.trp 255 (go_aload_n d_Mod_init_254 rfl 0 rfl) rfl ?_
  refine Go.trp 257 (go_bipush (v := 25) d_Mod_init_255 (by decide)) rfl ?_
  refine Go.trp 259 (go_newI (N := 25) rfl (by decide) d_Mod_init_257 ac_int) rfl ?_
  refine (go_al (a := A + 32) (M' := (gWr (gXt M 1 25) (A + 32) (aI G 25 (fun _ => 0)))) hb (gNw_at hb)).tr ?_
  refine Go.trp 262 (go_putF (oMb A 32) f_Mod_105 ft_Mod_45 ff_Mod_105 rfl d_Mod_init_259 ((gRd_n _ _ (by omega)).trans h0) (rfl) (rfl) (Nat.le_of_ble_eq_true rfl) rfl) rfl ?_
  exact Go.rf
theorem c_Md33 (G : gG) (M : gM) (A : Nat) (h0 : gRd M A = some (.inr (11, oMb A 32))) (hb : M.2.1 = A + 33) : ∃ M2 : gM, Go G m_Mod_init 1 (262, [(0, .ref A)], [], M) (270, [(0, .ref A)], [], M2) ∧ gRd M2 A = some (.inr (11, oMb A 33)) ∧ gRd M2 (A + 33) = some (aI G 25 (fun _ => 0)) ∧ M2.2 = (A + 34, M.2.2 + 25) ∧ (∀ q, q < A + 33 → q ≠ A → gRd M2 q = gRd M q) := by
  refine ⟨gWr (gWr (gXt M 1 25) (A + 33) (aI G 25 (fun _ => 0))) A (.inr (11, oMb A 33)), ?_, gRd_s _ _ _, (gRd_n _ _ (by omega)).trans (gRd_s _ _ _), by show (M.2.1 + 1, M.2.2 + 25) = _; rw [hb], fun q h1 h2 => (gRd_n _ _ h2).trans (gRd_n _ _ (by omega))⟩
  refine Go.trp 263 (go_aload_n d_Mod_init_262 rfl 0 rfl) rfl ?_
  refine Go.trp 265 (go_bipush (v := 25) d_Mod_init_263 (by decide)) rfl ?_
  refine Go.trp 267 (go_newI (N := 25) rfl (by decide) d_Mod_init_265 ac_int) rfl ?_
  refine (go_al (a := A + 33) (M' := (gWr (gXt M 1 25) (A + 33) (aI G 25 (fun _ => 0)))) hb (gNw_at hb)).tr ?_
  refine Go.trp 270 (go_putF (oMb A 33) f_Mod_108 ft_Mod_46 ff_Mod_108 rfl d_Mod_init_267 ((gRd_n _ _ (by omega)).trans h0) (rfl) (rfl) (Nat.le_of_ble_eq_true rfl) rfl) rfl ?_
  exact Go.rf
theorem c_Mod1 (G : gG) (M : gM) (A : Nat) (h0 : gRd M A = some (.inr (11, oMb A 0))) (hb : M.2.1 = A + 1) : ∃ M2 : gM, Go G m_Mod_init 1 (0, [(0, .ref A)], [], M) (270, [(0, .ref A)], [], M2) ∧ ModAt G M2 A (fun _ => 0) 0 (fun _ _ => 0) (fun _ => 0) ∧ M2.2 = (A + 34, M.2.2 + 2243) ∧ (∀ q, q < A → gRd M2 q = gRd M q) := by
  obtain ⟨M1, g1, o1, r1, v1, f1⟩ := c_Md1 G M A h0 hb
  obtain ⟨M2, g2, o2, r2, v2, f2⟩ := c_Md2 G M1 A o1 (by rw [v1])
  obtain ⟨M3, g3, o3, r3, v3, f3⟩ := c_Md3 G M2 A o2 (by rw [v2])
  obtain ⟨M4, g4, o4, r4, v4, f4⟩ := c_Md4 G M3 A o3 (by rw [v3])
  obtain ⟨M5, g5, o5, r5, v5, f5⟩ := c_Md5 G M4 A o4 (by rw [v4])
  obtain ⟨M6, g6, o6, r6, v6, f6⟩ := c_Md6 G M5 A o5 (by rw [v5])
  obtain ⟨M7, g7, o7, r7, v7, f7⟩ := c_Md7 G M6 A o6 (by rw [v6])
  obtain ⟨M8, g8, o8, r8, v8, f8⟩ := c_Md8 G M7 A o7 (by rw [v7])
  obtain ⟨M9, g9, o9, r9, v9, f9⟩ := c_Md9 G M8 A o8 (by rw [v8])
  obtain ⟨M10, g10, o10, r10, v10, f10⟩ := c_Md10 G M9 A o9 (by rw [v9])
  obtain ⟨M11, g11, o11, r11, v11, f11⟩ := c_Md11 G M10 A o10 (by rw [v10])
  obtain ⟨M12, g12, o12, r12, v12, f12⟩ := c_Md12 G M11 A o11 (by rw [v11])
  obtain ⟨M13, g13, o13, r13, v13, f13⟩ := c_Md13 G M12 A o12 (by rw [v12])
  obtain ⟨M14, g14, o14, r14, v14, f14⟩ := c_Md14 G M13 A o13 (by rw [v13])
  obtain ⟨M15, g15, o15, r15, v15, f15⟩ := c_Md15 G M14 A o14 (by rw [v14])
  obtain ⟨M16, g16, o16, r16, v16, f16⟩ := c_Md16 G M15 A o15 (by rw [v15])
  obtain ⟨M17, g17, o17, r17, v17, f17⟩ := c_Md17 G M16 A o16 (by rw [v16])
  obtain ⟨M18, g18, o18, r18, v18, f18⟩ := c_Md18 G M17 A o17 (by rw [v17])
  obtain ⟨M19, g19, o19, r19, v19, f19⟩ := c_Md19 G M18 A o18 (by rw [v18])
  obtain ⟨M20, g20, o20, r20, v20, f20⟩ := c_Md20 G M19 A o19 (by rw [v19])
  obtain ⟨M21, g21, o21, r21, v21, f21⟩ := c_Md21 G M20 A o20 (by rw [v20])
  obtain ⟨M22, g22, o22, r22, v22, f22⟩ := c_Md22 G M21 A o21 (by rw [v21])
  obtain ⟨M23, g23, o23, r23, v23, f23⟩ := c_Md23 G M22 A o22 (by rw [v22])
  obtain ⟨M24, g24, o24, r24, v24, f24⟩ := c_Md24 G M23 A o23 (by rw [v23])
  obtain ⟨M25, g25, o25, r25, v25, f25⟩ := c_Md25 G M24 A o24 (by rw [v24])
  obtain ⟨M26, g26, o26, r26, v26, f26⟩ := c_Md26 G M25 A o25 (by rw [v25])
  obtain ⟨M27, g27, o27, r27, v27, f27⟩ := c_Md27 G M26 A o26 (by rw [v26])
  obtain ⟨M28, g28, o28, r28, v28, f28⟩ := c_Md28 G M27 A o27 (by rw [v27])
  obtain ⟨M29, g29, o29, r29, v29, f29⟩ := c_Md29 G M28 A o28 (by rw [v28])
  obtain ⟨M30, g30, o30, r30, v30, f30⟩ := c_Md30 G M29 A o29 (by rw [v29])
  obtain ⟨M31, g31, o31, r31, v31, f31⟩ := c_Md31 G M30 A o30 (by rw [v30])
  obtain ⟨M32, g32, o32, r32, v32, f32⟩ := c_Md32 G M31 A o31 (by rw [v31])
  obtain ⟨M33, g33, o33, r33, v33, f33⟩ := c_Md33 G M32 A o32 (by rw [v32])
  have k32 : ∀ q, q < A + 33 → q ≠ A → gRd M33 q = gRd M32 q := fun q h1 h2 => f33 q h1 h2
  have k31 : ∀ q, q < A + 32 → q ≠ A → gRd M33 q = gRd M31 q := fun q h1 h2 => (k32 q (by omega) h2).trans (f32 q h1 h2)
  have k30 : ∀ q, q < A + 31 → q ≠ A → gRd M33 q = gRd M30 q := fun q h1 h2 => (k31 q (by omega) h2).trans (f31 q h1 h2)
  have k29 : ∀ q, q < A + 30 → q ≠ A → gRd M33 q = gRd M29 q := fun q h1 h2 => (k30 q (by omega) h2).trans (f30 q h1 h2)
  have k28 : ∀ q, q < A + 29 → q ≠ A → gRd M33 q = gRd M28 q := fun q h1 h2 => (k29 q (by omega) h2).trans (f29 q h1 h2)
  have k27 : ∀ q, q < A + 28 → q ≠ A → gRd M33 q = gRd M27 q := fun q h1 h2 => (k28 q (by omega) h2).trans (f28 q h1 h2)
  have k26 : ∀ q, q < A + 27 → q ≠ A → gRd M33 q = gRd M26 q := fun q h1 h2 => (k27 q (by omega) h2).trans (f27 q h1 h2)
  have k25 : ∀ q, q < A + 26 → q ≠ A → gRd M33 q = gRd M25 q := fun q h1 h2 => (k26 q (by omega) h2).trans (f26 q h1 h2)
  have k24 : ∀ q, q < A + 25 → q ≠ A → gRd M33 q = gRd M24 q := fun q h1 h2 => (k25 q (by omega) h2).trans (f25 q h1 h2)
  have k23 : ∀ q, q < A + 24 → q ≠ A → gRd M33 q = gRd M23 q := fun q h1 h2 => (k24 q (by omega) h2).trans (f24 q h1 h2)
  have k22 : ∀ q, q < A + 23 → q ≠ A → gRd M33 q = gRd M22 q := fun q h1 h2 => (k23 q (by omega) h2).trans (f23 q h1 h2)
  have k21 : ∀ q, q < A + 22 → q ≠ A → gRd M33 q = gRd M21 q := fun q h1 h2 => (k22 q (by omega) h2).trans (f22 q h1 h2)
  have k20 : ∀ q, q < A + 21 → q ≠ A → gRd M33 q = gRd M20 q := fun q h1 h2 => (k21 q (by omega) h2).trans (f21 q h1 h2)
  have k19 : ∀ q, q < A + 20 → q ≠ A → gRd M33 q = gRd M19 q := fun q h1 h2 => (k20 q (by omega) h2).trans (f20 q h1 h2)
  have k18 : ∀ q, q < A + 19 → q ≠ A → gRd M33 q = gRd M18 q := fun q h1 h2 => (k19 q (by omega) h2).trans (f19 q h1 h2)
  have k17 : ∀ q, q < A + 18 → q ≠ A → gRd M33 q = gRd M17 q := fun q h1 h2 => (k18 q (by omega) h2).trans (f18 q h1 h2)
  have k16 : ∀ q, q < A + 17 → q ≠ A → gRd M33 q = gRd M16 q := fun q h1 h2 => (k17 q (by omega) h2).trans (f17 q h1 h2)
  have k15 : ∀ q, q < A + 16 → q ≠ A → gRd M33 q = gRd M15 q := fun q h1 h2 => (k16 q (by omega) h2).trans (f16 q h1 h2)
  have k14 : ∀ q, q < A + 15 → q ≠ A → gRd M33 q = gRd M14 q := fun q h1 h2 => (k15 q (by omega) h2).trans (f15 q h1 h2)
  have k13 : ∀ q, q < A + 14 → q ≠ A → gRd M33 q = gRd M13 q := fun q h1 h2 => (k14 q (by omega) h2).trans (f14 q h1 h2)
  have k12 : ∀ q, q < A + 13 → q ≠ A → gRd M33 q = gRd M12 q := fun q h1 h2 => (k13 q (by omega) h2).trans (f13 q h1 h2)
  have k11 : ∀ q, q < A + 12 → q ≠ A → gRd M33 q = gRd M11 q := fun q h1 h2 => (k12 q (by omega) h2).trans (f12 q h1 h2)
  have k10 : ∀ q, q < A + 11 → q ≠ A → gRd M33 q = gRd M10 q := fun q h1 h2 => (k11 q (by omega) h2).trans (f11 q h1 h2)
  have k9 : ∀ q, q < A + 10 → q ≠ A → gRd M33 q = gRd M9 q := fun q h1 h2 => (k10 q (by omega) h2).trans (f10 q h1 h2)
  have k8 : ∀ q, q < A + 9 → q ≠ A → gRd M33 q = gRd M8 q := fun q h1 h2 => (k9 q (by omega) h2).trans (f9 q h1 h2)
  have k7 : ∀ q, q < A + 8 → q ≠ A → gRd M33 q = gRd M7 q := fun q h1 h2 => (k8 q (by omega) h2).trans (f8 q h1 h2)
  have k6 : ∀ q, q < A + 7 → q ≠ A → gRd M33 q = gRd M6 q := fun q h1 h2 => (k7 q (by omega) h2).trans (f7 q h1 h2)
  have k5 : ∀ q, q < A + 6 → q ≠ A → gRd M33 q = gRd M5 q := fun q h1 h2 => (k6 q (by omega) h2).trans (f6 q h1 h2)
  have k4 : ∀ q, q < A + 5 → q ≠ A → gRd M33 q = gRd M4 q := fun q h1 h2 => (k5 q (by omega) h2).trans (f5 q h1 h2)
  have k3 : ∀ q, q < A + 4 → q ≠ A → gRd M33 q = gRd M3 q := fun q h1 h2 => (k4 q (by omega) h2).trans (f4 q h1 h2)
  have k2 : ∀ q, q < A + 3 → q ≠ A → gRd M33 q = gRd M2 q := fun q h1 h2 => (k3 q (by omega) h2).trans (f3 q h1 h2)
  have k1 : ∀ q, q < A + 2 → q ≠ A → gRd M33 q = gRd M1 q := fun q h1 h2 => (k2 q (by omega) h2).trans (f2 q h1 h2)
  have k0 : ∀ q, q < A + 1 → q ≠ A → gRd M33 q = gRd M q := fun q h1 h2 => (k1 q (by omega) h2).trans (f1 q h1 h2)
  have hI : ∀ i, i < 52 → mI i = true → gRd M33 (aM A i) = some (aI G (mL i) (fun _ => 0)) := by
    intro i
    match i with
    | 0 => exact fun _ _ => (k1 _ (by show A + 1 < _; omega) (by show A + 1 ≠ _; omega)).trans r1
    | 1 => exact fun _ h => absurd h (by decide)
    | 2 => exact fun _ _ => (k2 _ (by show A + 2 < _; omega) (by show A + 2 ≠ _; omega)).trans r2
    | 3 => exact fun _ _ => (k3 _ (by show A + 3 < _; omega) (by show A + 3 ≠ _; omega)).trans r3
    | 4 => exact fun _ _ => (k4 _ (by show A + 4 < _; omega) (by show A + 4 ≠ _; omega)).trans r4
    | 5 => exact fun _ _ => (k5 _ (by show A + 5 < _; omega) (by show A + 5 ≠ _; omega)).trans r5
    | 6 => exact fun _ _ => (k6 _ (by show A + 6 < _; omega) (by show A + 6 ≠ _; omega)).trans r6
    | 7 => exact fun _ _ => (k7 _ (by show A + 7 < _; omega) (by show A + 7 ≠ _; omega)).trans r7
    | 8 => exact fun _ _ => (k8 _ (by show A + 8 < _; omega) (by show A + 8 ≠ _; omega)).trans r8
    | 9 => exact fun _ h => absurd h (by decide)
    | 10 => exact fun _ _ => (k9 _ (by show A + 9 < _; omega) (by show A + 9 ≠ _; omega)).trans r9
    | 11 => exact fun _ _ => (k10 _ (by show A + 10 < _; omega) (by show A + 10 ≠ _; omega)).trans r10
    | 12 => exact fun _ _ => (k11 _ (by show A + 11 < _; omega) (by show A + 11 ≠ _; omega)).trans r11
    | 13 => exact fun _ _ => (k12 _ (by show A + 12 < _; omega) (by show A + 12 ≠ _; omega)).trans r12
    | 14 => exact fun _ h => absurd h (by decide)
    | 15 => exact fun _ h => absurd h (by decide)
    | 16 => exact fun _ h => absurd h (by decide)
    | 17 => exact fun _ _ => (k13 _ (by show A + 13 < _; omega) (by show A + 13 ≠ _; omega)).trans r13
    | 18 => exact fun _ _ => (k14 _ (by show A + 14 < _; omega) (by show A + 14 ≠ _; omega)).trans r14
    | 19 => exact fun _ _ => (k15 _ (by show A + 15 < _; omega) (by show A + 15 ≠ _; omega)).trans r15
    | 20 => exact fun _ _ => (k16 _ (by show A + 16 < _; omega) (by show A + 16 ≠ _; omega)).trans r16
    | 21 => exact fun _ _ => (k17 _ (by show A + 17 < _; omega) (by show A + 17 ≠ _; omega)).trans r17
    | 22 => exact fun _ h => absurd h (by decide)
    | 23 => exact fun _ h => absurd h (by decide)
    | 24 => exact fun _ h => absurd h (by decide)
    | 25 => exact fun _ _ => (k19 _ (by show A + 19 < _; omega) (by show A + 19 ≠ _; omega)).trans r19
    | 26 => exact fun _ _ => (k20 _ (by show A + 20 < _; omega) (by show A + 20 ≠ _; omega)).trans r20
    | 27 => exact fun _ _ => (k21 _ (by show A + 21 < _; omega) (by show A + 21 ≠ _; omega)).trans r21
    | 28 => exact fun _ h => absurd h (by decide)
    | 29 => exact fun _ h => absurd h (by decide)
    | 30 => exact fun _ h => absurd h (by decide)
    | 31 => exact fun _ _ => (k23 _ (by show A + 23 < _; omega) (by show A + 23 ≠ _; omega)).trans r23
    | 32 => exact fun _ _ => (k24 _ (by show A + 24 < _; omega) (by show A + 24 ≠ _; omega)).trans r24
    | 33 => exact fun _ h => absurd h (by decide)
    | 34 => exact fun _ h => absurd h (by decide)
    | 35 => exact fun _ h => absurd h (by decide)
    | 36 => exact fun _ h => absurd h (by decide)
    | 37 => exact fun _ h => absurd h (by decide)
    | 38 => exact fun _ _ => (k25 _ (by show A + 25 < _; omega) (by show A + 25 ≠ _; omega)).trans r25
    | 39 => exact fun _ _ => (k26 _ (by show A + 26 < _; omega) (by show A + 26 ≠ _; omega)).trans r26
    | 40 => exact fun _ _ => (k27 _ (by show A + 27 < _; omega) (by show A + 27 ≠ _; omega)).trans r27
    | 41 => exact fun _ _ => (k28 _ (by show A + 28 < _; omega) (by show A + 28 ≠ _; omega)).trans r28
    | 42 => exact fun _ _ => (k29 _ (by show A + 29 < _; omega) (by show A + 29 ≠ _; omega)).trans r29
    | 43 => exact fun _ _ => (k30 _ (by show A + 30 < _; omega) (by show A + 30 ≠ _; omega)).trans r30
    | 44 => exact fun _ _ => (k31 _ (by show A + 31 < _; omega) (by show A + 31 ≠ _; omega)).trans r31
    | 45 => exact fun _ _ => (k32 _ (by show A + 32 < _; omega) (by show A + 32 ≠ _; omega)).trans r32
    | 46 => exact fun _ _ => r33
    | 47 => exact fun _ h => absurd h (by decide)
    | 48 => exact fun _ h => absurd h (by decide)
    | 49 => exact fun _ h => absurd h (by decide)
    | 50 => exact fun _ h => absurd h (by decide)
    | 51 => exact fun _ h => absurd h (by decide)
    | n + 52 => exact fun h => absurd h (by omega)
  have h52 : ∀ i, mI i = true → i < 52 := by
    intro i h
    apply Nat.lt_of_not_le
    intro h1
    have h2 : mI i = false := by unfold mI; rw [List.getD_eq_getElem?_getD, List.getElem?_eq_none (by simpa using h1)]; rfl
    rw [h2] at h; cases h
  refine ⟨M33, g1.tr (g2.tr (g3.tr (g4.tr (g5.tr (g6.tr (g7.tr (g8.tr (g9.tr (g10.tr (g11.tr (g12.tr (g13.tr (g14.tr (g15.tr (g16.tr (g17.tr (g18.tr (g19.tr (g20.tr (g21.tr (g22.tr (g23.tr (g24.tr (g25.tr (g26.tr (g27.tr (g28.tr (g29.tr (g30.tr (g31.tr (g32.tr (g33)))))))))))))))))))))))))))))))), ⟨o33, fun i hi => hI i (h52 i hi) hi, (k18 _ (by show A + 18 < _; omega) (by show A + 18 ≠ _; omega)).trans r18, (k22 _ (by show A + 22 < _; omega) (by show A + 22 ≠ _; omega)).trans r22⟩, by rw [v33, v32, v31, v30, v29, v28, v27, v26, v25, v24, v23, v22, v21, v20, v19, v18, v17, v16, v15, v14, v13, v12, v11, v10, v9, v8, v7, v6, v5, v4, v3, v2, v1], fun q hq => k0 q (by omega) (by omega)⟩
