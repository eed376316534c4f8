theorem p_jot (G : gG) (M : gM) (A : Nat) (s : Nat → Int32) (c : Int64) (F : Nat → Nat → Int32) (L : Nat → Int64) (nb n ln : Nat) (eN gN P : Nat → Nat) (V : Nat → mV) (h : ModAt G M A s c F L) (hL : LnM nb n eN gN (F 2) (F 17) (F 18) (F 25) (F 26) (F 27)) (h28 : s 28 = nI nb) (h22 : s 22 = nI n) (hP : PthM nb ln P (F 32)) (hn0 : 0 < n) (hV : jvF (fun i j => meF (F 2) (F 3) (F 17) (F 18) (F 25) i j (eN j) (gN i)) P (s 33, s 34, s 35, s 36, s 37) = V) : ∃ M1 : gM, Ev G 1 m_Mod_jot [.ref A] M none M1 ∧ MS G M M1 A (upd (upd (upd (upd (upd (upd (upd (upd (upd (upd s 23 (nI n)) 48 (s 28)) 49 (s 29)) 50 (s 16)) 47 (nI ln)) 33 ((V ln).1)) 34 ((V ln).2.1)) 35 ((V ln).2.2.1)) 36 ((V ln).2.2.2.1)) 37 ((V ln).2.2.2.2)) (L 0) (uF (uF (uF (uF (uF (uF (uF (uF (uF (uF (uF (uF F 19 (cpI (F 17) n (F 19))) 20 (cpI (szI (F 2) (F 17) (F 18)) n (F 20))) 21 (cpI (F 18) n (F 21))) 38 (cpI (fun j => (V (j + 1)).1) ln (F 38))) 39 (cpI (fun j => F 26 (P (j + 1))) ln (F 39))) 40 (cpI (fun j => F 25 (P (j + 1))) ln (F 40))) 41 (cpI (fun j => nI (P (j + 1))) ln (F 41))) 42 (cpI (fun j => (V (j + 1)).2.1) ln (F 42))) 43 (cpI (fun j => F 3 0 - (V (j + 1)).2.1) ln (F 43))) 44 (cpI (fun j => (V (j + 1)).2.2.2.2) ln (F 44))) 45 (cpI (fun j => (V (j + 1)).2.2.1) ln (F 45))) 46 (cpI (fun j => (V (j + 1)).2.2.2.1) ln (F 46))) L := by
  have e9 := e_Mod_jot G M A (aM A) s c (F 2) (F 3) (F 17) (F 18) (F 25) (F 26) (F 27) (F 32) (F 19) (F 20) (F 21) (F 38) (F 39) (F 40) (F 41) (F 42) (F 43) (F 44) (F 45) (F 46) L nb n ln eN gN P (aM_inj A) h.1 (h.2.1 2 rfl) (h.2.1 3 rfl) (h.2.1 17 rfl) (h.2.1 18 rfl) (h.2.1 25 rfl) (h.2.1 26 rfl) (h.2.1 27 rfl) (h.2.2.2) (h.2.1 32 rfl) (h.2.1 19 rfl) (h.2.1 20 rfl) (h.2.1 21 rfl) (h.2.1 38 rfl) (h.2.1 39 rfl) (h.2.1 40 rfl) (h.2.1 41 rfl) (h.2.1 42 rfl) (h.2.1 43 rfl) (h.2.1 44 rfl) (h.2.1 45 rfl) (h.2.1 46 rfl) hL h28 h22 hP hn0
  rw [hV] at e9
  exact ⟨_, e9, (MS.wA (upd (upd (upd (upd (upd (upd (upd (upd (upd (upd s 23 (nI n)) 48 (s 28)) 49 (s 29)) 50 (s 16)) 47 (nI ln)) 33 ((V ln).1)) 34 ((V ln).2.1)) 35 ((V ln).2.2.1)) 36 ((V ln).2.2.2.1)) 37 ((V ln).2.2.2.2)) (L 0) (MS.wI 46 (cpI (fun j => (V (j + 1)).2.2.2.1) ln (F 46)) rfl (MS.wI 45 (cpI (fun j => (V (j + 1)).2.2.1) ln (F 45)) rfl (MS.wI 44 (cpI (fun j => (V (j + 1)).2.2.2.2) ln (F 44)) rfl (MS.wI 43 (cpI (fun j => F 3 0 - (V (j + 1)).2.1) ln (F 43)) rfl (MS.wI 42 (cpI (fun j => (V (j + 1)).2.1) ln (F 42)) rfl (MS.wI 41 (cpI (fun j => nI (P (j + 1))) ln (F 41)) rfl (MS.wI 40 (cpI (fun j => F 25 (P (j + 1))) ln (F 40)) rfl (MS.wI 39 (cpI (fun j => F 26 (P (j + 1))) ln (F 39)) rfl (MS.wI 38 (cpI (fun j => (V (j + 1)).1) ln (F 38)) rfl (MS.wI 21 (cpI (F 18) n (F 21)) rfl (MS.wI 20 (cpI (szI (F 2) (F 17) (F 18)) n (F 20)) rfl (MS.wI 19 (cpI (F 17) n (F 19)) rfl (MS.rf h))))))))))))))⟩
theorem p_jot0 (G : gG) (M : gM) (A : Nat) (s : Nat → Int32) (c : Int64) (F : Nat → Nat → Int32) (L : Nat → Int64) (h : ModAt G M A s c F L) (h22 : s 22 = 0) : ∃ M1 : gM, Ev G 1 m_Mod_jot [.ref A] M none M1 ∧ MS G M M1 A (upd (upd (upd (upd (upd s 23 (nI 0)) 47 (nI 0)) 48 0) 49 (s 29)) 50 (s 16)) 0 F L := by
  exact ⟨_, e_Mod_jot0 G M A (aM A) s c (aM_inj A) h.1 h22, (MS.wA (upd (upd (upd (upd (upd s 23 (nI 0)) 47 (nI 0)) 48 0) 49 (s 29)) 50 (s 16)) 0 (MS.rf h))⟩
theorem p_type (G : gG) (M : gM) (A : Nat) (s : Nat → Int32) (c : Int64) (F : Nat → Nat → Int32) (L : Nat → Int64) (n : Nat) (x : Int32) (h : ModAt G M A s c F L) (hx : cLin x = true) (h1 : s 1 = nI n) (hn : n < 60) : ∃ M1 : gM, Ev G 1 m_Mod_type [.ref A, .int x] M (some (.int (nI (n + 1)))) M1 ∧ MS G M M1 A (upd s 1 (nI (n + 1))) c (uF F 0 (upd (F 0) n x)) L := by
  exact ⟨_, e_Mod_type G M A (aM A) s c (F 0) n x (aM_inj A) h.1 (h.2.1 0 rfl) hx h1 hn, (MS.wA (upd s 1 (nI (n + 1))) c (MS.wI 0 (upd (F 0) n x) rfl (MS.rf h)))⟩
theorem p_wipe (G : gG) (M : gM) (A : Nat) (s : Nat → Int32) (c : Int64) (F : Nat → Nat → Int32) (L : Nat → Int64) (h : ModAt G M A s c F L) : ∃ M1 : gM, Ev G 0 m_Mod_wipe [.ref A] M (some (.int 0)) M1 ∧ MS G M M1 A (upd s 1 (nI 0)) c F L := by
  exact ⟨_, e_Mod_wipe G M A (aM A) s c (aM_inj A) h.1, (MS.wA (upd s 1 (nI 0)) c (MS.rf h))⟩
theorem p_width (G : gG) (M : gM) (A : Nat) (s : Nat → Int32) (c : Int64) (F : Nat → Nat → Int32) (L : Nat → Int64) (x y : Int32) (h : ModAt G M A s c F L) (hx : cWid x = true) (hy1 : 1 ≤ y) (hy2 : y ≤ 20) : ∃ M1 : gM, Ev G 1 m_Mod_width [.ref A, .int x, .int y] M (some (.int 0)) M1 ∧ MS G M M1 A s c (uF F 2 (upd (F 2) x.toNatClampNeg y)) L := by
  exact ⟨_, e_Mod_width G M A (aM A) s c (F 2) x y (aM_inj A) h.1 (h.2.1 2 rfl) hx hy1 hy2, (MS.wI 2 (upd (F 2) x.toNatClampNeg y) rfl (MS.rf h))⟩
theorem p_prm0 (G : gG) (M : gM) (A : Nat) (s : Nat → Int32) (c : Int64) (F : Nat → Nat → Int32) (L : Nat → Int64) (y : Int32) (h : ModAt G M A s c F L) (h1 : 10 ≤ y) (h2 : y ≤ 400) : ∃ M1 : gM, Ev G 0 m_Mod_parameter [.ref A, .int 0, .int y] M (some (.int 0)) M1 ∧ MS G M M1 A s c (uF F 3 (upd (F 3) 0 y)) L := by
  exact ⟨_, e_Mod_par0 G M A (aM A) s c (F 3) y (aM_inj A) h.1 (h.2.1 3 rfl) h1 h2, (MS.wI 3 (upd (F 3) 0 y) rfl (MS.rf h))⟩
theorem p_prm1 (G : gG) (M : gM) (A : Nat) (s : Nat → Int32) (c : Int64) (F : Nat → Nat → Int32) (L : Nat → Int64) (y : Int32) (h : ModAt G M A s c F L) (h1 : 0 ≤ y) (h2 : y ≤ 10000) : ∃ M1 : gM, Ev G 0 m_Mod_parameter [.ref A, .int 1, .int y] M (some (.int 0)) M1 ∧ MS G M M1 A s c (uF F 3 (upd (F 3) 1 y)) L := by
  exact ⟨_, e_Mod_par1 G M A (aM A) s c (F 3) y (aM_inj A) h.1 (h.2.1 3 rfl) h1 h2, (MS.wI 3 (upd (F 3) 1 y) rfl (MS.rf h))⟩
theorem p_prm2 (G : gG) (M : gM) (A : Nat) (s : Nat → Int32) (c : Int64) (F : Nat → Nat → Int32) (L : Nat → Int64) (y : Int32) (h : ModAt G M A s c F L) (h1 : 0 ≤ y) (h2 : y ≤ 100) : ∃ M1 : gM, Ev G 0 m_Mod_parameter [.ref A, .int 2, .int y] M (some (.int 0)) M1 ∧ MS G M M1 A s c (uF F 3 (upd (F 3) 2 y)) L := by
  exact ⟨_, e_Mod_par2 G M A (aM A) s c (F 3) y (aM_inj A) h.1 (h.2.1 3 rfl) h1 h2, (MS.wI 3 (upd (F 3) 2 y) rfl (MS.rf h))⟩
theorem p_prm3 (G : gG) (M : gM) (A : Nat) (s : Nat → Int32) (c : Int64) (F : Nat → Nat → Int32) (L : Nat → Int64) (y : Int32) (h : ModAt G M A s c F L) (h1 : 0 ≤ y) (h2 : y ≤ 200) : ∃ M1 : gM, Ev G 0 m_Mod_parameter [.ref A, .int 3, .int y] M (some (.int 0)) M1 ∧ MS G M M1 A s c (uF F 3 (upd (F 3) 3 y)) L := by
  exact ⟨_, e_Mod_par3 G M A (aM A) s c (F 3) y (aM_inj A) h.1 (h.2.1 3 rfl) h1 h2, (MS.wI 3 (upd (F 3) 3 y) rfl (MS.rf h))⟩
theorem p_prm4 (G : gG) (M : gM) (A : Nat) (s : Nat → Int32) (c : Int64) (F : Nat → Nat → Int32) (L : Nat → Int64) (y : Int32) (h : ModAt G M A s c F L) (h1 : 0 ≤ y) (h2 : y ≤ 10000) : ∃ M1 : gM, Ev G 0 m_Mod_parameter [.ref A, .int 4, .int y] M (some (.int 0)) M1 ∧ MS G M M1 A s c (uF F 3 (upd (F 3) 4 y)) L := by
  exact ⟨_, e_Mod_par4 G M A (aM A) s c (F 3) y (aM_inj A) h.1 (h.2.1 3 rfl) h1 h2, (MS.wI 3 (upd (F 3) 4 y) rfl (MS.rf h))⟩
theorem p_define (G : gG) (M : gM) (A : Nat) (s : Nat → Int32) (c : Int64) (F : Nat → Nat → Int32) (L : Nat → Int64) (n j : Nat) (h : ModAt G M A s c F L) (h1 : s 1 = nI n) (hn : n ≤ 24) (hj : j < 4) : ∃ M1 : gM, Ev G 0 m_Mod_define [.ref A, .int (nI j)] M (some (.int 0)) M1 ∧ MS G M M1 A (upd s 1 (nI 0)) c (uF (uF F 4 (cpO (F 0) (j * 24) n (F 4))) 5 (upd (F 5) j (nI n))) L := by
  exact ⟨_, e_Mod_define G M A (aM A) s c (F 0) (F 4) (F 5) n j (aM_inj A) h.1 (h.2.1 0 rfl) (h.2.1 4 rfl) (h.2.1 5 rfl) h1 hn hj, (MS.wA (upd s 1 (nI 0)) c (MS.wI 5 (upd (F 5) j (nI n)) rfl (MS.wI 4 (cpO (F 0) (j * 24) n (F 4)) rfl (MS.rf h))))⟩
theorem p_pattern (G : gG) (M : gM) (A : Nat) (s : Nat → Int32) (c : Int64) (F : Nat → Nat → Int32) (L : Nat → Int64) (m np n : Nat) (h : ModAt G M A s c F L) (h1 : s 1 = nI m) (hm : m ≤ 60) (h9 : s 9 = nI np) (hnp : np < 20) (hp : patF (F 0) m = some n) : ∃ M1 : gM, Ev G 1 m_Mod_pattern [.ref A] M (some (.int (nI (np + 1)))) M1 ∧ MS G M M1 A (upd (upd s 1 (nI 0)) 9 (nI (np + 1))) c (uF (uF (uF F 7 ((p4F (F 0) np m 0 0 (cpO (fun _ => 0) (np * 6) 6 (F 7)) (F 6)).1)) 6 ((p4F (F 0) np m 0 0 (cpO (fun _ => 0) (np * 6) 6 (F 7)) (F 6)).2)) 8 (upd (F 8) np (nI n))) L := by
  exact ⟨_, e_Mod_pattern G M A (aM A) s c (F 0) (F 6) (F 7) (F 8) m np n (aM_inj A) h.1 (h.2.1 0 rfl) (h.2.1 6 rfl) (h.2.1 7 rfl) (h.2.1 8 rfl) h1 hm h9 hnp hp, (MS.wI 8 (upd (F 8) np (nI n)) rfl (MS.wA (upd (upd s 1 (nI 0)) 9 (nI (np + 1))) c (MS.wI 6 ((p4F (F 0) np m 0 0 (cpO (fun _ => 0) (np * 6) 6 (F 7)) (F 6)).2) rfl (MS.wI 7 ((p4F (F 0) np m 0 0 (cpO (fun _ => 0) (np * 6) 6 (F 7)) (F 6)).1) rfl (MS.rf h)))))⟩
/-- what paragraph does up to hyphenate: m1 behind the expansion, m2 behind hyphenate -/
theorem p_par1 (G : gG) (M : gM) (A : Nat) (s : Nat → Int32) (c : Int64) (F : Nat → Nat → Int32) (L : Nat → Int64) (md : Nat → Bool) (mn : Nat → Nat) (n gn : Nat) (Y : Int32 × yS) (h : ModAt G M A s c F L) (hM : BodOk (F 5) md mn) (h1 : s 1 = nI n) (h15 : s 15 = nI gn) (hn : n ≤ 60) (hgn : gn ≤ 200) (hY : mxF md (F 4) mn 8245 ((n, 0, 0, gn, 0), 4, cpI (F 0) n (F 10), F 12, F 11, F 13, F 17, F 18) = Y) : ∃ (M1 : gM) (s1 : Nat → Int32) (F1 : Nat → Nat → Int32), Go G m_Mod_paragraph 4 (0, [(0, .ref A)], [], M) (10, [(0, .ref A), (1, .int Y.1)], [], M1) ∧ MS G M M1 A s1 c F1 L ∧ (∀ i, ¬ (i = 1 ∨ i = 14 ∨ i = 15 ∨ i = 16 ∨ i = 22) → s1 i = s i) ∧ s1 1 = nI 0 ∧ s1 15 = nI Y.2.1.2.2.2.1 ∧ s1 16 = nI Y.2.1.2.2.1 ∧ s1 22 = nI Y.2.1.2.2.2.2 ∧ (∀ i, ¬ (i = 10 ∨ i = 11 ∨ i = 12 ∨ i = 13 ∨ i = 17 ∨ i = 18) → F1 i = F i) ∧ F1 17 = Y.2.2.2.2.2.2.2.1 ∧ F1 18 = Y.2.2.2.2.2.2.2.2 := by
  obtain ⟨M1, e1, k1⟩ := p_expand G M A s c F L md mn n gn Y h hM h1 h15 hn hgn hY
  refine ⟨_, (upd (upd (upd (upd (upd s 14 (nI Y.2.1.1)) 15 (nI Y.2.1.2.2.2.1)) 16 (nI Y.2.1.2.2.1)) 22 (nI Y.2.1.2.2.2.2)) 1 (nI 0)), (uF (uF (uF (uF (uF (uF F 13 Y.2.2.2.2.2.2.1) 17 Y.2.2.2.2.2.2.2.1) 18 Y.2.2.2.2.2.2.2.2) 10 Y.2.2.2.1) 12 Y.2.2.2.2.1) 11 Y.2.2.2.2.2.1), ?_, MS.wA _ c k1, fun i hi => ?_, rfl, rfl, rfl, rfl, fun i hi => ?_, rfl, rfl⟩
  · refine Go.trp 1 (go_aload_n d_Mod_paragraph_0 rfl 0 rfl) rfl ?_
    refine Go.trp 4 (go_callV [] [.int Y.1] c0_Mod_expand im_Mod_expand se_Mod_expand lk_Mod_218 d_Mod_paragraph_1 rfl rfl (h.1) (e1) (by decide) rfl rfl (Nat.le_of_ble_eq_true rfl) rfl) rfl ?_
    refine Go.trp 5 (go_istore_n [(1, .int Y.1), (0, .ref A)] d_Mod_paragraph_4 rfl (by decide) rfl) rfl ?_
    refine (go_pick [1, 0] [(0, .ref A), (1, .int Y.1)] rfl).tr ?_
    refine Go.trp 6 (go_aload_n d_Mod_paragraph_5 rfl 0 rfl) rfl ?_
    refine Go.trp 7 (go_iconst (v := nI 0) d_Mod_paragraph_6 (rfl)) rfl ?_
    refine Go.trp 10 (go_put (oMod (aM A) (upd (upd (upd (upd (upd s 14 (nI Y.2.1.1)) 15 (nI Y.2.1.2.2.2.1)) 16 (nI Y.2.1.2.2.1)) 22 (nI Y.2.1.2.2.2.2)) 1 (nI 0)) c) f_Mod_118 ft_Mod_1 d_Mod_paragraph_7 (k1.1.1) rfl rfl (Nat.le_of_ble_eq_true rfl) rfl) rfl ?_
    exact Go.rf
  · have a1 : ¬ i = 1 := fun q => hi (by omega)
    simp only [upd]; rw [if_neg (by omega), if_neg (by omega), if_neg (by omega), if_neg (by omega), if_neg (by omega)]
  · simp only [uF]; rw [if_neg (by omega), if_neg (by omega), if_neg (by omega), if_neg (by omega), if_neg (by omega), if_neg (by omega)]
theorem p_par2 (G : gG) (M : gM) (A : Nat) (s : Nat → Int32) (c : Int64) (F : Nat → Nat → Int32) (L : Nat → Int64) (pn : Nat → Nat) (np n tn2 : Nat) (c2 s2 : Nat → Int32) (H : (Nat → Int32) × Nat) (z : Int32) (h : ModAt G M A s c F L) (hz : ¬ z < 0) (hs : s 22 = nI n) (hn : n ≤ 120) (u1 : cnN n (F 17) (F 18) = tn2) (u2 : (cnC n (F 17) (F 18)).2.1 = c2) (u3 : (cnC n (F 17) (F 18)).2.2 = s2) (hP : PatOk np (F 8) pn) (h9 : s 9 = nI np) (hH : hyF tn2 c2 (F 6) (F 7) pn np (tn2 + 1) 0 (cpI (fun _ => 0) (tn2 + 1) (F 24)) 0 = H) : ∃ (M1 : gM) (s1 : Nat → Int32) (F1 : Nat → Nat → Int32), Go G m_Mod_paragraph 4 (10, [(0, .ref A), (1, .int z)], [], M) (24, [(0, .ref A), (1, .int z)], [], M1) ∧ MS G M M1 A s1 c F1 L ∧ (∀ i, ¬ (i = 22 ∨ i = 29) → s1 i = s i) ∧ s1 22 = nI tn2 ∧ s1 29 = nI H.2 ∧ (∀ i, ¬ (i = 17 ∨ i = 18 ∨ i = 24) → F1 i = F i) ∧ F1 17 = c2 ∧ F1 18 = s2 ∧ F1 24 = H.1 := by
  have ht2 : tn2 ≤ 120 := by rw [← u1]; exact Nat.le_trans (cnN_le _ _ _) hn
  obtain ⟨M1, e1, k1⟩ := p_clean G M A s c F L n tn2 c2 s2 h hs hn u1 u2 u3
  obtain ⟨M2, e2, k2⟩ := p_hyphenate G M1 A (upd s 22 (nI tn2)) c (uF (uF F 17 c2) 18 s2) L pn np tn2 H k1.1 hP h9 rfl ht2 hH
  refine ⟨M2, (upd (upd s 22 (nI tn2)) 29 (nI H.2)), (uF (uF (uF F 17 c2) 18 s2) 24 H.1), ?_, k1.tr k2, fun i hi => ?_, rfl, rfl, fun i hi => ?_, rfl, rfl, rfl⟩
  · refine Go.trp 11 (go_iload_n d_Mod_paragraph_10 rfl 1 rfl) rfl ?_
    refine Go.trp 16 (go_if_ge_t 16 d_Mod_paragraph_11 (by decide) (Int32.not_lt.mp hz)) rfl ?_
    refine Go.trp 17 (go_aload_n d_Mod_paragraph_16 rfl 0 rfl) rfl ?_
    refine Go.trp 20 (go_callV [] [] c0_Mod_clean im_Mod_clean se_Mod_clean lk_Mod_221 d_Mod_paragraph_17 rfl rfl (h.1) (e1) (by decide) rfl rfl (Nat.le_of_ble_eq_true rfl) rfl) rfl ?_
    refine Go.trp 21 (go_aload_n d_Mod_paragraph_20 rfl 0 rfl) rfl ?_
    refine Go.trp 24 (go_callV [] [] c0_Mod_hyphenate im_Mod_hyphenate se_Mod_hyphenate lk_Mod_224 d_Mod_paragraph_21 rfl rfl (k1.1.1) (e2) (by decide) rfl rfl (Nat.le_of_ble_eq_true rfl) rfl) rfl ?_
    exact Go.rf
  · simp only [upd]; rw [if_neg (by omega), if_neg (by omega)]
  · simp only [uF]; rw [if_neg (by omega), if_neg (by omega), if_neg (by omega)]
theorem p_parE (G : gG) (M : gM) (A : Nat) (z : Int32) (hz : z < 0) : EvF G 4 m_Mod_paragraph (10, [(0, .ref A), (1, .int z)], [], M) (some (.int z)) M := by
  refine EvF.gop 11 (go_iload_n d_Mod_paragraph_10 rfl 1 rfl) rfl ?_
  refine EvF.gop 14 (go_if_ge_f 16 d_Mod_paragraph_11 (by decide) (Int32.not_le.mpr hz)) rfl ?_
  refine EvF.gop 15 (go_iload_n d_Mod_paragraph_14 rfl 1 rfl) rfl ?_
  exact EvF.ri d_Mod_paragraph_15 rfl (rfl) (rfl)
theorem p_par0 (G : gG) (M : gM) (A : Nat) (s : Nat → Int32) (c : Int64) (F : Nat → Nat → Int32) (L : Nat → Int64) (z : Int32) (h : ModAt G M A s c F L) (h22 : s 22 = 0) : ∃ M1 : gM, EvF G 4 m_Mod_paragraph (24, [(0, .ref A), (1, .int z)], [], M) (some (.int 0)) M1 ∧ MS G M M1 A (upd (upd (upd (upd (upd s 23 (nI 0)) 47 (nI 0)) 48 0) 49 (s 29)) 50 (s 16)) 0 F L := by
  obtain ⟨M1, e1, k1⟩ := p_jot0 G M A s c F L h h22
  refine ⟨M1, ?_, k1⟩
  refine EvF.gop 25 (go_aload_n d_Mod_paragraph_24 rfl 0 rfl) rfl ?_
  refine EvF.gop 28 (go_get f_Mod_142 d_Mod_paragraph_25 (h.1) rfl) rfl ?_
  refine EvF.gop 59 (go_if_le_t 59 d_Mod_paragraph_28 (by decide) (show s 22 ≤ 0 from by rw [h22]; decide)) rfl ?_
  refine EvF.gop 60 (go_aload_n d_Mod_paragraph_59 rfl 0 rfl) rfl ?_
  refine EvF.gop 63 (go_callV [] [] c0_Mod_jot im_Mod_jot se_Mod_jot lk_Mod_233 d_Mod_paragraph_60 rfl rfl (h.1) (e1) (by decide) rfl rfl (Nat.le_of_ble_eq_true rfl) rfl) rfl ?_
  refine EvF.gop 64 (go_aload_n d_Mod_paragraph_63 rfl 0 rfl) rfl ?_
  refine EvF.gop 67 (go_get f_Mod_199 d_Mod_paragraph_64 (k1.1.1) rfl) rfl ?_
  exact EvF.ri d_Mod_paragraph_67 rfl (rfl) (rfl)
theorem p_parB (G : gG) (M : gM) (A : Nat) (s : Nat → Int32) (c : Int64) (F : Nat → Nat → Int32) (L : Nat → Int64) (n : Nat) (B : Bool × bS) (z : Int32) (h : ModAt G M A s c F L) (h22 : s 22 = nI n) (hn0 : 0 < n) (hn : n ≤ 120) (hB : mbF n (F 17) (ptM (F 24)) n 0 (0, upd (F 25) 0 0, F 26, upd (F 27) 0 0) = B) (hb : B.1 = false) : ∃ M1 : gM, EvF G 4 m_Mod_paragraph (24, [(0, .ref A), (1, .int z)], [], M) (some (.int (-4))) M1 ∧ MS G M M1 A (upd s 28 (nI B.2.1)) c (uF (uF (uF F 25 B.2.2.1) 26 B.2.2.2.1) 27 B.2.2.2.2) L := by
  obtain ⟨M1, e1, k1⟩ := p_findBreaks G M A s c F L n B h h22 hn hB
  refine ⟨M1, ?_, k1⟩
  refine EvF.gop 25 (go_aload_n d_Mod_paragraph_24 rfl 0 rfl) rfl ?_
  refine EvF.gop 28 (go_get f_Mod_142 d_Mod_paragraph_25 (h.1) rfl) rfl ?_
  refine EvF.gop 31 (go_if_le_f 59 d_Mod_paragraph_28 (by decide) (show ¬ s 22 ≤ 0 from by rw [h22]; exact nI_nle hn0 (by omega))) rfl ?_
  refine EvF.gop 32 (go_aload_n d_Mod_paragraph_31 rfl 0 rfl) rfl ?_
  refine EvF.gop 35 (go_callV [] [.int (bI B.1)] c0_Mod_findBreaks im_Mod_findBreaks se_Mod_findBreaks lk_Mod_227 d_Mod_paragraph_32 rfl rfl (h.1) (e1) (by decide) rfl rfl (Nat.le_of_ble_eq_true rfl) rfl) rfl ?_
  refine EvF.gop 38 (go_if_ne_f 41 d_Mod_paragraph_35 (by decide) (by rw [hb]; rfl)) rfl ?_
  refine EvF.gop 40 (go_bipush (v := (-4)) d_Mod_paragraph_38 (by decide)) rfl ?_
  exact EvF.ri d_Mod_paragraph_40 rfl (rfl) (rfl)
theorem p_par3 (G : gG) (M : gM) (A : Nat) (s : Nat → Int32) (c : Int64) (F : Nat → Nat → Int32) (L : Nat → Int64) (n : Nat) (B : Bool × bS) (eN gN : Nat → Nat) (R : cS × mV) (z : Int32) (h : ModAt G M A s c F L) (h22 : s 22 = nI n) (hn0 : 0 < n) (hn : n ≤ 120) (hB : mbF n (F 17) (ptM (F 24)) n 0 (0, upd (F 25) 0 0, F 26, upd (F 27) 0 0) = B) (hb : B.1 = true) (hL : LnM B.2.1 n eN gN (F 2) (F 17) (F 18) B.2.2.1 B.2.2.2.1 B.2.2.2.2) (hR : slF B.2.1 (fun i j => meF (F 2) (F 3) (F 17) (F 18) B.2.2.1 i j (eN j) (gN i)) (fun i j => pmF (F 3) B.2.2.1 i j) B.2.1 ((vp_updL L B.2.1 0, upd (F 31) B.2.1 0, F 32), (s 33, s 34, s 35, s 36, s 37)) = R) : ∃ (M1 : gM) (s1 : Nat → Int32) (F1 : Nat → Nat → Int32), Go G m_Mod_paragraph 4 (24, [(0, .ref A), (1, .int z)], [], M) (45, [(0, .ref A), (1, .int z)], [], M1) ∧ MS G M M1 A s1 c F1 R.1.1 ∧ (∀ i, ¬ (i = 28 ∨ i = 33 ∨ i = 34 ∨ i = 35 ∨ i = 36 ∨ i = 37) → s1 i = s i) ∧ s1 28 = nI B.2.1 ∧ (s1 33, s1 34, s1 35, s1 36, s1 37) = R.2 ∧ (∀ i, ¬ (i = 25 ∨ i = 26 ∨ i = 27 ∨ i = 31 ∨ i = 32) → F1 i = F i) ∧ F1 25 = B.2.2.1 ∧ F1 26 = B.2.2.2.1 ∧ F1 27 = B.2.2.2.2 ∧ F1 32 = R.1.2.2 := by
  obtain ⟨M1, e1, k1⟩ := p_findBreaks G M A s c F L n B h h22 hn hB
  obtain ⟨M2, e2, k2⟩ := p_solve G M1 A (upd s 28 (nI B.2.1)) c (uF (uF (uF F 25 B.2.2.1) 26 B.2.2.2.1) 27 B.2.2.2.2) L B.2.1 n eN gN R k1.1 hL rfl hR
  refine ⟨M2, (upd (upd (upd (upd (upd (upd s 28 (nI B.2.1)) 33 R.2.1) 34 R.2.2.1) 35 R.2.2.2.1) 36 R.2.2.2.2.1) 37 R.2.2.2.2.2), (uF (uF (uF (uF (uF F 25 B.2.2.1) 26 B.2.2.2.1) 27 B.2.2.2.2) 31 R.1.2.1) 32 R.1.2.2), ?_, k1.tr k2, fun i hi => ?_, rfl, rfl, fun i hi => ?_, rfl, rfl, rfl, rfl⟩
  · refine Go.trp 25 (go_aload_n d_Mod_paragraph_24 rfl 0 rfl) rfl ?_
    refine Go.trp 28 (go_get f_Mod_142 d_Mod_paragraph_25 (h.1) rfl) rfl ?_
    refine Go.trp 31 (go_if_le_f 59 d_Mod_paragraph_28 (by decide) (show ¬ s 22 ≤ 0 from by rw [h22]; exact nI_nle hn0 (by omega))) rfl ?_
    refine Go.trp 32 (go_aload_n d_Mod_paragraph_31 rfl 0 rfl) rfl ?_
    refine Go.trp 35 (go_callV [] [.int (bI B.1)] c0_Mod_findBreaks im_Mod_findBreaks se_Mod_findBreaks lk_Mod_227 d_Mod_paragraph_32 rfl rfl (h.1) (e1) (by decide) rfl rfl (Nat.le_of_ble_eq_true rfl) rfl) rfl ?_
    refine Go.trp 41 (go_if_ne_t 41 d_Mod_paragraph_35 (by decide) (by rw [hb]; decide)) rfl ?_
    refine Go.trp 42 (go_aload_n d_Mod_paragraph_41 rfl 0 rfl) rfl ?_
    refine Go.trp 45 (go_callV [] [] c0_Mod_solve im_Mod_solve se_Mod_solve lk_Mod_230 d_Mod_paragraph_42 rfl rfl (k1.1.1) (e2) (by decide) rfl rfl (Nat.le_of_ble_eq_true rfl) rfl) rfl ?_
    exact Go.rf
  · simp only [upd]; rw [if_neg (by omega), if_neg (by omega), if_neg (by omega), if_neg (by omega), if_neg (by omega), if_neg (by omega)]
  · simp only [uF]; rw [if_neg (by omega), if_neg (by omega), if_neg (by omega), if_neg (by omega), if_neg (by omega)]
theorem p_parO (G : gG) (M : gM) (A : Nat) (s : Nat → Int32) (c : Int64) (F : Nat → Nat → Int32) (L : Nat → Int64) (z : Int32) (h : ModAt G M A s c F L) (hx : lg_cmp (L 0) 0 < 0) : EvF G 4 m_Mod_paragraph (45, [(0, .ref A), (1, .int z)], [], M) (some (.int (-5))) M := by
  refine EvF.gop 46 (go_aload_n d_Mod_paragraph_45 rfl 0 rfl) rfl ?_
  refine EvF.gop 49 (go_get f_Mod_74 d_Mod_paragraph_46 (h.1) rfl) rfl ?_
  refine EvF.gop 50 (go_iconst (v := 0) d_Mod_paragraph_49 (by decide)) rfl ?_
  refine EvF.gop 51 (go_lald (j := 0) d_Mod_paragraph_50 (h.2.2.2) (rfl) (by decide) (by decide)) rfl ?_
  refine EvF.gop 52 (go_lconst (v := 0) d_Mod_paragraph_51 (by decide)) rfl ?_
  refine EvF.gop 53 (go_lcmp d_Mod_paragraph_52) rfl ?_
  refine EvF.gop 56 (go_if_ge_f 59 d_Mod_paragraph_53 (by decide) (Int32.not_le.mpr hx)) rfl ?_
  refine EvF.gop 58 (go_bipush (v := (-5)) d_Mod_paragraph_56 (by decide)) rfl ?_
  exact EvF.ri d_Mod_paragraph_58 rfl (rfl) (rfl)
theorem p_parJ (G : gG) (M : gM) (A : Nat) (s : Nat → Int32) (c : Int64) (F : Nat → Nat → Int32) (L : Nat → Int64) (nb n ln : Nat) (eN gN P : Nat → Nat) (V : Nat → mV) (z : Int32) (h : ModAt G M A s c F L) (hx : ¬ lg_cmp (L 0) 0 < 0) (hL : LnM nb n eN gN (F 2) (F 17) (F 18) (F 25) (F 26) (F 27)) (h28 : s 28 = nI nb) (h22 : s 22 = nI n) (hP : PthM nb ln P (F 32)) (hn0 : 0 < n) (hV : jvF (fun i j => meF (F 2) (F 3) (F 17) (F 18) (F 25) i j (eN j) (gN i)) P (s 33, s 34, s 35, s 36, s 37) = V) : ∃ M1 : gM, EvF G 4 m_Mod_paragraph (45, [(0, .ref A), (1, .int z)], [], M) (some (.int (nI ln))) M1 ∧ MS G M M1 A (upd (upd (upd (upd (upd (upd (upd (upd (upd (upd s 23 (nI n)) 48 (s 28)) 49 (s 29)) 50 (s 16)) 47 (nI ln)) 33 ((V ln).1)) 34 ((V ln).2.1)) 35 ((V ln).2.2.1)) 36 ((V ln).2.2.2.1)) 37 ((V ln).2.2.2.2)) (L 0) (uF (uF (uF (uF (uF (uF (uF (uF (uF (uF (uF (uF F 19 (cpI (F 17) n (F 19))) 20 (cpI (szI (F 2) (F 17) (F 18)) n (F 20))) 21 (cpI (F 18) n (F 21))) 38 (cpI (fun j => (V (j + 1)).1) ln (F 38))) 39 (cpI (fun j => F 26 (P (j + 1))) ln (F 39))) 40 (cpI (fun j => F 25 (P (j + 1))) ln (F 40))) 41 (cpI (fun j => nI (P (j + 1))) ln (F 41))) 42 (cpI (fun j => (V (j + 1)).2.1) ln (F 42))) 43 (cpI (fun j => F 3 0 - (V (j + 1)).2.1) ln (F 43))) 44 (cpI (fun j => (V (j + 1)).2.2.2.2) ln (F 44))) 45 (cpI (fun j => (V (j + 1)).2.2.1) ln (F 45))) 46 (cpI (fun j => (V (j + 1)).2.2.2.1) ln (F 46))) L := by
  obtain ⟨M1, e1, k1⟩ := p_jot G M A s c F L nb n ln eN gN P V h hL h28 h22 hP hn0 hV
  refine ⟨M1, ?_, k1⟩
  refine EvF.gop 46 (go_aload_n d_Mod_paragraph_45 rfl 0 rfl) rfl ?_
  refine EvF.gop 49 (go_get f_Mod_74 d_Mod_paragraph_46 (h.1) rfl) rfl ?_
  refine EvF.gop 50 (go_iconst (v := 0) d_Mod_paragraph_49 (by decide)) rfl ?_
  refine EvF.gop 51 (go_lald (j := 0) d_Mod_paragraph_50 (h.2.2.2) (rfl) (by decide) (by decide)) rfl ?_
  refine EvF.gop 52 (go_lconst (v := 0) d_Mod_paragraph_51 (by decide)) rfl ?_
  refine EvF.gop 53 (go_lcmp d_Mod_paragraph_52) rfl ?_
  refine EvF.gop 59 (go_if_ge_t 59 d_Mod_paragraph_53 (by decide) (Int32.not_lt.mp hx)) rfl ?_
  refine EvF.gop 60 (go_aload_n d_Mod_paragraph_59 rfl 0 rfl) rfl ?_
  refine EvF.gop 63 (go_callV [] [] c0_Mod_jot im_Mod_jot se_Mod_jot lk_Mod_233 d_Mod_paragraph_60 rfl rfl (h.1) (e1) (by decide) rfl rfl (Nat.le_of_ble_eq_true rfl) rfl) rfl ?_
  refine EvF.gop 64 (go_aload_n d_Mod_paragraph_63 rfl 0 rfl) rfl ?_
  refine EvF.gop 67 (go_get f_Mod_199 d_Mod_paragraph_64 (k1.1.1) rfl) rfl ?_
  exact EvF.ri d_Mod_paragraph_67 rfl (rfl) (rfl)
