theorem law_new (G : gG) (M : gM) (p : Nat) (hb : M.2.1 = p) : ∃ M2 : gM, Go G m_Law_law 7 (0, [(0, .ref G.2.2.2.1)], [], M) (18, [(0, .ref G.2.2.2.1), (1, .ref p), (2, .ref (p + 122)), (3, .int (nI 0))], [], M2) ∧ Sim G M2 p ∧ M2.2 = (p + 156, M.2.2 + 5375) := by
  have c0 : gRd (gWr (gXt M 1 8) p (.inr (10, [.null, .null, .null, .null, .null, .null, .null, .null]))) p = some (.inr (10, [.null, .null, .null, .null, .null, .null, .null, .null])) := gRd_s _ _ _
  obtain ⟨M1, e1, hx, hty, hw, hq, he, hm, hh, hc, hs, ht, hs0, ht0, v1, f1⟩ := c_PS G (gWr (gXt M 1 8) p (.inr (10, [.null, .null, .null, .null, .null, .null, .null, .null]))) p c0 (show M.2.1 + 1 = p + 1 by rw [hb])
  have b1 : M1.2.1 = p + 122 := by rw [v1]
  obtain ⟨M2, e2, hM, v2, f2⟩ := c_Mod G (gWr (gXt M1 1 52) (p + 122) (.inr (11, oMb (p + 122) 0))) (p + 122) (gRd_s _ _ _) (show M1.2.1 + 1 = p + 122 + 1 by rw [b1])
  have k : ∀ q, p ≤ q ∧ q < p + 122 → gRd M2 q = gRd M1 q := fun q hq => (f2 q hq.2).trans (gRd_n _ _ (by omega))
  refine ⟨M2, ?_, Sim.mk (lb := p + 90) (db := p + 106) (l9 := 0) (nb := 0) (ClsAt.fr ⟨hx, Or.inl ⟨rfl, rfl⟩, hty, hw, hq, he, hm, hh, hc, hs, ht, hs0, ht0⟩ k) (MS.rf hM) ?_, ?_⟩
  · refine Go.trp 3 (go_new (ci := 10) (fs := [.null, .null, .null, .null, .null, .null, .null, .null]) rfl l_PS t_PS t_PS_ok cl_Law_7 ins_PS ini_PS (fun j hj => match j, hj with | 0, _ => rfl | 1, _ => rfl | 2, _ => rfl | 3, _ => rfl | 4, _ => rfl | 5, _ => rfl | 6, _ => rfl | 7, _ => rfl) d_Law_law_0) rfl ?_
    refine (go_al (a := p) (M' := (gWr (gXt M 1 8) p (.inr (10, [.null, .null, .null, .null, .null, .null, .null, .null])))) hb (gNw_at hb)).tr ?_
    refine Go.trp 4 (go_dup d_Law_law_3 rfl) rfl ?_
    refine Go.trp 7 (go_callI [] c0_PS_init rfl rfl im_PS_init lk_Law_9 d_Law_law_4 e1 (by decide) rfl rfl (Nat.le_of_ble_eq_true rfl)) rfl ?_
    refine Go.trp 8 (go_astore_n [(1, .ref p), (0, .ref G.2.2.2.1)] d_Law_law_7 rfl (by decide) rfl) rfl ?_
    refine Go.trp 11 (go_new (ci := 11) (fs := oMb (p + 122) 0) rfl l_Mod t_Mod t_Mod_ok cl_Law_10 ins_Mod ini_Mod (fun j hj => match j, hj with | 0, _ => rfl | 1, _ => rfl | 2, _ => rfl | 3, _ => rfl | 4, _ => rfl | 5, _ => rfl | 6, _ => rfl | 7, _ => rfl | 8, _ => rfl | 9, _ => rfl | 10, _ => rfl | 11, _ => rfl | 12, _ => rfl | 13, _ => rfl | 14, _ => rfl | 15, _ => rfl | 16, _ => rfl | 17, _ => rfl | 18, _ => rfl | 19, _ => rfl | 20, _ => rfl | 21, _ => rfl | 22, _ => rfl | 23, _ => rfl | 24, _ => rfl | 25, _ => rfl | 26, _ => rfl | 27, _ => rfl | 28, _ => rfl | 29, _ => rfl | 30, _ => rfl | 31, _ => rfl | 32, _ => rfl | 33, _ => rfl | 34, _ => rfl | 35, _ => rfl | 36, _ => rfl | 37, _ => rfl | 38, _ => rfl | 39, _ => rfl | 40, _ => rfl | 41, _ => rfl | 42, _ => rfl | 43, _ => rfl | 44, _ => rfl | 45, _ => rfl | 46, _ => rfl | 47, _ => rfl | 48, _ => rfl | 49, _ => rfl | 50, _ => rfl | 51, _ => rfl | n + 52, h => absurd h (by omega)) d_Law_law_8) rfl ?_
    refine (go_al (a := p + 122) (M' := (gWr (gXt M1 1 52) (p + 122) (.inr (11, oMb (p + 122) 0)))) b1 (gNw_at b1)).tr ?_
    refine Go.trp 12 (go_dup d_Law_law_11 rfl) rfl ?_
    refine Go.trp 15 (go_callI [] c0_Mod_init rfl rfl im_Mod_init lk_Law_12 d_Law_law_12 e2 (by decide) rfl rfl (Nat.le_of_ble_eq_true rfl)) rfl ?_
    refine Go.trp 16 (go_astore_n [(2, .ref (p + 122)), (1, .ref p), (0, .ref G.2.2.2.1)] d_Law_law_15 rfl (by decide) rfl) rfl ?_
    refine Go.trp 17 (go_iconst (v := nI 0) d_Law_law_16 rfl) rfl ?_
    refine Go.trp 18 (go_istore_n [(3, .int (nI 0)), (2, .ref (p + 122)), (1, .ref p), (0, .ref G.2.2.2.1)] d_Law_law_17 rfl (by decide) rfl) rfl ?_
    exact go_pick [3, 2, 1, 0] _ rfl
  · refine ⟨⟨by omega, rfl, fun i hi => absurd hi (by omega)⟩, ⟨by omega, 0, by omega, rfl⟩, fun x hx => ?_, ⟨60, 200, 10, 50, 0, ⟨rfl, rfl, rfl, rfl, rfl, by omega, by omega, by omega, by omega, by omega⟩, ⟨rfl, rfl, rfl, rfl, rfl, by omega, by omega, by omega, by omega, by omega⟩⟩, ⟨fun m hm4 hmd => absurd hmd Bool.false_ne_true, fun m hm4 => ⟨fun q => absurd q Bool.false_ne_true, fun _ => ?_⟩⟩, ⟨by omega, rfl, fun i hi => absurd hi (by omega), by omega, fun i hi => absurd hi (by omega)⟩, ⟨by omega, rfl, rfl, rfl, by omega, rfl, rfl, rfl, fun i hi => absurd hi (by omega)⟩⟩
    · have l := wIx_l2 hx
      have a1 : cpI (fun _ => 5) 128 (fun _ => 0) x.toNatClampNeg = 5 := if_pos l.2.1
      have a2 : cpI (fun _ => 5) 27 (fun _ => 0) (wIx x).toNatClampNeg = 5 := if_pos l.1
      show cpI (fun _ => 5) 128 (fun _ => 0) x.toNatClampNeg = cpI (fun _ => 5) 27 (fun _ => 0) (wIx x).toNatClampNeg ∧ 1 ≤ cpI (fun _ => 5) 128 (fun _ => 0) x.toNatClampNeg ∧ cpI (fun _ => 5) 128 (fun _ => 0) x.toNatClampNeg ≤ 20
      rw [a1, a2]; exact ⟨rfl, by decide, by decide⟩
    · show ¬ 0 ≤ cpI (fun _ => -1) 4 (fun _ => 0) m
      have a3 : cpI (fun _ => -1) 4 (fun _ => 0) m = -1 := if_pos hm4
      rw [a3]; decide
  · rw [v2]
    show (p + 122 + 34, M1.2.2 + 52 + 2243) = _
    rw [v1]
    show (p + 156, M.2.2 + 8 + 3072 + 52 + 2243) = _
    rw [show M.2.2 + 8 + 3072 + 52 + 2243 = M.2.2 + 5375 from by omega]
theorem law_type {G : gG} {M : gM} {p i : Nat} (hS : Sim G M p) (hi : i + 3 ≤ G.2.2.2.2.1) (hL : G.2.2.2.2.1 < 2 ^ 31) : ∃ M2 : gM, Go G m_Law_law 7 (96, [(0, .ref G.2.2.2.1), (1, .ref p), (2, .ref (p + 122)), (3, .int (nI i))], [], M) (383, [(0, .ref G.2.2.2.1), (1, .ref p), (2, .ref (p + 122)), (3, .int (nI i))], [], M2) ∧ Sim G M2 p ∧ M2.2 = M.2 := by
  obtain ⟨r, M1, M2, e1, ⟨fs, h2⟩, e2, s2, v2⟩ := o_type hS (G.2.2.2.2.2.1 (i + 1))
  obtain ⟨ff, h1⟩ : ∃ ff, gRd M p = some (.inr (10, ff)) := hS.elim (fun _ _ _ _ _ _ _ _ _ _ _ _ _ _ _ _ _ _ _ _ _ _ _ _ _ _ _ _ _ _ _ _ _ _ _ _ _ _ _ _ _ _ _ _ _ _ _ _ _ _ _ _ _ _ _ _ _ _ _ s c F L hC hM hR => ⟨_, hC.1⟩)
  refine ⟨M2, ?_, s2, v2⟩
  refine Go.trp 97 (go_aload_n d_Law_law_96 rfl 1 rfl) rfl ?_
  refine Go.trp 98 (go_aload_n d_Law_law_97 rfl 0 rfl) rfl ?_
  refine Go.trp 99 (go_iload_n d_Law_law_98 rfl 3 rfl) rfl ?_
  refine Go.trp 100 (go_iconst (v := nI 1) d_Law_law_99 rfl) rfl ?_
  refine Go.trp 101 (go_iadd d_Law_law_100) rfl ?_
  refine Go.trp 102 (go_sld (i + 1) (by omega) hL (nI_add i 1) d_Law_law_101) rfl ?_
  refine Go.trp 105 (go_callV [.int (G.2.2.2.2.2.1 (i + 1))] [.int r] c0_PS_type im_PS_type se_PS_type lk_Law_13 d_Law_law_102 rfl rfl h1 e1 (by decide) rfl rfl (Nat.le_of_ble_eq_true rfl) rfl) rfl ?_
  refine Go.trp 106 (go_aload_n d_Law_law_105 rfl 2 rfl) rfl ?_
  refine Go.trp 107 (go_aload_n d_Law_law_106 rfl 0 rfl) rfl ?_
  refine Go.trp 108 (go_iload_n d_Law_law_107 rfl 3 rfl) rfl ?_
  refine Go.trp 109 (go_iconst (v := nI 1) d_Law_law_108 rfl) rfl ?_
  refine Go.trp 110 (go_iadd d_Law_law_109) rfl ?_
  refine Go.trp 111 (go_sld (i + 1) (by omega) hL (nI_add i 1) d_Law_law_110) rfl ?_
  refine Go.trp 114 (go_callV [.int (G.2.2.2.2.2.1 (i + 1))] [.int r, .int r] c0_Mod_type im_Mod_type se_Mod_type lk_Law_17 d_Law_law_111 rfl rfl h2 e2 (by decide) rfl rfl (Nat.le_of_ble_eq_true rfl) rfl) rfl ?_
  exact go_icmp_eq_t 383 d_Law_law_114 (by decide) rfl
theorem law_wipe {G : gG} {M : gM} {p i : Nat} (hS : Sim G M p) (hi : i + 3 ≤ G.2.2.2.2.1) (hL : G.2.2.2.2.1 < 2 ^ 31) : ∃ M2 : gM, Go G m_Law_law 7 (119, [(0, .ref G.2.2.2.1), (1, .ref p), (2, .ref (p + 122)), (3, .int (nI i))], [], M) (383, [(0, .ref G.2.2.2.1), (1, .ref p), (2, .ref (p + 122)), (3, .int (nI i))], [], M2) ∧ Sim G M2 p ∧ M2.2 = M.2 := by
  obtain ⟨r, M1, M2, e1, ⟨fs, h2⟩, e2, s2, v2⟩ := o_wipe hS 
  obtain ⟨ff, h1⟩ : ∃ ff, gRd M p = some (.inr (10, ff)) := hS.elim (fun _ _ _ _ _ _ _ _ _ _ _ _ _ _ _ _ _ _ _ _ _ _ _ _ _ _ _ _ _ _ _ _ _ _ _ _ _ _ _ _ _ _ _ _ _ _ _ _ _ _ _ _ _ _ _ _ _ _ _ s c F L hC hM hR => ⟨_, hC.1⟩)
  refine ⟨M2, ?_, s2, v2⟩
  refine Go.trp 120 (go_aload_n d_Law_law_119 rfl 1 rfl) rfl ?_
  refine Go.trp 123 (go_callV [] [.int r] c0_PS_wipe im_PS_wipe se_PS_wipe lk_Law_18 d_Law_law_120 rfl rfl h1 e1 (by decide) rfl rfl (Nat.le_of_ble_eq_true rfl) rfl) rfl ?_
  refine Go.trp 124 (go_aload_n d_Law_law_123 rfl 2 rfl) rfl ?_
  refine Go.trp 127 (go_callV [] [.int r, .int r] c0_Mod_wipe im_Mod_wipe se_Mod_wipe lk_Law_22 d_Law_law_124 rfl rfl h2 e2 (by decide) rfl rfl (Nat.le_of_ble_eq_true rfl) rfl) rfl ?_
  exact go_icmp_eq_t 383 d_Law_law_127 (by decide) rfl
theorem law_width {G : gG} {M : gM} {p i : Nat} (hS : Sim G M p) (hi : i + 3 ≤ G.2.2.2.2.1) (hL : G.2.2.2.2.1 < 2 ^ 31) : ∃ M2 : gM, Go G m_Law_law 7 (132, [(0, .ref G.2.2.2.1), (1, .ref p), (2, .ref (p + 122)), (3, .int (nI i))], [], M) (383, [(0, .ref G.2.2.2.1), (1, .ref p), (2, .ref (p + 122)), (3, .int (nI i))], [], M2) ∧ Sim G M2 p ∧ M2.2 = M.2 := by
  obtain ⟨r, M1, M2, e1, ⟨fs, h2⟩, e2, s2, v2⟩ := o_width hS (G.2.2.2.2.2.1 (i + 1)) (G.2.2.2.2.2.1 (i + 2))
  obtain ⟨ff, h1⟩ : ∃ ff, gRd M p = some (.inr (10, ff)) := hS.elim (fun _ _ _ _ _ _ _ _ _ _ _ _ _ _ _ _ _ _ _ _ _ _ _ _ _ _ _ _ _ _ _ _ _ _ _ _ _ _ _ _ _ _ _ _ _ _ _ _ _ _ _ _ _ _ _ _ _ _ _ s c F L hC hM hR => ⟨_, hC.1⟩)
  refine ⟨M2, ?_, s2, v2⟩
  refine Go.trp 133 (go_aload_n d_Law_law_132 rfl 1 rfl) rfl ?_
  refine Go.trp 134 (go_aload_n d_Law_law_133 rfl 0 rfl) rfl ?_
  refine Go.trp 135 (go_iload_n d_Law_law_134 rfl 3 rfl) rfl ?_
  refine Go.trp 136 (go_iconst (v := nI 1) d_Law_law_135 rfl) rfl ?_
  refine Go.trp 137 (go_iadd d_Law_law_136) rfl ?_
  refine Go.trp 138 (go_sld (i + 1) (by omega) hL (nI_add i 1) d_Law_law_137) rfl ?_
  refine Go.trp 139 (go_aload_n d_Law_law_138 rfl 0 rfl) rfl ?_
  refine Go.trp 140 (go_iload_n d_Law_law_139 rfl 3 rfl) rfl ?_
  refine Go.trp 141 (go_iconst (v := nI 2) d_Law_law_140 rfl) rfl ?_
  refine Go.trp 142 (go_iadd d_Law_law_141) rfl ?_
  refine Go.trp 143 (go_sld (i + 2) (by omega) hL (nI_add i 2) d_Law_law_142) rfl ?_
  refine Go.trp 146 (go_callV [.int (G.2.2.2.2.2.1 (i + 1)), .int (G.2.2.2.2.2.1 (i + 2))] [.int r] c0_PS_width im_PS_width se_PS_width lk_Law_23 d_Law_law_143 rfl rfl h1 e1 (by decide) rfl rfl (Nat.le_of_ble_eq_true rfl) rfl) rfl ?_
  refine Go.trp 147 (go_aload_n d_Law_law_146 rfl 2 rfl) rfl ?_
  refine Go.trp 148 (go_aload_n d_Law_law_147 rfl 0 rfl) rfl ?_
  refine Go.trp 149 (go_iload_n d_Law_law_148 rfl 3 rfl) rfl ?_
  refine Go.trp 150 (go_iconst (v := nI 1) d_Law_law_149 rfl) rfl ?_
  refine Go.trp 151 (go_iadd d_Law_law_150) rfl ?_
  refine Go.trp 152 (go_sld (i + 1) (by omega) hL (nI_add i 1) d_Law_law_151) rfl ?_
  refine Go.trp 153 (go_aload_n d_Law_law_152 rfl 0 rfl) rfl ?_
  refine Go.trp 154 (go_iload_n d_Law_law_153 rfl 3 rfl) rfl ?_
  refine Go.trp 155 (go_iconst (v := nI 2) d_Law_law_154 rfl) rfl ?_
  refine Go.trp 156 (go_iadd d_Law_law_155) rfl ?_
  refine Go.trp 157 (go_sld (i + 2) (by omega) hL (nI_add i 2) d_Law_law_156) rfl ?_
  refine Go.trp 160 (go_callV [.int (G.2.2.2.2.2.1 (i + 1)), .int (G.2.2.2.2.2.1 (i + 2))] [.int r, .int r] c0_Mod_width im_Mod_width se_Mod_width lk_Law_27 d_Law_law_157 rfl rfl h2 e2 (by decide) rfl rfl (Nat.le_of_ble_eq_true rfl) rfl) rfl ?_
  exact go_icmp_eq_t 383 d_Law_law_160 (by decide) rfl
theorem law_parameter {G : gG} {M : gM} {p i : Nat} (hS : Sim G M p) (hi : i + 3 ≤ G.2.2.2.2.1) (hL : G.2.2.2.2.1 < 2 ^ 31) : ∃ M2 : gM, Go G m_Law_law 7 (165, [(0, .ref G.2.2.2.1), (1, .ref p), (2, .ref (p + 122)), (3, .int (nI i))], [], M) (383, [(0, .ref G.2.2.2.1), (1, .ref p), (2, .ref (p + 122)), (3, .int (nI i))], [], M2) ∧ Sim G M2 p ∧ M2.2 = M.2 := by
  obtain ⟨r, M1, M2, e1, ⟨fs, h2⟩, e2, s2, v2⟩ := o_parameter hS (G.2.2.2.2.2.1 (i + 1)) (G.2.2.2.2.2.1 (i + 2))
  obtain ⟨ff, h1⟩ : ∃ ff, gRd M p = some (.inr (10, ff)) := hS.elim (fun _ _ _ _ _ _ _ _ _ _ _ _ _ _ _ _ _ _ _ _ _ _ _ _ _ _ _ _ _ _ _ _ _ _ _ _ _ _ _ _ _ _ _ _ _ _ _ _ _ _ _ _ _ _ _ _ _ _ _ s c F L hC hM hR => ⟨_, hC.1⟩)
  refine ⟨M2, ?_, s2, v2⟩
  refine Go.trp 166 (go_aload_n d_Law_law_165 rfl 1 rfl) rfl ?_
  refine Go.trp 167 (go_aload_n d_Law_law_166 rfl 0 rfl) rfl ?_
  refine Go.trp 168 (go_iload_n d_Law_law_167 rfl 3 rfl) rfl ?_
  refine Go.trp 169 (go_iconst (v := nI 1) d_Law_law_168 rfl) rfl ?_
  refine Go.trp 170 (go_iadd d_Law_law_169) rfl ?_
  refine Go.trp 171 (go_sld (i + 1) (by omega) hL (nI_add i 1) d_Law_law_170) rfl ?_
  refine Go.trp 172 (go_aload_n d_Law_law_171 rfl 0 rfl) rfl ?_
  refine Go.trp 173 (go_iload_n d_Law_law_172 rfl 3 rfl) rfl ?_
  refine Go.trp 174 (go_iconst (v := nI 2) d_Law_law_173 rfl) rfl ?_
  refine Go.trp 175 (go_iadd d_Law_law_174) rfl ?_
  refine Go.trp 176 (go_sld (i + 2) (by omega) hL (nI_add i 2) d_Law_law_175) rfl ?_
  refine Go.trp 179 (go_callV [.int (G.2.2.2.2.2.1 (i + 1)), .int (G.2.2.2.2.2.1 (i + 2))] [.int r] c0_PS_parameter im_PS_parameter se_PS_parameter lk_Law_28 d_Law_law_176 rfl rfl h1 e1 (by decide) rfl rfl (Nat.le_of_ble_eq_true rfl) rfl) rfl ?_
  refine Go.trp 180 (go_aload_n d_Law_law_179 rfl 2 rfl) rfl ?_
  refine Go.trp 181 (go_aload_n d_Law_law_180 rfl 0 rfl) rfl ?_
  refine Go.trp 182 (go_iload_n d_Law_law_181 rfl 3 rfl) rfl ?_
  refine Go.trp 183 (go_iconst (v := nI 1) d_Law_law_182 rfl) rfl ?_
  refine Go.trp 184 (go_iadd d_Law_law_183) rfl ?_
  refine Go.trp 185 (go_sld (i + 1) (by omega) hL (nI_add i 1) d_Law_law_184) rfl ?_
  refine Go.trp 186 (go_aload_n d_Law_law_185 rfl 0 rfl) rfl ?_
  refine Go.trp 187 (go_iload_n d_Law_law_186 rfl 3 rfl) rfl ?_
  refine Go.trp 188 (go_iconst (v := nI 2) d_Law_law_187 rfl) rfl ?_
  refine Go.trp 189 (go_iadd d_Law_law_188) rfl ?_
  refine Go.trp 190 (go_sld (i + 2) (by omega) hL (nI_add i 2) d_Law_law_189) rfl ?_
  refine Go.trp 193 (go_callV [.int (G.2.2.2.2.2.1 (i + 1)), .int (G.2.2.2.2.2.1 (i + 2))] [.int r, .int r] c0_Mod_parameter im_Mod_parameter se_Mod_parameter lk_Law_31 d_Law_law_190 rfl rfl h2 e2 (by decide) rfl rfl (Nat.le_of_ble_eq_true rfl) rfl) rfl ?_
  exact go_icmp_eq_t 383 d_Law_law_193 (by decide) rfl
theorem law_define {G : gG} {M : gM} {p i : Nat} (hS : Sim G M p) (hi : i + 3 ≤ G.2.2.2.2.1) (hL : G.2.2.2.2.1 < 2 ^ 31) : ∃ M2 : gM, Go G m_Law_law 7 (198, [(0, .ref G.2.2.2.1), (1, .ref p), (2, .ref (p + 122)), (3, .int (nI i))], [], M) (383, [(0, .ref G.2.2.2.1), (1, .ref p), (2, .ref (p + 122)), (3, .int (nI i))], [], M2) ∧ Sim G M2 p ∧ M2.2 = M.2 := by
  obtain ⟨r, M1, M2, e1, ⟨fs, h2⟩, e2, s2, v2⟩ := o_define hS (G.2.2.2.2.2.1 (i + 1))
  obtain ⟨ff, h1⟩ : ∃ ff, gRd M p = some (.inr (10, ff)) := hS.elim (fun _ _ _ _ _ _ _ _ _ _ _ _ _ _ _ _ _ _ _ _ _ _ _ _ _ _ _ _ _ _ _ _ _ _ _ _ _ _ _ _ _ _ _ _ _ _ _ _ _ _ _ _ _ _ _ _ _ _ _ s c F L hC hM hR => ⟨_, hC.1⟩)
  refine ⟨M2, ?_, s2, v2⟩
  refine Go.trp 199 (go_aload_n d_Law_law_198 rfl 1 rfl) rfl ?_
  refine Go.trp 200 (go_aload_n d_Law_law_199 rfl 0 rfl) rfl ?_
  refine Go.trp 201 (go_iload_n d_Law_law_200 rfl 3 rfl) rfl ?_
  refine Go.trp 202 (go_iconst (v := nI 1) d_Law_law_201 rfl) rfl ?_
  refine Go.trp 203 (go_iadd d_Law_law_202) rfl ?_
  refine Go.trp 204 (go_sld (i + 1) (by omega) hL (nI_add i 1) d_Law_law_203) rfl ?_
  refine Go.trp 207 (go_callV [.int (G.2.2.2.2.2.1 (i + 1))] [.int r] c0_PS_define im_PS_define se_PS_define lk_Law_32 d_Law_law_204 rfl rfl h1 e1 (by decide) rfl rfl (Nat.le_of_ble_eq_true rfl) rfl) rfl ?_
  refine Go.trp 208 (go_aload_n d_Law_law_207 rfl 2 rfl) rfl ?_
  refine Go.trp 209 (go_aload_n d_Law_law_208 rfl 0 rfl) rfl ?_
  refine Go.trp 210 (go_iload_n d_Law_law_209 rfl 3 rfl) rfl ?_
  refine Go.trp 211 (go_iconst (v := nI 1) d_Law_law_210 rfl) rfl ?_
  refine Go.trp 212 (go_iadd d_Law_law_211) rfl ?_
  refine Go.trp 213 (go_sld (i + 1) (by omega) hL (nI_add i 1) d_Law_law_212) rfl ?_
  refine Go.trp 216 (go_callV [.int (G.2.2.2.2.2.1 (i + 1))] [.int r, .int r] c0_Mod_define im_Mod_define se_Mod_define lk_Law_35 d_Law_law_213 rfl rfl h2 e2 (by decide) rfl rfl (Nat.le_of_ble_eq_true rfl) rfl) rfl ?_
  exact go_icmp_eq_t 383 d_Law_law_216 (by decide) rfl
theorem law_pattern {G : gG} {M : gM} {p i : Nat} (hS : Sim G M p) (hi : i + 3 ≤ G.2.2.2.2.1) (hL : G.2.2.2.2.1 < 2 ^ 31) : ∃ M2 : gM, Go G m_Law_law 7 (221, [(0, .ref G.2.2.2.1), (1, .ref p), (2, .ref (p + 122)), (3, .int (nI i))], [], M) (383, [(0, .ref G.2.2.2.1), (1, .ref p), (2, .ref (p + 122)), (3, .int (nI i))], [], M2) ∧ Sim G M2 p ∧ M2.2 = M.2 := by
  obtain ⟨r, M1, M2, e1, ⟨fs, h2⟩, e2, s2, v2⟩ := o_pattern hS 
  obtain ⟨ff, h1⟩ : ∃ ff, gRd M p = some (.inr (10, ff)) := hS.elim (fun _ _ _ _ _ _ _ _ _ _ _ _ _ _ _ _ _ _ _ _ _ _ _ _ _ _ _ _ _ _ _ _ _ _ _ _ _ _ _ _ _ _ _ _ _ _ _ _ _ _ _ _ _ _ _ _ _ _ _ s c F L hC hM hR => ⟨_, hC.1⟩)
  refine ⟨M2, ?_, s2, v2⟩
  refine Go.trp 222 (go_aload_n d_Law_law_221 rfl 1 rfl) rfl ?_
  refine Go.trp 225 (go_callV [] [.int r] c0_PS_pattern im_PS_pattern se_PS_pattern lk_Law_36 d_Law_law_222 rfl rfl h1 e1 (by decide) rfl rfl (Nat.le_of_ble_eq_true rfl) rfl) rfl ?_
  refine Go.trp 226 (go_aload_n d_Law_law_225 rfl 2 rfl) rfl ?_
  refine Go.trp 229 (go_callV [] [.int r, .int r] c0_Mod_pattern im_Mod_pattern se_Mod_pattern lk_Law_39 d_Law_law_226 rfl rfl h2 e2 (by decide) rfl rfl (Nat.le_of_ble_eq_true rfl) rfl) rfl ?_
  exact go_icmp_eq_t 383 d_Law_law_229 (by decide) rfl
theorem law_paragraph {G : gG} {M : gM} {p i : Nat} (hS : Sim G M p) (hi : i + 3 ≤ G.2.2.2.2.1) (hL : G.2.2.2.2.1 < 2 ^ 31) : ∃ M2 : gM, Go G m_Law_law 7 (234, [(0, .ref G.2.2.2.1), (1, .ref p), (2, .ref (p + 122)), (3, .int (nI i))], [], M) (383, [(0, .ref G.2.2.2.1), (1, .ref p), (2, .ref (p + 122)), (3, .int (nI i))], [], M2) ∧ Sim G M2 p ∧ M2.2 = M.2 := by
  obtain ⟨r, M1, M2, e1, ⟨fs, h2⟩, e2, s2, v2⟩ := o_paragraph hS 
  obtain ⟨ff, h1⟩ : ∃ ff, gRd M p = some (.inr (10, ff)) := hS.elim (fun _ _ _ _ _ _ _ _ _ _ _ _ _ _ _ _ _ _ _ _ _ _ _ _ _ _ _ _ _ _ _ _ _ _ _ _ _ _ _ _ _ _ _ _ _ _ _ _ _ _ _ _ _ _ _ _ _ _ _ s c F L hC hM hR => ⟨_, hC.1⟩)
  refine ⟨M2, ?_, s2, v2⟩
  refine Go.trp 235 (go_aload_n d_Law_law_234 rfl 1 rfl) rfl ?_
  refine Go.trp 238 (go_callV [] [.int r] c0_PS_paragraph im_PS_paragraph se_PS_paragraph lk_Law_40 d_Law_law_235 rfl rfl h1 e1 (by decide) rfl rfl (Nat.le_of_ble_eq_true rfl) rfl) rfl ?_
  refine Go.trp 239 (go_aload_n d_Law_law_238 rfl 2 rfl) rfl ?_
  refine Go.trp 242 (go_callV [] [.int r, .int r] c0_Mod_paragraph im_Mod_paragraph se_Mod_paragraph lk_Law_43 d_Law_law_239 rfl rfl h2 e2 (by decide) rfl rfl (Nat.le_of_ble_eq_true rfl) rfl) rfl ?_
  exact go_icmp_eq_t 383 d_Law_law_242 (by decide) rfl
theorem law_cost {G : gG} {M : gM} {p i : Nat} (hS : Sim G M p) (hi : i + 3 ≤ G.2.2.2.2.1) (hL : G.2.2.2.2.1 < 2 ^ 31) : ∃ M2 : gM, Go G m_Law_law 7 (247, [(0, .ref G.2.2.2.1), (1, .ref p), (2, .ref (p + 122)), (3, .int (nI i))], [], M) (383, [(0, .ref G.2.2.2.1), (1, .ref p), (2, .ref (p + 122)), (3, .int (nI i))], [], M2) ∧ Sim G M2 p ∧ M2.2 = M.2 := by
  obtain ⟨r, e1, ⟨fs, h2⟩, e2⟩ := o_cost hS
  obtain ⟨ff, h1⟩ : ∃ ff, gRd M p = some (.inr (10, ff)) := hS.elim (fun _ _ _ _ _ _ _ _ _ _ _ _ _ _ _ _ _ _ _ _ _ _ _ _ _ _ _ _ _ _ _ _ _ _ _ _ _ _ _ _ _ _ _ _ _ _ _ _ _ _ _ _ _ _ _ _ _ _ _ s c F L hC hM hR => ⟨_, hC.1⟩)
  refine ⟨M, ?_, hS, rfl⟩
  refine Go.trp 248 (go_aload_n d_Law_law_247 rfl 1 rfl) rfl ?_
  refine Go.trp 251 (go_callV [] [.long r] c0_PS_cost im_PS_cost se_PS_cost lk_Law_44 d_Law_law_248 rfl rfl h1 e1 (by decide) rfl rfl (Nat.le_of_ble_eq_true rfl) rfl) rfl ?_
  refine Go.trp 252 (go_aload_n d_Law_law_251 rfl 2 rfl) rfl ?_
  refine Go.trp 255 (go_callV [] [.long r, .long r] c0_Mod_cost im_Mod_cost se_Mod_cost lk_Law_48 d_Law_law_252 rfl rfl h2 e2 (by decide) rfl rfl (Nat.le_of_ble_eq_true rfl) rfl) rfl ?_
  refine Go.trp 256 (go_lcmp d_Law_law_255) rfl ?_
  exact go_if_eq_t 383 d_Law_law_256 (by decide) ((lg_cmp_0 r r).mpr rfl)
theorem law_line {G : gG} {M : gM} {p i : Nat} (hS : Sim G M p) (hi : i + 3 ≤ G.2.2.2.2.1) (hL : G.2.2.2.2.1 < 2 ^ 31) : ∃ M2 : gM, Go G m_Law_law 7 (261, [(0, .ref G.2.2.2.1), (1, .ref p), (2, .ref (p + 122)), (3, .int (nI i))], [], M) (383, [(0, .ref G.2.2.2.1), (1, .ref p), (2, .ref (p + 122)), (3, .int (nI i))], [], M2) ∧ Sim G M2 p ∧ M2.2 = M.2 := by
  obtain ⟨r, M1, M2, e1, ⟨fs, h2⟩, e2, s2, v2⟩ := o_line hS (G.2.2.2.2.2.1 (i + 1)) (G.2.2.2.2.2.1 (i + 2))
  obtain ⟨ff, h1⟩ : ∃ ff, gRd M p = some (.inr (10, ff)) := hS.elim (fun _ _ _ _ _ _ _ _ _ _ _ _ _ _ _ _ _ _ _ _ _ _ _ _ _ _ _ _ _ _ _ _ _ _ _ _ _ _ _ _ _ _ _ _ _ _ _ _ _ _ _ _ _ _ _ _ _ _ _ s c F L hC hM hR => ⟨_, hC.1⟩)
  refine ⟨M2, ?_, s2, v2⟩
  refine Go.trp 262 (go_aload_n d_Law_law_261 rfl 1 rfl) rfl ?_
  refine Go.trp 263 (go_aload_n d_Law_law_262 rfl 0 rfl) rfl ?_
  refine Go.trp 264 (go_iload_n d_Law_law_263 rfl 3 rfl) rfl ?_
  refine Go.trp 265 (go_iconst (v := nI 1) d_Law_law_264 rfl) rfl ?_
  refine Go.trp 266 (go_iadd d_Law_law_265) rfl ?_
  refine Go.trp 267 (go_sld (i + 1) (by omega) hL (nI_add i 1) d_Law_law_266) rfl ?_
  refine Go.trp 268 (go_aload_n d_Law_law_267 rfl 0 rfl) rfl ?_
  refine Go.trp 269 (go_iload_n d_Law_law_268 rfl 3 rfl) rfl ?_
  refine Go.trp 270 (go_iconst (v := nI 2) d_Law_law_269 rfl) rfl ?_
  refine Go.trp 271 (go_iadd d_Law_law_270) rfl ?_
  refine Go.trp 272 (go_sld (i + 2) (by omega) hL (nI_add i 2) d_Law_law_271) rfl ?_
  refine Go.trp 275 (go_callV [.int (G.2.2.2.2.2.1 (i + 1)), .int (G.2.2.2.2.2.1 (i + 2))] [.int r] c0_PS_line im_PS_line se_PS_line lk_Law_49 d_Law_law_272 rfl rfl h1 e1 (by decide) rfl rfl (Nat.le_of_ble_eq_true rfl) rfl) rfl ?_
  refine Go.trp 276 (go_aload_n d_Law_law_275 rfl 2 rfl) rfl ?_
  refine Go.trp 277 (go_aload_n d_Law_law_276 rfl 0 rfl) rfl ?_
  refine Go.trp 278 (go_iload_n d_Law_law_277 rfl 3 rfl) rfl ?_
  refine Go.trp 279 (go_iconst (v := nI 1) d_Law_law_278 rfl) rfl ?_
  refine Go.trp 280 (go_iadd d_Law_law_279) rfl ?_
  refine Go.trp 281 (go_sld (i + 1) (by omega) hL (nI_add i 1) d_Law_law_280) rfl ?_
  refine Go.trp 282 (go_aload_n d_Law_law_281 rfl 0 rfl) rfl ?_
  refine Go.trp 283 (go_iload_n d_Law_law_282 rfl 3 rfl) rfl ?_
  refine Go.trp 284 (go_iconst (v := nI 2) d_Law_law_283 rfl) rfl ?_
  refine Go.trp 285 (go_iadd d_Law_law_284) rfl ?_
  refine Go.trp 286 (go_sld (i + 2) (by omega) hL (nI_add i 2) d_Law_law_285) rfl ?_
  refine Go.trp 289 (go_callV [.int (G.2.2.2.2.2.1 (i + 1)), .int (G.2.2.2.2.2.1 (i + 2))] [.int r, .int r] c0_Mod_line im_Mod_line se_Mod_line lk_Law_52 d_Law_law_286 rfl rfl h2 e2 (by decide) rfl rfl (Nat.le_of_ble_eq_true rfl) rfl) rfl ?_
  exact go_icmp_eq_t 383 d_Law_law_289 (by decide) rfl
theorem law_character {G : gG} {M : gM} {p i : Nat} (hS : Sim G M p) (hi : i + 3 ≤ G.2.2.2.2.1) (hL : G.2.2.2.2.1 < 2 ^ 31) : ∃ M2 : gM, Go G m_Law_law 7 (294, [(0, .ref G.2.2.2.1), (1, .ref p), (2, .ref (p + 122)), (3, .int (nI i))], [], M) (383, [(0, .ref G.2.2.2.1), (1, .ref p), (2, .ref (p + 122)), (3, .int (nI i))], [], M2) ∧ Sim G M2 p ∧ M2.2 = M.2 := by
  obtain ⟨r, M1, M2, e1, ⟨fs, h2⟩, e2, s2, v2⟩ := o_character hS (G.2.2.2.2.2.1 (i + 1)) (G.2.2.2.2.2.1 (i + 2))
  obtain ⟨ff, h1⟩ : ∃ ff, gRd M p = some (.inr (10, ff)) := hS.elim (fun _ _ _ _ _ _ _ _ _ _ _ _ _ _ _ _ _ _ _ _ _ _ _ _ _ _ _ _ _ _ _ _ _ _ _ _ _ _ _ _ _ _ _ _ _ _ _ _ _ _ _ _ _ _ _ _ _ _ _ s c F L hC hM hR => ⟨_, hC.1⟩)
  refine ⟨M2, ?_, s2, v2⟩
  refine Go.trp 295 (go_aload_n d_Law_law_294 rfl 1 rfl) rfl ?_
  refine Go.trp 296 (go_aload_n d_Law_law_295 rfl 0 rfl) rfl ?_
  refine Go.trp 297 (go_iload_n d_Law_law_296 rfl 3 rfl) rfl ?_
  refine Go.trp 298 (go_iconst (v := nI 1) d_Law_law_297 rfl) rfl ?_
  refine Go.trp 299 (go_iadd d_Law_law_298) rfl ?_
  refine Go.trp 300 (go_sld (i + 1) (by omega) hL (nI_add i 1) d_Law_law_299) rfl ?_
  refine Go.trp 301 (go_aload_n d_Law_law_300 rfl 0 rfl) rfl ?_
  refine Go.trp 302 (go_iload_n d_Law_law_301 rfl 3 rfl) rfl ?_
  refine Go.trp 303 (go_iconst (v := nI 2) d_Law_law_302 rfl) rfl ?_
  refine Go.trp 304 (go_iadd d_Law_law_303) rfl ?_
  refine Go.trp 305 (go_sld (i + 2) (by omega) hL (nI_add i 2) d_Law_law_304) rfl ?_
  refine Go.trp 308 (go_callV [.int (G.2.2.2.2.2.1 (i + 1)), .int (G.2.2.2.2.2.1 (i + 2))] [.int r] c0_PS_character im_PS_character se_PS_character lk_Law_53 d_Law_law_305 rfl rfl h1 e1 (by decide) rfl rfl (Nat.le_of_ble_eq_true rfl) rfl) rfl ?_
  refine Go.trp 309 (go_aload_n d_Law_law_308 rfl 2 rfl) rfl ?_
  refine Go.trp 310 (go_aload_n d_Law_law_309 rfl 0 rfl) rfl ?_
  refine Go.trp 311 (go_iload_n d_Law_law_310 rfl 3 rfl) rfl ?_
  refine Go.trp 312 (go_iconst (v := nI 1) d_Law_law_311 rfl) rfl ?_
  refine Go.trp 313 (go_iadd d_Law_law_312) rfl ?_
  refine Go.trp 314 (go_sld (i + 1) (by omega) hL (nI_add i 1) d_Law_law_313) rfl ?_
  refine Go.trp 315 (go_aload_n d_Law_law_314 rfl 0 rfl) rfl ?_
  refine Go.trp 316 (go_iload_n d_Law_law_315 rfl 3 rfl) rfl ?_
  refine Go.trp 317 (go_iconst (v := nI 2) d_Law_law_316 rfl) rfl ?_
  refine Go.trp 318 (go_iadd d_Law_law_317) rfl ?_
  refine Go.trp 319 (go_sld (i + 2) (by omega) hL (nI_add i 2) d_Law_law_318) rfl ?_
  refine Go.trp 322 (go_callV [.int (G.2.2.2.2.2.1 (i + 1)), .int (G.2.2.2.2.2.1 (i + 2))] [.int r, .int r] c0_Mod_character im_Mod_character se_Mod_character lk_Law_56 d_Law_law_319 rfl rfl h2 e2 (by decide) rfl rfl (Nat.le_of_ble_eq_true rfl) rfl) rfl ?_
  exact go_icmp_eq_t 383 d_Law_law_322 (by decide) rfl
theorem law_place {G : gG} {M : gM} {p i : Nat} (hS : Sim G M p) (hi : i + 3 ≤ G.2.2.2.2.1) (hL : G.2.2.2.2.1 < 2 ^ 31) : ∃ M2 : gM, Go G m_Law_law 7 (327, [(0, .ref G.2.2.2.1), (1, .ref p), (2, .ref (p + 122)), (3, .int (nI i))], [], M) (383, [(0, .ref G.2.2.2.1), (1, .ref p), (2, .ref (p + 122)), (3, .int (nI i))], [], M2) ∧ Sim G M2 p ∧ M2.2 = M.2 := by
  obtain ⟨r, M1, M2, e1, ⟨fs, h2⟩, e2, s2, v2⟩ := o_place hS (G.2.2.2.2.2.1 (i + 1)) (G.2.2.2.2.2.1 (i + 2))
  obtain ⟨ff, h1⟩ : ∃ ff, gRd M p = some (.inr (10, ff)) := hS.elim (fun _ _ _ _ _ _ _ _ _ _ _ _ _ _ _ _ _ _ _ _ _ _ _ _ _ _ _ _ _ _ _ _ _ _ _ _ _ _ _ _ _ _ _ _ _ _ _ _ _ _ _ _ _ _ _ _ _ _ _ s c F L hC hM hR => ⟨_, hC.1⟩)
  refine ⟨M2, ?_, s2, v2⟩
  refine Go.trp 328 (go_aload_n d_Law_law_327 rfl 1 rfl) rfl ?_
  refine Go.trp 329 (go_aload_n d_Law_law_328 rfl 0 rfl) rfl ?_
  refine Go.trp 330 (go_iload_n d_Law_law_329 rfl 3 rfl) rfl ?_
  refine Go.trp 331 (go_iconst (v := nI 1) d_Law_law_330 rfl) rfl ?_
  refine Go.trp 332 (go_iadd d_Law_law_331) rfl ?_
  refine Go.trp 333 (go_sld (i + 1) (by omega) hL (nI_add i 1) d_Law_law_332) rfl ?_
  refine Go.trp 334 (go_aload_n d_Law_law_333 rfl 0 rfl) rfl ?_
  refine Go.trp 335 (go_iload_n d_Law_law_334 rfl 3 rfl) rfl ?_
  refine Go.trp 336 (go_iconst (v := nI 2) d_Law_law_335 rfl) rfl ?_
  refine Go.trp 337 (go_iadd d_Law_law_336) rfl ?_
  refine Go.trp 338 (go_sld (i + 2) (by omega) hL (nI_add i 2) d_Law_law_337) rfl ?_
  refine Go.trp 341 (go_callV [.int (G.2.2.2.2.2.1 (i + 1)), .int (G.2.2.2.2.2.1 (i + 2))] [.int r] c0_PS_place im_PS_place se_PS_place lk_Law_57 d_Law_law_338 rfl rfl h1 e1 (by decide) rfl rfl (Nat.le_of_ble_eq_true rfl) rfl) rfl ?_
  refine Go.trp 342 (go_aload_n d_Law_law_341 rfl 2 rfl) rfl ?_
  refine Go.trp 343 (go_aload_n d_Law_law_342 rfl 0 rfl) rfl ?_
  refine Go.trp 344 (go_iload_n d_Law_law_343 rfl 3 rfl) rfl ?_
  refine Go.trp 345 (go_iconst (v := nI 1) d_Law_law_344 rfl) rfl ?_
  refine Go.trp 346 (go_iadd d_Law_law_345) rfl ?_
  refine Go.trp 347 (go_sld (i + 1) (by omega) hL (nI_add i 1) d_Law_law_346) rfl ?_
  refine Go.trp 348 (go_aload_n d_Law_law_347 rfl 0 rfl) rfl ?_
  refine Go.trp 349 (go_iload_n d_Law_law_348 rfl 3 rfl) rfl ?_
  refine Go.trp 350 (go_iconst (v := nI 2) d_Law_law_349 rfl) rfl ?_
  refine Go.trp 351 (go_iadd d_Law_law_350) rfl ?_
  refine Go.trp 352 (go_sld (i + 2) (by omega) hL (nI_add i 2) d_Law_law_351) rfl ?_
  refine Go.trp 355 (go_callV [.int (G.2.2.2.2.2.1 (i + 1)), .int (G.2.2.2.2.2.1 (i + 2))] [.int r, .int r] c0_Mod_place im_Mod_place se_Mod_place lk_Law_60 d_Law_law_352 rfl rfl h2 e2 (by decide) rfl rfl (Nat.le_of_ble_eq_true rfl) rfl) rfl ?_
  exact go_icmp_eq_t 383 d_Law_law_355 (by decide) rfl
theorem law_count {G : gG} {M : gM} {p i : Nat} (hS : Sim G M p) (hi : i + 3 ≤ G.2.2.2.2.1) (hL : G.2.2.2.2.1 < 2 ^ 31) : ∃ M2 : gM, Go G m_Law_law 7 (360, [(0, .ref G.2.2.2.1), (1, .ref p), (2, .ref (p + 122)), (3, .int (nI i))], [], M) (383, [(0, .ref G.2.2.2.1), (1, .ref p), (2, .ref (p + 122)), (3, .int (nI i))], [], M2) ∧ Sim G M2 p ∧ M2.2 = M.2 := by
  obtain ⟨r, M1, M2, e1, ⟨fs, h2⟩, e2, s2, v2⟩ := o_count hS (G.2.2.2.2.2.1 (i + 1))
  obtain ⟨ff, h1⟩ : ∃ ff, gRd M p = some (.inr (10, ff)) := hS.elim (fun _ _ _ _ _ _ _ _ _ _ _ _ _ _ _ _ _ _ _ _ _ _ _ _ _ _ _ _ _ _ _ _ _ _ _ _ _ _ _ _ _ _ _ _ _ _ _ _ _ _ _ _ _ _ _ _ _ _ _ s c F L hC hM hR => ⟨_, hC.1⟩)
  refine ⟨M2, ?_, s2, v2⟩
  refine Go.trp 361 (go_aload_n d_Law_law_360 rfl 1 rfl) rfl ?_
  refine Go.trp 362 (go_aload_n d_Law_law_361 rfl 0 rfl) rfl ?_
  refine Go.trp 363 (go_iload_n d_Law_law_362 rfl 3 rfl) rfl ?_
  refine Go.trp 364 (go_iconst (v := nI 1) d_Law_law_363 rfl) rfl ?_
  refine Go.trp 365 (go_iadd d_Law_law_364) rfl ?_
  refine Go.trp 366 (go_sld (i + 1) (by omega) hL (nI_add i 1) d_Law_law_365) rfl ?_
  refine Go.trp 369 (go_callV [.int (G.2.2.2.2.2.1 (i + 1))] [.int r] c0_PS_count im_PS_count se_PS_count lk_Law_61 d_Law_law_366 rfl rfl h1 e1 (by decide) rfl rfl (Nat.le_of_ble_eq_true rfl) rfl) rfl ?_
  refine Go.trp 370 (go_aload_n d_Law_law_369 rfl 2 rfl) rfl ?_
  refine Go.trp 371 (go_aload_n d_Law_law_370 rfl 0 rfl) rfl ?_
  refine Go.trp 372 (go_iload_n d_Law_law_371 rfl 3 rfl) rfl ?_
  refine Go.trp 373 (go_iconst (v := nI 1) d_Law_law_372 rfl) rfl ?_
  refine Go.trp 374 (go_iadd d_Law_law_373) rfl ?_
  refine Go.trp 375 (go_sld (i + 1) (by omega) hL (nI_add i 1) d_Law_law_374) rfl ?_
  refine Go.trp 378 (go_callV [.int (G.2.2.2.2.2.1 (i + 1))] [.int r, .int r] c0_Mod_count im_Mod_count se_Mod_count lk_Law_64 d_Law_law_375 rfl rfl h2 e2 (by decide) rfl rfl (Nat.le_of_ble_eq_true rfl) rfl) rfl ?_
  exact go_icmp_eq_t 383 d_Law_law_378 (by decide) rfl
theorem law_step {G : gG} {M : gM} {p i : Nat} (hS : Sim G M p) (hi : i + 3 ≤ G.2.2.2.2.1) (hL : G.2.2.2.2.1 < 2 ^ 31) : ∃ M2 : gM, Go G m_Law_law 7 (26, [(0, .ref G.2.2.2.1), (1, .ref p), (2, .ref (p + 122)), (3, .int (nI i))], [], M) (383, [(0, .ref G.2.2.2.1), (1, .ref p), (2, .ref (p + 122)), (3, .int (nI i))], [], M2) ∧ Sim G M2 p ∧ M2.2 = M.2 := by
  obtain ⟨j, hj, ej⟩ := pk_andE (G.2.2.2.2.2.1 i) (m := 15) 4 rfl
  have g0 : Go G m_Law_law 7 (26, [(0, .ref G.2.2.2.1), (1, .ref p), (2, .ref (p + 122)), (3, .int (nI i))], [], M) (32, [(0, .ref G.2.2.2.1), (1, .ref p), (2, .ref (p + 122)), (3, .int (nI i))], [.int (nI j)], M) := by
    refine Go.trp 27 (go_aload_n d_Law_law_26 rfl 0 rfl) rfl ?_
    refine Go.trp 28 (go_iload_n d_Law_law_27 rfl 3 rfl) rfl ?_
    refine Go.trp 29 (go_sld i (by omega) hL rfl d_Law_law_28) rfl ?_
    refine Go.trp 31 (go_bipush (v := 15) d_Law_law_29 (by decide)) rfl ?_
    refine Go.trp 32 (go_iand d_Law_law_31) rfl ?_
    exact go_v ej
  have hj16 : j < 16 := hj
  by_cases h12 : j < 12
  · have tn : (nI j).toInt = (j : Int) := nI_toInt (by omega)
    have : j = 0 ∨ j = 1 ∨ j = 2 ∨ j = 3 ∨ j = 4 ∨ j = 5 ∨ j = 6 ∨ j = 7 ∨ j = 8 ∨ j = 9 ∨ j = 10 ∨ j = 11 := by omega
    rcases this with rfl | rfl | rfl | rfl | rfl | rfl | rfl | rfl | rfl | rfl | rfl | rfl
    · obtain ⟨M2, g2, s2, v2⟩ := law_type hS hi hL
      exact ⟨M2, (g0.tr (go_tableIn 96 d_Law_law_32 (by decide) (by decide) rfl (by decide))).tr g2, s2, v2⟩
    · obtain ⟨M2, g2, s2, v2⟩ := law_wipe hS hi hL
      exact ⟨M2, (g0.tr (go_tableIn 119 d_Law_law_32 (by decide) (by decide) rfl (by decide))).tr g2, s2, v2⟩
    · obtain ⟨M2, g2, s2, v2⟩ := law_width hS hi hL
      exact ⟨M2, (g0.tr (go_tableIn 132 d_Law_law_32 (by decide) (by decide) rfl (by decide))).tr g2, s2, v2⟩
    · obtain ⟨M2, g2, s2, v2⟩ := law_parameter hS hi hL
      exact ⟨M2, (g0.tr (go_tableIn 165 d_Law_law_32 (by decide) (by decide) rfl (by decide))).tr g2, s2, v2⟩
    · obtain ⟨M2, g2, s2, v2⟩ := law_define hS hi hL
      exact ⟨M2, (g0.tr (go_tableIn 198 d_Law_law_32 (by decide) (by decide) rfl (by decide))).tr g2, s2, v2⟩
    · obtain ⟨M2, g2, s2, v2⟩ := law_pattern hS hi hL
      exact ⟨M2, (g0.tr (go_tableIn 221 d_Law_law_32 (by decide) (by decide) rfl (by decide))).tr g2, s2, v2⟩
    · obtain ⟨M2, g2, s2, v2⟩ := law_paragraph hS hi hL
      exact ⟨M2, (g0.tr (go_tableIn 234 d_Law_law_32 (by decide) (by decide) rfl (by decide))).tr g2, s2, v2⟩
    · obtain ⟨M2, g2, s2, v2⟩ := law_cost hS hi hL
      exact ⟨M2, (g0.tr (go_tableIn 247 d_Law_law_32 (by decide) (by decide) rfl (by decide))).tr g2, s2, v2⟩
    · obtain ⟨M2, g2, s2, v2⟩ := law_line hS hi hL
      exact ⟨M2, (g0.tr (go_tableIn 261 d_Law_law_32 (by decide) (by decide) rfl (by decide))).tr g2, s2, v2⟩
    · obtain ⟨M2, g2, s2, v2⟩ := law_character hS hi hL
      exact ⟨M2, (g0.tr (go_tableIn 294 d_Law_law_32 (by decide) (by decide) rfl (by decide))).tr g2, s2, v2⟩
    · obtain ⟨M2, g2, s2, v2⟩ := law_place hS hi hL
      exact ⟨M2, (g0.tr (go_tableIn 327 d_Law_law_32 (by decide) (by decide) rfl (by decide))).tr g2, s2, v2⟩
    · obtain ⟨M2, g2, s2, v2⟩ := law_count hS hi hL
      exact ⟨M2, (g0.tr (go_tableIn 360 d_Law_law_32 (by decide) (by decide) rfl (by decide))).tr g2, s2, v2⟩
  · refine ⟨M, g0.tr (go_tableOut 383 d_Law_law_32 (Or.inr ?_) (by decide)), hS, rfl⟩
    rw [nI_toInt (by omega)]; omega
theorem law_loop {G : gG} {p : Nat} (hL : G.2.2.2.2.1 ≤ 1536) : ∀ (r i : Nat) (M : gM), G.2.2.2.2.1 ≤ i + 3 * r → i ≤ G.2.2.2.2.1 → Sim G M p → ∃ (M2 : gM) (lv2 : gL), Go G m_Law_law 7 (18, [(0, .ref G.2.2.2.1), (1, .ref p), (2, .ref (p + 122)), (3, .int (nI i))], [], M) (390, lv2, [.int 1], M2) ∧ M2.2 = M.2 := by
  have head : ∀ (i : Nat) (M : gM), Go G m_Law_law 7 (18, [(0, .ref G.2.2.2.1), (1, .ref p), (2, .ref (p + 122)), (3, .int (nI i))], [], M) (23, [(0, .ref G.2.2.2.1), (1, .ref p), (2, .ref (p + 122)), (3, .int (nI i))], [.int (nI G.2.2.2.2.1 - 3), .int (nI i)], M) := by
    intro i M
    refine Go.trp 19 (go_iload_n d_Law_law_18 rfl 3 rfl) rfl ?_
    refine Go.trp 20 (go_aload_n d_Law_law_19 rfl 0 rfl) rfl ?_
    refine Go.trp 21 (go_slen d_Law_law_20) rfl ?_
    refine Go.trp 22 (go_iconst (v := 3) d_Law_law_21 (by decide)) rfl ?_
    exact go_isub d_Law_law_22
  have t3 : (nI G.2.2.2.2.1 - 3).toInt = (G.2.2.2.2.1 : Int) - 3 := by
    rw [Int32.toInt_sub, nI_toInt (by omega), show (3 : Int32).toInt = 3 from rfl]
    exact Int.bmod_eq_of_le (by omega) (by omega)
  have out : ∀ (i : Nat) (M : gM), i ≤ 1536 → ¬ i + 3 ≤ G.2.2.2.2.1 → ∃ (M2 : gM) (lv2 : gL), Go G m_Law_law 7 (18, [(0, .ref G.2.2.2.1), (1, .ref p), (2, .ref (p + 122)), (3, .int (nI i))], [], M) (390, lv2, [.int 1], M2) ∧ M2.2 = M.2 := by
    intro i M hi6 hi
    refine ⟨M, [(0, .ref G.2.2.2.1), (1, .ref p), (2, .ref (p + 122)), (3, .int (nI i))], (head i M).tr ?_, rfl⟩
    refine Go.trp 389 (go_icmp_gt_t 389 d_Law_law_23 (by decide) ?_) rfl ?_
    · rw [i32_lt, t3, nI_toInt (by omega)]; omega
    · exact go_iconst (v := 1) d_Law_law_389 (by decide)
  intro r
  induction r with
  | zero => intro i M h1 h2 hS; exact out i M (by omega) (by omega)
  | succ r ih =>
    intro i M h1 h2 hS
    by_cases hi : i + 3 ≤ G.2.2.2.2.1
    · obtain ⟨M2, g2, s2, v2⟩ := law_step hS hi (by omega)
      obtain ⟨M3, lv3, g3, v3⟩ := ih (i + 3) M2 (by omega) hi s2
      refine ⟨M3, lv3, (head i M).tr ?_, v3.trans v2⟩
      refine Go.trp 26 (go_icmp_gt_f 389 d_Law_law_23 (by decide) ?_) rfl ?_
      · rw [i32_lt, t3, nI_toInt (by omega)]; omega
      refine g2.tr ?_
      refine Go.trp 386 (go_iinc (v := nI (i + 3)) [(3, .int (nI (i + 3))), (0, .ref G.2.2.2.1), (1, .ref p), (2, .ref (p + 122))] d_Law_law_383 (n0 := 3) rfl (nI_add i 3) (by decide) rfl) rfl ?_
      refine Go.trp 18 (go_goto 18 d_Law_law_386 (by decide)) rfl ?_
      exact (go_pick [1, 2, 3, 0] _ rfl).tr g3
    · exact out i M (by omega) hi
theorem law_go (G : gG) (M : gM) (hL : G.2.2.2.2.1 ≤ 1536) : ∃ (M2 : gM) (lv2 : gL), Go G m_Law_law 7 (0, [(0, .ref G.2.2.2.1)], [], M) (390, lv2, [.int 1], M2) ∧ M2.2 = (M.2.1 + 156, M.2.2 + 5375) := by
  obtain ⟨M1, g1, s1, v1⟩ := law_new G M M.2.1 rfl
  obtain ⟨M2, lv2, g2, v2⟩ := law_loop hL 512 0 M1 (by omega) (Nat.zero_le _) s1
  exact ⟨M2, lv2, g1.tr g2, v2.trans v1⟩
