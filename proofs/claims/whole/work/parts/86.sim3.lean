theorem e_Mod_placeL (G : gG) (M : gM) (A : Nat) (a : Nat → Nat) (s : Nat → Int32) (c : Int64) (it sz sp f38 f39 f40 f43 f45 f46 : Nat → Int32) (i ln e g : Nat) (hI : InjA A a) (hA : gRd M A = some (.inr (11, oMod a s c))) (m19 : gRd M (a 19) = some (aI G 120 it)) (m20 : gRd M (a 20) = some (aI G 120 sz)) (m21 : gRd M (a 21) = some (aI G 120 sp)) (m38 : gRd M (a 38) = some (aI G 25 f38)) (m39 : gRd M (a 39) = some (aI G 25 f39)) (m40 : gRd M (a 40) = some (aI G 25 f40)) (m43 : gRd M (a 43) = some (aI G 25 f43)) (m45 : gRd M (a 45) = some (aI G 25 f45)) (m46 : gRd M (a 46) = some (aI G 25 f46)) (h47 : s 47 = nI ln) (hi : i < ln) (hln : ln ≤ 24) (h38 : f38 i = nI g) (h39 : f39 i = nI e) (hge : g ≤ e) (he : e ≤ 120) (k : Nat) (hk : chN (f40 i) e g ≤ k) (hk2 : k < 2 ^ 31) : Ev G 1 m_Mod_place [.ref A, .int (nI i), .int (nI k)] M (some (.int (-1))) M := by
  have hcl := chN_le (f40 i) e g
  refine Ev.of (Nat.le_of_ble_eq_true rfl) ?_
  show EvF G 1 m_Mod_place (0, [(0, .ref A), (1, .int (nI i)), (2, .int (nI k))], [], M) _ _
  refine EvF.gop 1 (go_aload_n d_Mod_place_0 rfl 0 rfl) rfl ?_
  refine EvF.gop 2 (go_iload_n d_Mod_place_1 rfl 1 rfl) rfl ?_
  refine EvF.gop 5 (go_callV [.int (nI i)] [.int (bI (ilB (nI i) (s 47)))] c0_Mod_isLine im_Mod_isLine se_Mod_isLine lk_Mod_236 d_Mod_place_2 rfl rfl (hA) (e_Mod_isLine G M A a s c (nI i) hI hA) (by decide) rfl rfl (Nat.le_of_ble_eq_true rfl) rfl) rfl ?_
  refine EvF.gop 8 (go_if_eq_f 21 d_Mod_place_5 (by decide) (by rw [h47, ilB_t hi hln]; decide)) rfl ?_
  refine EvF.gop 9 (go_iload_n d_Mod_place_8 rfl 2 rfl) rfl ?_
  refine EvF.gop 12 (go_if_lt_f 21 d_Mod_place_9 (by decide) (nI_pos (by omega))) rfl ?_
  refine EvF.gop 13 (go_iload_n d_Mod_place_12 rfl 2 rfl) rfl ?_
  refine EvF.gop 14 (go_aload_n d_Mod_place_13 rfl 0 rfl) rfl ?_
  refine EvF.gop 15 (go_iload_n d_Mod_place_14 rfl 1 rfl) rfl ?_
  refine EvF.gop 18 (go_callV [.int (nI i)] [.int (nI (chN (f40 i) e g)), .int (nI k)] c0_Mod_characters im_Mod_characters se_Mod_characters lk_Mod_239 d_Mod_place_15 rfl rfl (hA) (e_Mod_characters G M A a s c it f38 f39 f40 i ln e g hI hA m19 m38 m39 m40 h47 hi hln h38 h39 hge he) (by decide) rfl rfl (Nat.le_of_ble_eq_true rfl) rfl) rfl ?_
  refine EvF.gop 21 (go_icmp_lt_f 23 d_Mod_place_18 (by decide) (nI_nlt (by omega) (by omega))) rfl ?_
  refine EvF.gop 22 (go_iconst (v := (-1)) d_Mod_place_21 (by decide)) rfl ?_
  exact EvF.ri d_Mod_place_22 rfl (rfl) (rfl)
theorem o_cost {G : gG} {M : gM} {p : Nat} (hS : Sim G M p) : ∃ r : Int64, Ev G 6 m_PS_cost [.ref p] M (some (.long r)) M ∧ (∃ fs, gRd M (p + 122) = some (.inr (11, fs))) ∧ Ev G 6 m_Mod_cost [.ref (p + 122)] M (some (.long r)) M := by
  refine hS.elim ?_
  intro lb db n ln f o cl an sp l ar os md mn mbd wo pp np lv pn psg plv ch tn tc ts dw cc l9 tt nb K E B W ST SH LL DD PP X t0 c0 s0 dw0 cc0 l0 tt0 nb0 K0 E0 B0 W0 ST0 SH0 L0 D0 P0 X0 s c F L hC hM hR
  obtain ⟨hx, hpl, hty, hw, hq, he, hm, hh, hc, hs, ht, hs0, ht0⟩ := id hC
  have hp9 : (lb = p + 90 ∧ db = p + 106) ∨ (lb = p + 106 ∧ db = p + 90) := hpl
  obtain ⟨⟨r1, r2, r3⟩, ⟨r4, gn, r5, r6⟩, rw_, rp, ⟨rb, rl⟩, ⟨rn, r9, rt, ro⟩, ⟨q1, q2, q3, q4, q5, q6, q7, q8, q9⟩⟩ := id hR
  have hA := hM.1
  refine ⟨tt, (e_PS_cost G M p lb db _ _ _ _ _ _ _ _ _ _ _ _ _ _ _ hx hs).up (by omega), ⟨_, hA⟩, ?_⟩
  rw [q3]; exact (e_Mod_cost G M (p + 122) (aM (p + 122)) s c (aM_inj _) hA).up (by omega)
theorem mnI_o {w x0 x1 x2 x3 x4 x5 x6 : Int32} (h : w.toInt < 0 ∨ 6 < w.toInt) : mnI w x0 x1 x2 x3 x4 x5 x6 = -1 := by
  unfold mnI
  rcases h with h | h
  · rw [if_pos (i32_lt.mpr (by simpa using h))]
  · rw [if_neg (fun q => by have := i32_lt.mp q; have e : (0 : Int32).toInt = 0 := rfl; omega), if_neg (fun q => by have := i32_le.mp q; have e : (6 : Int32).toInt = 6 := rfl; omega)]
theorem mlI_o {w x0 x1 x2 x3 x4 x5 : Int32} (h : w.toInt < 0 ∨ 5 < w.toInt) : mlI w x0 x1 x2 x3 x4 x5 = -1 := by
  unfold mlI
  rcases h with h | h
  · rw [if_pos (i32_lt.mpr (by simpa using h))]
  · rw [if_neg (fun q => by have := i32_lt.mp q; have e : (0 : Int32).toInt = 0 := rfl; omega), if_neg (fun q => by have := i32_le.mp q; have e : (5 : Int32).toInt = 5 := rfl; omega)]
theorem i32_rng (w : Int32) (m : Nat) (hm : m < 2 ^ 31) : (w.toInt < 0 ∨ (m : Int) < w.toInt) ∨ ∃ j, j ≤ m ∧ w = nI j := by
  by_cases h : w.toInt < 0
  · exact Or.inl (Or.inl h)
  · obtain ⟨j, hj, rfl⟩ := nI_of (x := w) (fun q => h (by have := i32_lt.mp q; simpa using this))
    rw [nI_toInt hj]
    by_cases e : j ≤ m
    · exact Or.inr ⟨j, e, rfl⟩
    · exact Or.inl (Or.inr (by omega))
theorem o_count {G : gG} {M : gM} {p : Nat} (hS : Sim G M p) (x : Int32) : OpI G M p m_PS_count m_Mod_count [.int x] := by
  refine hS.elim ?_
  intro lb db n ln f o cl an sp l ar os md mn mbd wo pp np lv pn psg plv ch tn tc ts dw cc l9 tt nb K E B W ST SH LL DD PP X t0 c0 s0 dw0 cc0 l0 tt0 nb0 K0 E0 B0 W0 ST0 SH0 L0 D0 P0 X0 s c F L hC hM hR
  obtain ⟨hx, hpl, hty, hw, hq, he, hm, hh, hc, hs, ht, hs0, ht0⟩ := id hC
  have hp9 : (lb = p + 90 ∧ db = p + 106) ∨ (lb = p + 106 ∧ db = p + 90) := hpl
  obtain ⟨⟨r1, r2, r3⟩, ⟨r4, gn, r5, r6⟩, rw_, rp, ⟨rb, rl⟩, ⟨rn, r9, rt, ro⟩, rr⟩ := id hR
  obtain ⟨q1, q2, q3, q4, q5, q6, q7, q8, q9⟩ := id rr
  have hA := hM.1
  have e2 := fun w => e_Mod_count G M (p + 122) (aM (p + 122)) s c w (aM_inj _) hA
  rw [q2, q4, q6, q7, q8, r9, r2] at e2
  rcases i32_rng x 6 (by decide) with h | ⟨j, hj, rfl⟩
  · have e3 := e2 x
    rw [mnI_o h] at e3
    exact OpI.st hS (e_PS_countR G M p lb db _ _ _ _ _ _ _ _ _ _ _ _ _ _ _ x hx hs h) (by omega) e3 (by omega)
  · have : j = 0 ∨ j = 1 ∨ j = 2 ∨ j = 3 ∨ j = 4 ∨ j = 5 ∨ j = 6 := by omega
    rcases this with rfl | rfl | rfl | rfl | rfl | rfl | rfl
    · exact OpI.st hS (e_PS_count0 G M p lb db _ _ _ _ _ _ _ _ _ _ _ _ _ _ _ tn np n nb tc hx ht.1 hh.1 hty.1 hs rfl q5) (by omega) (e2 0) (by omega)
    · exact OpI.st hS (e_PS_count1 G M p lb db _ _ _ _ _ _ _ _ _ _ _ _ _ _ _ tn np n nb tc hx ht.1 hh.1 hty.1 hs rfl q5) (by omega) (e2 1) (by omega)
    · exact OpI.st hS (e_PS_count2 G M p lb db _ _ _ _ _ _ _ _ _ _ _ _ _ _ _ tn np n nb tc hx ht.1 hh.1 hty.1 hs rfl q5) (by omega) (e2 2) (by omega)
    · exact OpI.st hS (e_PS_count3 G M p lb db _ _ _ _ _ _ _ _ _ _ _ _ _ _ _ tn np n nb tc hx ht.1 hh.1 hty.1 hs rfl q5) (by omega) (e2 3) (by omega)
    · exact OpI.st hS (e_PS_count4 G M p lb db _ _ _ _ _ _ _ _ _ _ _ _ _ _ _ tn np n nb tc hx ht.1 hh.1 hty.1 hs rfl q5) (by omega) (e2 4) (by omega)
    · exact OpI.st hS (e_PS_count5 G M p lb db _ _ _ _ _ _ _ _ _ _ _ _ _ _ _ tn np n nb tc hx ht.1 hh.1 hty.1 hs rfl q5) (by omega) (e2 5) (by omega)
    · exact OpI.st hS (e_PS_count6 G M p lb db _ _ _ _ _ _ _ _ _ _ _ _ _ _ _ tn np n nb tc hx ht.1 hh.1 hty.1 hs rfl q5) (by omega) (e2 6) (by omega)
theorem o_line {G : gG} {M : gM} {p : Nat} (hS : Sim G M p) (x y : Int32) : OpI G M p m_PS_line m_Mod_line [.int x, .int y] := by
  refine hS.elim ?_
  intro lb db n ln f o cl an sp l ar os md mn mbd wo pp np lv pn psg plv ch tn tc ts dw cc l9 tt nb K E B W ST SH LL DD PP X t0 c0 s0 dw0 cc0 l0 tt0 nb0 K0 E0 B0 W0 ST0 SH0 L0 D0 P0 X0 s c F L hC hM hR
  obtain ⟨hx, hpl, hty, hw, hq, he, hm, hh, hc, hs, ht, hs0, ht0⟩ := id hC
  have hp9 : (lb = p + 90 ∧ db = p + 106) ∨ (lb = p + 106 ∧ db = p + 90) := hpl
  obtain ⟨⟨r1, r2, r3⟩, ⟨r4, gn, r5, r6⟩, rw_, rp, ⟨rb, rl⟩, ⟨rn, r9, rt, ro⟩, rr⟩ := id hR
  obtain ⟨q1, q2, q3, q4, q5, q6, q7, q8, q9⟩ := id rr
  have hA := hM.1
  cases z : ilB x (s 47) with
  | false =>
    have z2 : (decide (0 ≤ x) && decide (x < nI l9)) = false := by rw [← q2]; exact z
    exact OpI.st hS (e_PS_lineR G M p lb db _ _ _ _ _ _ _ _ _ _ _ _ _ _ _ x y hx hs z2) (by omega) (e_Mod_lineR G M (p + 122) (aM (p + 122)) s c x y (aM_inj _) hA z) (by omega)
  | true =>
    rw [q2] at z
    simp only [ilB, Bool.and_eq_true, decide_eq_true_eq] at z
    obtain ⟨i, hi9, rfl⟩ := nI_of (x := x) (Int32.not_lt.mpr z.1)
    have hi : i < l9 := (nI_ltI hi9 (by omega)).mp z.2
    obtain ⟨x0, x1, e, g, ⟨u1, u2, u3, u4, u5, u6, u7, u8, u9⟩, ⟨w1, w2, w3, w4, w5, w6, w7, w8⟩, v1, v2, v3⟩ := q9 i hi
    have e2 := fun w => e_Mod_line G M (p + 122) (aM (p + 122)) s c (F 19) (F 38) (F 39) (F 40) (F 41) (F 42) (F 43) (F 44) i l9 e g (aM_inj _) hA (hM.2.1 19 rfl) (hM.2.1 38 rfl) (hM.2.1 39 rfl) (hM.2.1 40 rfl) (hM.2.1 41 rfl) (hM.2.1 42 rfl) (hM.2.1 43 rfl) (hM.2.1 44 rfl) q2 hi q1 w1 w2 u8 u7 w
    rw [w3, w4, w5, w6, w7, w8] at e2
    rcases i32_rng y 5 (by decide) with h | ⟨j, hj, rfl⟩
    · have e3 := e2 y
      rw [mlI_o h] at e3
      exact OpI.st hS (e_PS_lineO G M p lb db l9 _ _ _ _ _ _ _ _ _ _ _ _ _ _ i x0 x1 e g y hx hs hi q1 u1 u2 u3 u4 u5 u6 (by omega) (by omega) h) (by omega) e3 (by omega)
    · have : j = 0 ∨ j = 1 ∨ j = 2 ∨ j = 3 ∨ j = 4 ∨ j = 5 := by omega
      rcases this with rfl | rfl | rfl | rfl | rfl | rfl
      · exact OpI.st hS (e_PS_line0 G M p lb db l9 _ _ _ _ _ _ _ _ _ _ _ _ _ _ i x0 x1 e g hx hs hi q1 u1 u2 u3 u4 u5 u6 (by omega) (by omega) u9) (by omega) (e2 0) (by omega)
      · exact OpI.st hS (e_PS_line1 G M p lb db l9 _ _ _ _ _ _ _ _ _ _ _ _ _ _ i x0 x1 e g hx hs hi q1 u1 u2 u3 u4 u5 u6 (by omega) (by omega) u9) (by omega) (e2 1) (by omega)
      · exact OpI.st hS (e_PS_line2 G M p lb db l9 _ _ _ _ _ _ _ _ _ _ _ _ _ _ i x0 x1 e g hx hs hi q1 u1 u2 u3 u4 u5 u6 (by omega) (by omega) u9) (by omega) (e2 2) (by omega)
      · exact OpI.st hS (e_PS_line3 G M p lb db l9 _ _ _ _ _ _ _ _ _ _ _ _ _ _ i x0 x1 e g hx hs hi q1 u1 u2 u3 u4 u5 u6 (by omega) (by omega) u9) (by omega) (e2 3) (by omega)
      · exact OpI.st hS (e_PS_line4 G M p lb db l9 _ _ _ _ _ _ _ _ _ _ _ _ _ _ i x0 x1 e g hx hs hi q1 u1 u2 u3 u4 u5 u6 (by omega) (by omega) u9) (by omega) (e2 4) (by omega)
      · exact OpI.st hS (e_PS_line5 G M p lb db l9 _ _ _ _ _ _ _ _ _ _ _ _ _ _ i x0 x1 e g hx hs hi q1 u1 u2 u3 u4 u5 u6 (by omega) (by omega) u9) (by omega) (e2 5) (by omega)
theorem o_character {G : gG} {M : gM} {p : Nat} (hS : Sim G M p) (x y : Int32) : OpI G M p m_PS_character m_Mod_character [.int x, .int y] := by
  refine hS.elim ?_
  intro lb db n ln f o cl an sp l ar os md mn mbd wo pp np lv pn psg plv ch tn tc ts dw cc l9 tt nb K E B W ST SH LL DD PP X t0 c0 s0 dw0 cc0 l0 tt0 nb0 K0 E0 B0 W0 ST0 SH0 L0 D0 P0 X0 s c F L hC hM hR
  obtain ⟨hx, hpl, hty, hw, hq, he, hm, hh, hc, hs, ht, hs0, ht0⟩ := id hC
  have hp9 : (lb = p + 90 ∧ db = p + 106) ∨ (lb = p + 106 ∧ db = p + 90) := hpl
  obtain ⟨⟨r1, r2, r3⟩, ⟨r4, gn, r5, r6⟩, rw_, rp, ⟨rb, rl⟩, ⟨rn, r9, rt, ro⟩, rr⟩ := id hR
  obtain ⟨q1, q2, q3, q4, q5, q6, q7, q8, q9⟩ := id rr
  have hA := hM.1
  by_cases hy : y < 0
  · exact OpI.st hS (e_PS_characterN G M p lb db l9 _ _ _ _ _ _ _ _ _ _ _ _ _ _ x y hx hs hy) (by omega) (e_Mod_characterN G M (p + 122) (aM (p + 122)) s c x y (aM_inj _) hA hy) (by omega)
  cases z : ilB x (s 47) with
  | false =>
    have z2 : (decide (0 ≤ x) && decide (x < nI l9)) = false := by rw [← q2]; exact z
    exact OpI.st hS (e_PS_characterR G M p lb db _ _ _ _ _ _ _ _ _ _ _ _ _ _ _ x y hx hs z2) (by omega) (e_Mod_characterR G M (p + 122) (aM (p + 122)) s c x y (aM_inj _) hA z) (by omega)
  | true =>
    rw [q2] at z
    simp only [ilB, Bool.and_eq_true, decide_eq_true_eq] at z
    obtain ⟨i, hi9, rfl⟩ := nI_of (x := x) (Int32.not_lt.mpr z.1)
    have hi : i < l9 := (nI_ltI hi9 (by omega)).mp z.2
    obtain ⟨x0, x1, e, g, ⟨u1, u2, u3, u4, u5, u6, u7, u8, u9⟩, ⟨w1, w2, w3, w4, w5, w6, w7, w8⟩, v1, v2, v3⟩ := q9 i hi
    obtain ⟨k, hk, rfl⟩ := nI_of (x := y) hy
    have e2 := e_Mod_character G M (p + 122) (aM (p + 122)) s c (F 19) (F 38) (F 39) (F 40) i l9 e g (aM_inj _) hA (hM.2.1 19 rfl) (hM.2.1 38 rfl) (hM.2.1 39 rfl) (hM.2.1 40 rfl) q2 hi q1 w1 w2 u8 u7 k hk
    rw [w3, ← v1 k] at e2
    exact OpI.st hS (e_PS_character G M p lb db l9 _ _ _ _ _ _ _ _ _ _ _ _ _ _ i x0 x1 e g k _ tc hx ht.1 ht.2.1 hs hi q1 u1 u2 u3 u4 u5 u6 (by omega) (by omega) u8 hk) (by omega) e2 (by omega)
theorem o_place {G : gG} {M : gM} {p : Nat} (hS : Sim G M p) (x y : Int32) : OpI G M p m_PS_place m_Mod_place [.int x, .int y] := by
  refine hS.elim ?_
  intro lb db n ln f o cl an sp l ar os md mn mbd wo pp np lv pn psg plv ch tn tc ts dw cc l9 tt nb K E B W ST SH LL DD PP X t0 c0 s0 dw0 cc0 l0 tt0 nb0 K0 E0 B0 W0 ST0 SH0 L0 D0 P0 X0 s c F L hC hM hR
  obtain ⟨hx, hpl, hty, hw, hq, he, hm, hh, hc, hs, ht, hs0, ht0⟩ := id hC
  have hp9 : (lb = p + 90 ∧ db = p + 106) ∨ (lb = p + 106 ∧ db = p + 90) := hpl
  obtain ⟨⟨r1, r2, r3⟩, ⟨r4, gn, r5, r6⟩, rw_, rp, ⟨rb, rl⟩, ⟨rn, r9, rt, ro⟩, rr⟩ := id hR
  obtain ⟨q1, q2, q3, q4, q5, q6, q7, q8, q9⟩ := id rr
  have hA := hM.1
  by_cases hy : y < 0
  · exact OpI.st hS (e_PS_placeN G M p lb db l9 _ _ _ _ _ _ _ _ _ _ _ _ _ _ x y hx hs hy) (by omega) (e_Mod_placeN G M (p + 122) (aM (p + 122)) s c x y (aM_inj _) hA hy) (by omega)
  cases z : ilB x (s 47) with
  | false =>
    have z2 : (decide (0 ≤ x) && decide (x < nI l9)) = false := by rw [← q2]; exact z
    exact OpI.st hS (e_PS_placeR G M p lb db _ _ _ _ _ _ _ _ _ _ _ _ _ _ _ x y hx hs z2) (by omega) (e_Mod_placeR G M (p + 122) (aM (p + 122)) s c x y (aM_inj _) hA z) (by omega)
  | true =>
    rw [q2] at z
    simp only [ilB, Bool.and_eq_true, decide_eq_true_eq] at z
    obtain ⟨i, hi9, rfl⟩ := nI_of (x := x) (Int32.not_lt.mpr z.1)
    have hi : i < l9 := (nI_ltI hi9 (by omega)).mp z.2
    obtain ⟨x0, x1, e, g, ⟨u1, u2, u3, u4, u5, u6, u7, u8, u9⟩, ⟨w1, w2, w3, w4, w5, w6, w7, w8⟩, v1, v2, v3⟩ := q9 i hi
    obtain ⟨k, hk, rfl⟩ := nI_of (x := y) hy
    have ech : chN (F 40 i) e g = lenN K x1 e g := by rw [w3]; rfl
    by_cases hl : k < lenN K x1 e g
    · have e2 := e_Mod_place G M (p + 122) (aM (p + 122)) s c (F 19) (F 20) (F 21) (F 38) (F 39) (F 40) (F 43) (F 45) (F 46) i l9 e g (aM_inj _) hA (hM.2.1 19 rfl) (hM.2.1 20 rfl) (hM.2.1 21 rfl) (hM.2.1 38 rfl) (hM.2.1 39 rfl) (hM.2.1 40 rfl) (hM.2.1 43 rfl) (hM.2.1 45 rfl) (hM.2.1 46 rfl) q2 hi q1 w1 w2 u8 u7 k (by rw [ech]; exact hl) v2
      rw [← v3 k hl] at e2
      exact OpI.st hS (e_PS_place G M p lb db l9 _ _ _ _ _ _ _ _ _ _ _ _ _ _ i x0 x1 e g k hx hs hi q1 u1 u2 u3 u4 u5 u6 (by omega) (by omega) u8 hl) (by omega) e2 (by omega)
    · exact OpI.st hS (e_PS_placeL G M p lb db l9 _ _ _ _ _ _ _ _ _ _ _ _ _ _ i x0 x1 e g k hx hs hi q1 u1 u2 u3 u4 u5 u6 (by omega) (by omega) u8 (by omega) hk) (by omega) (e_Mod_placeL G M (p + 122) (aM (p + 122)) s c (F 19) (F 20) (F 21) (F 38) (F 39) (F 40) (F 43) (F 45) (F 46) i l9 e g (aM_inj _) hA (hM.2.1 19 rfl) (hM.2.1 20 rfl) (hM.2.1 21 rfl) (hM.2.1 38 rfl) (hM.2.1 39 rfl) (hM.2.1 40 rfl) (hM.2.1 43 rfl) (hM.2.1 45 rfl) (hM.2.1 46 rfl) q2 hi q1 w1 w2 u8 u7 k (by rw [ech]; omega) hk) (by omega)
