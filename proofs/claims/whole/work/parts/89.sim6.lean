theorem o_paragraph {G : gG} {M : gM} {p : Nat} (hS : Sim G M p) : OpI G M p m_PS_paragraph m_Mod_paragraph [] := by
  refine hS.elim ?_
  intro lb db n ln f o cl an sp l ar os md mn mbd wo pp np lv pn psg plv ch tn tc ts dw cc l9 tt nb K E B W ST SH LL DD PP X t0 c0 s0 dw0 cc0 l0 tt0 nb0 K0 E0 B0 W0 ST0 SH0 L0 D0 P0 X0 s c F L hC hM hR
  obtain ⟨⟨r1, r2, r3⟩, ⟨r4, gn, r5, r6⟩, rw_, rp, ⟨rb, rl⟩, ⟨rn, r9, rt, ro⟩, rr⟩ := id hR
  generalize hZ : xpF md mbd mn 8060 ((200 - n, 0, 0, an, 0), 4, wrB l (200 - n) ln n, ar, os, c0, s0) = Z
  generalize hY : mxF md (F 4) mn 8245 ((n, 0, 0, gn, 0), 4, cpI (F 0) n (F 10), F 12, F 11, F 13, F 17, F 18) = Y
  obtain ⟨oZ, oY, eA, eR⟩ := ex_rel rb r1 r3 r4 r5 hZ hY
  have av : (lg_sl [Value.ref p]).length ≤ m_PS_paragraph.2.2.1 := Nat.le_of_ble_eq_true rfl
  have am : (lg_sl [Value.ref (p + 122)]).length ≤ m_Mod_paragraph.2.2.1 := Nat.le_of_ble_eq_true rfl
  obtain ⟨M1, g1, hC1, k1, v1⟩ := c_par1 hC r1 r4 Z hZ
  by_cases z : Z.1 = 0
  case neg =>
    have hz : Y.1 < 0 := by
      rw [← eA]
      have := xp_ans (md := md) (mbd := mbd) (mn := mn) 8060 ((200 - n, 0, 0, an, 0), 4, wrB l (200 - n) ln n, ar, os, c0, s0)
      rw [hZ] at this
      rcases this with q | q
      · exact absurd q z
      · exact q
    have e1 : Ev G 6 m_PS_paragraph [.ref p] M (some (.int Z.1)) M1 := Ev.of av (EvF.go g1 (c_parE G M1 p Z.1 z))
    have hM1 := hM.fr (fun q hq => k1 q hq.1)
    obtain ⟨M2, s1, F1, g2, m2, a1, a2, a3, a4, a5, a6, a7, a8⟩ := p_par1 G M1 (p + 122) s c F L md mn n gn Y hM1 rl r2 r6 r1 r5 hY
    have e2 : Ev G 4 m_Mod_paragraph [.ref (p + 122)] M1 (some (.int Y.1)) M2 := Ev.of am (EvF.go g2 (p_parE G M2 (p + 122) Y.1 hz))
    rw [← eA] at e2
    exact ⟨Z.1, M1, M2, e1, ⟨_, hM1.1⟩, e2.up (by omega), Sim.mk hC1 m2 (hR.keep (a1 9 (by omega)) (fun i hi => a6 i (by omega)) a2 a3 oY.2.2.2.1 oZ.2.2.2.1 (rr.cg (fun j hj => a1 j (by omega)) (fun j hj => a6 j (by omega)))), m2.2.2.trans v1⟩
  case pos =>
  have zY : Y.1 = 0 := eA ▸ z
  obtain ⟨q1, q2, q3⟩ := eR z
  have T := td_cn (P := fun c s => cItm c = true ∧ sp9 s ∧ (cSpc c = false → s = 0)) (n := Z.2.1.2.2.2.2) (c := Z.2.2.2.2.2.2.1) (s := Z.2.2.2.2.2.2.2) (c2 := Y.2.2.2.2.2.2.2.1) (s2 := Y.2.2.2.2.2.2.2.2) (fun i hi => ⟨(q3 i hi).1, (q3 i hi).2.1⟩) (fun i hi => (q3 i hi).2.2)
  generalize e1 : tdN Z.2.2.2.2.2.2.1 Z.2.2.2.2.2.2.2 Z.2.1.2.2.2.2 = tn2 at T
  generalize e2 : (tdC Z.2.2.2.2.2.2.1 Z.2.2.2.2.2.2.2 Z.2.1.2.2.2.2).2.1 = c2 at T
  generalize e3 : (tdC Z.2.2.2.2.2.2.1 Z.2.2.2.2.2.2.2 Z.2.1.2.2.2.2).2.2 = s2 at T
  rw [q2] at T
  generalize e5 : (cnC Y.2.1.2.2.2.2 Y.2.2.2.2.2.2.2.1 Y.2.2.2.2.2.2.2.2).2.1 = d2 at T
  generalize e6 : (cnC Y.2.1.2.2.2.2 Y.2.2.2.2.2.2.2.1 Y.2.2.2.2.2.2.2.2).2.2 = t2 at T
  obtain ⟨T1, T2, T3, T4, T5⟩ := T
  have htn : tn2 ≤ 120 := by have := oY.2.2.2.2; omega
  generalize e4 : wgF tn2 c2 np pn psg plv (tn2 + 1) 0 0 (cpI (fun _ => nI 0) 121 lv) = LV
  generalize e7 : bkF tn2 c2 (ptL LV) tn2 0 (0, upd K0 0 (-1), upd E0 0 0, upd B0 0 0) = FB
  generalize e8 : hyF tn2 d2 (F 6) (F 7) pn np (tn2 + 1) 0 (cpI (fun _ => 0) (tn2 + 1) (F 24)) 0 = H
  obtain ⟨M2, g2, hC2, k2, v2⟩ := c_par2 hC1 rn (fun k hk => ⟨(rt k hk).1, (rt k hk).2.1⟩) oZ.2.2.2.2 Z.1 tn2 c2 s2 LV FB e1 e2 e3 e4 e7
  have gA : Go G m_PS_paragraph 6 (0, [(0, .ref p)], [], M) (91, [(0, .ref p), (1, .int Z.1)], [.int (bI FB.1)], M2) := g1.tr ((c_parG G M1 p Z.1 z).tr g2)
  have WH := wg_hy (n := tn2) (c := c2) (ci := d2) (fun k hk => (T2 k hk).1) rt (tn2 + 1) 0 (cpI (fun _ => nI 0) 121 lv) (cpI (fun _ => 0) (tn2 + 1) (F 24)) 0 (by omega) (by omega) (fun k _ hk => (if_pos (by omega)).trans nI_0) (fun k _ hk => if_pos (by omega))
  rw [Nat.sub_zero, Nat.sub_zero, e4, e8] at WH
  obtain ⟨W1, _, W3⟩ := WH
  rw [Nat.zero_add] at W3
  have hlet : ∀ k, k < tn2 → ptM H.1 k = true → cLet (c2 k) = true := by
    intro k hk hp
    have := hy_let (n := tn2) (np := np) (ci := d2) (sg := F 6) (lv := F 7) (pn := pn) (tn2 + 1) 0 (cpI (fun _ => 0) (tn2 + 1) (F 24)) 0 k
    rw [e8] at this
    rcases this (by simpa [ptM] using hp) with w | w
    · exact absurd (if_pos (by omega)) w
    · rw [(T2 k hk).1] at w; exact w
  -- what the model does first, over any memory that the class leaves
  have mod2 : ∀ N : gM, ModAt G N (p + 122) s c F L → _ := fun N hN => m_par12 (np := np) (tn2 := tn2) (pn := pn) (d2 := d2) (t2 := t2) (H := H) hN rl r2 r6 r1 r5 hY zY oY.2.2.2.2 T1 e5 e6 ro r9 e8
  by_cases hz0 : tn2 = 0
  case pos =>
    subst hz0
    have eF : FB = (true, (0, upd K0 0 (-1), upd E0 0 0, upd B0 0 0)) := by rw [← e7]; rfl
    subst eF
    obtain ⟨M3, g3, hC3, k3, v3⟩ := c_par3 hC2 (by omega) Z.1
    obtain ⟨M4, g4, hC4, k4, v4⟩ := c_par4T hC3 0 (fun _ => 0) (fun _ => 0) rfl ⟨by omega, fun j hj => by
      have : j = 0 := by omega
      subst this
      exact ⟨show upd E0 0 0 0 = 0 from pk_us, Nat.zero_lt_succ _⟩, fun j hj => by
      have : j = 0 := by omega
      subst this
      exact ⟨show upd B0 0 0 0 = 0 from pk_us, Nat.zero_lt_succ _⟩, fun i j hi hj => absurd hi (by omega)⟩ (vp_updL ch.1 0 0, upd ch.2.1 0 0, ch.2.2) rfl 0 (fun _ => 0) (Or.inl rfl) (show upd ch.2.1 0 0 0 = 0 from pk_us) ⟨rfl, by omega, by omega, fun i hi => absurd hi (by omega)⟩ Z.1
    have f1 : Ev G 6 m_PS_paragraph [.ref p] M (some (.int (nI 0))) M4 := Ev.of av (EvF.go (gA.tr ((c_parC G M2 p Z.1).tr g3)) g4)
    have hM4 := hM.fr (M1 := M4) (fun q hq => (k4 q hq.1).trans ((k3 q hq.1).trans ((k2 q hq.1).trans (k1 q hq.1))))
    obtain ⟨N1, sa, Fa, ga, ma, a1, a2, a3, a4, a5, a6, a7, a8, a9, a10⟩ := mod2 M4 hM4
    obtain ⟨N2, gb, mb⟩ := p_par0 G N1 (p + 122) sa c Fa L Y.1 ma.1 (a5.trans nI_0)
    have f2 : Ev G 4 m_Mod_paragraph [.ref (p + 122)] M4 (some (.int 0)) N2 := Ev.of am (EvF.go ga gb)
    refine ⟨nI 0, M4, N2, f1, ⟨_, hM4.1⟩, f2.up (by omega), Sim.mk hC4 (ma.tr mb) (hR.keep ?_ (fun i hi => a7 i (by omega)) ?_ ?_ oY.2.2.2.1 oZ.2.2.2.1 ⟨by omega, ?_, (show vp_updL ch.1 0 0 0 = 0 from upL_s), ?_, by omega, ?_, ?_, ?_, fun i hi => absurd hi (by omega)⟩), mb.2.2.trans (ma.2.2.trans (v4.trans (v3.trans (v2.trans v1))))⟩
    · exact (pk_un (by omega)).trans ((pk_un (by omega)).trans ((pk_un (by omega)).trans ((pk_un (by omega)).trans ((pk_un (by omega)).trans (a1 9 (by omega))))))
    · exact (pk_un (by omega)).trans ((pk_un (by omega)).trans ((pk_un (by omega)).trans ((pk_un (by omega)).trans ((pk_un (by omega)).trans a2))))
    · exact (pk_un (by omega)).trans ((pk_un (by omega)).trans ((pk_un (by omega)).trans ((pk_un (by omega)).trans ((pk_un (by omega)).trans a3))))
    · exact (pk_un (by omega)).trans ((pk_un (by omega)).trans ((pk_un (by omega)).trans pk_us))
    · exact (pk_un (by omega)).trans ((pk_un (by omega)).trans ((pk_un (by omega)).trans ((pk_un (by omega)).trans pk_us)))
    · exact (pk_un (by omega)).trans ((pk_un (by omega)).trans (pk_us.trans nI_0.symm))
    · refine (pk_un (by omega)).trans (pk_us.trans ?_)
      rw [a6, W3]; rfl
    · refine pk_us.trans ?_
      rw [a4, q1]
  case neg =>
  have BK := bk_mb (c := c2) (ci := d2) (pt := ptL LV) (pt' := ptM H.1) (Nat.pos_of_ne_zero hz0) T3 (fun k hk => (T2 k hk).1) (fun k hk => ⟨(W1 k (Nat.zero_le _) hk).2, fun w => hlet k hk (by rw [← (W1 k (Nat.zero_le _) hk).2]; exact w)⟩) tn2 0 0 (0, upd K0 0 (-1), upd E0 0 0, upd B0 0 0) (0, upd (F 25) 0 0, F 26, upd (F 27) 0 0) (fun _ => 0) (fun _ => 0) (fun _ => 0) (by omega) ⟨rfl, Nat.zero_le _, ⟨show upd K0 0 (-1) 0 = -1 from pk_us, show upd (F 25) 0 0 0 = 0 from pk_us, show upd E0 0 0 0 = 0 from pk_us, show upd B0 0 0 0 = 0 from pk_us, show upd (F 27) 0 0 0 = 0 from pk_us, rfl, rfl, rfl⟩, fun j a b => absurd a (by have b : j ≤ 0 := b; omega), fun i j a b => absurd a (by have b : j ≤ 0 := b; omega), fun q a => absurd a (by omega), rfl⟩
  rw [e7] at BK
  generalize e9 : mbF tn2 d2 (ptM H.1) tn2 0 (0, upd (F 25) 0 0, F 26, upd (F 27) 0 0) = B9 at BK
  obtain ⟨B1, B2⟩ := BK
  cases hfb : FB.1 with
  | false =>
    rw [hfb] at gA B1
    have f1 : Ev G 6 m_PS_paragraph [.ref p] M (some (.int (-4))) M2 := Ev.of av (EvF.go gA (c_parB G M2 p Z.1))
    have hM2 := hM.fr (M1 := M2) (fun q hq => (k2 q hq.1).trans (k1 q hq.1))
    obtain ⟨N1, sa, Fa, ga, ma, a1, a2, a3, a4, a5, a6, a7, a8, a9, a10⟩ := mod2 M2 hM2
    obtain ⟨N2, gb, mb⟩ := p_parB G N1 (p + 122) sa c Fa L tn2 B9 Y.1 ma.1 a5 (by omega) htn (by rw [a8, a10, a7 25 (by omega), a7 26 (by omega), a7 27 (by omega)]; exact e9) B1.symm
    have f2 : Ev G 4 m_Mod_paragraph [.ref (p + 122)] M2 (some (.int (-4))) N2 := Ev.of am (EvF.go ga gb)
    have kF : ∀ i, ¬ (i = 25 ∨ i = 26 ∨ i = 27) → uF (uF (uF Fa 25 B9.2.2.1) 26 B9.2.2.2.1) 27 B9.2.2.2.2 i = Fa i := fun i hi => (if_neg (by omega)).trans ((if_neg (by omega)).trans (if_neg (by omega)))
    exact ⟨-4, M2, N2, f1, ⟨_, hM2.1⟩, f2.up (by omega), Sim.mk hC2 (ma.tr mb) (hR.keep ((pk_un (by omega)).trans (a1 9 (by omega))) (fun i hi => (kF i (by omega)).trans (a7 i (by omega))) ((pk_un (by omega)).trans a2) ((pk_un (by omega)).trans a3) oY.2.2.2.1 oZ.2.2.2.1 (rr.cg (fun j hj => (pk_un (by omega)).trans (a1 j (by omega))) (fun j hj => (kF j (by omega)).trans (a7 j (by omega))))), mb.2.2.trans (ma.2.2.trans (v2.trans v1))⟩
  | true =>
    rw [hfb] at gA B1
    obtain ⟨eN, gC, gM, hBr, hpos⟩ := B2 hfb
    obtain ⟨M3, g3, hC3, k3, v3⟩ := c_par3 hC2 htn Z.1
    have gB := gA.tr ((c_parC G M2 p Z.1).tr g3)
    have hI : ItR tn2 c2 s2 d2 t2 wo (F 2) := ⟨fun k hk => ⟨(T2 k hk).1, (T2 k hk).2, T4 k hk⟩, rw_⟩
    obtain ⟨P0', P1', A2', A3', A4', hP1, hP2⟩ := rp
    have hPc := hP1.cp (P9 := P0)
    have hLc := ln_ok (s := s2) (S9 := ST0) (H9 := SH0) hBr T3 htn hI
    have hLm := ln_m hBr T3 htn hI
    have n24 := hBr.2.1
    generalize hRc : chF FB.2.1 (lnB eN gC FB.2.2.1 (smI (wdI wo c2 s2) W0 tn2) (smI (stI s2) ST0 tn2) (smI (shI s2) SH0 tn2) (smI (leI c2) L0 tn2) (smI (daI c2) D0 tn2) (cpI pp 5 P0) (wo 26)) (fun i j => prI (cpI pp 5 P0) FB.2.2.1 i j (lnB eN gC FB.2.2.1 (smI (wdI wo c2 s2) W0 tn2) (smI (stI s2) ST0 tn2) (smI (shI s2) SH0 tn2) (smI (leI c2) L0 tn2) (smI (daI c2) D0 tn2) (cpI pp 5 P0) (wo 26) i j)) FB.2.2.1 FB.2.1 (vp_updL ch.1 FB.2.1 0, upd ch.2.1 FB.2.1 0, ch.2.2) = R
    generalize hRm : slF B9.2.1 (fun i j => meF (F 2) (F 3) d2 t2 B9.2.2.1 i j (eN j) (gM i)) (fun i j => pmF (F 3) B9.2.2.1 i j) B9.2.1 ((vp_updL L B9.2.1 0, upd (F 31) B9.2.1 0, F 32), (s 33, s 34, s 35, s 36, s 37)) = RM
    have RA : Rall (fun i j => (∀ t, i < t → t < j → ¬ FB.2.2.1 t = 3) ∧ ∀ V, (meF (F 2) (F 3) d2 t2 B9.2.2.1 i j (eN j) (gM i) V).1 = true) FB.2.1 0 R RM.1 := by
      rw [← hRc, ← hRm, ← hBr.1]
      exact ch_sl n24 (fun i j hi hj ho => pairs hBr T3 htn hI hPc hP2 hi hj ho) (fun i j hi hj ho V => closed hBr hi hj ho V) (fun i j a b => ⟨a, b⟩) FB.2.1 _ _ (Nat.le_refl _) (ch_0 ch ((L, F 31, F 32), (s 33, s 34, s 35, s 36, s 37)))
    rcases RA 0 (Nat.le_refl _) (Nat.zero_le _) with ⟨_, x1, x2⟩ | ⟨x, m, x1, x2, x3, x4, x5, x6⟩
    · obtain ⟨M4, g4, hC4, k4, v4⟩ := c_par4F hC3 FB.2.1 eN gC rfl hLc R hRc hpos x1 Z.1
      have f1 : Ev G 6 m_PS_paragraph [.ref p] M (some (.int (-5))) M4 := Ev.of av (EvF.go gB g4)
      have hM4 := hM.fr (M1 := M4) (fun q hq => (k4 q hq.1).trans ((k3 q hq.1).trans ((k2 q hq.1).trans (k1 q hq.1))))
      obtain ⟨N1, sa, Fa, ga, ma, a1, a2, a3, a4, a5, a6, a7, a8, a9, a10⟩ := mod2 M4 hM4
      obtain ⟨N2, sb, Fb, gb, mb, b1, b2, b3, b4, b5, b6, b7, b8⟩ := p_par3 G N1 (p + 122) sa c Fa L tn2 B9 eN gM RM Y.1 ma.1 a5 (by omega) htn (by rw [a8, a10, a7 25 (by omega), a7 26 (by omega), a7 27 (by omega)]; exact e9) B1.symm (by rw [a8, a9, a7 2 (by omega)]; exact hLm) (by rw [a8, a9, a7 2 (by omega), a7 3 (by omega), a7 31 (by omega), a7 32 (by omega), a1 33 (by omega), a1 34 (by omega), a1 35 (by omega), a1 36 (by omega), a1 37 (by omega)]; exact hRm)
      have gc := p_parO G N2 (p + 122) sb c Fb RM.1.1 Y.1 mb.1 (by rw [x2]; decide)
      have f2 : Ev G 4 m_Mod_paragraph [.ref (p + 122)] M4 (some (.int (-5))) N2 := Ev.of am (EvF.go (ga.tr gb) gc)
      exact ⟨-5, M4, N2, f1, ⟨_, hM4.1⟩, f2.up (by omega), Sim.mk hC4 (ma.tr mb) (hR.keep ((b1 9 (by omega)).trans (a1 9 (by omega))) (fun i hi => (b4 i (by omega)).trans (a7 i (by omega))) ((b1 1 (by omega)).trans a2) ((b1 15 (by omega)).trans a3) oY.2.2.2.1 oZ.2.2.2.1 (rr.cg (fun j hj => (b1 j (by omega)).trans (a1 j (by omega))) (fun j hj => (b4 j (by omega)).trans (a7 j (by omega))))), mb.2.2.trans (ma.2.2.trans (v4.trans (v3.trans (v2.trans v1))))⟩
    · obtain ⟨P, p0, pm, pi⟩ := x6.pa
      have ml := x6.le
      have bx : x ≤ 200000000 * 24 := Nat.le_trans x1 (Nat.mul_le_mul_left _ (by omega))
      have m0 : 0 < m := by
        apply Nat.pos_of_ne_zero
        intro q; subst q
        have : (0 : Nat) = FB.2.1 := x6
        omega
      have x0 : ¬ R.2.2 0 = 0 := by
        obtain ⟨w1, w2, w3, w4, w5⟩ := pi 0 m0
        rw [p0] at w1 w3
        rw [w1]; exact nI_ne0 (by omega) (by omega)
      obtain ⟨M4, g4, hC4, k4, v4⟩ := c_par4T hC3 FB.2.1 eN gC rfl hLc R hRc m P (Or.inr x0) x4 ⟨p0, by omega, n24, fun i hi => ⟨(pi i hi).1, by have := (pi i hi).2.2.1; have := (pi i hi).2.2.2.1; omega⟩⟩ Z.1
      have f1 : Ev G 6 m_PS_paragraph [.ref p] M (some (.int (nI m))) M4 := Ev.of av (EvF.go gB g4)
      have hM4 := hM.fr (M1 := M4) (fun q hq => (k4 q hq.1).trans ((k3 q hq.1).trans ((k2 q hq.1).trans (k1 q hq.1))))
      obtain ⟨N1, sa, Fa, ga, ma, a1, a2, a3, a4, a5, a6, a7, a8, a9, a10⟩ := mod2 M4 hM4
      obtain ⟨N2, sb, Fb, gb, mb, b1, b2, b3, b4, b5, b6, b7, b8⟩ := p_par3 G N1 (p + 122) sa c Fa L tn2 B9 eN gM RM Y.1 ma.1 a5 (by omega) htn (by rw [a8, a10, a7 25 (by omega), a7 26 (by omega), a7 27 (by omega)]; exact e9) B1.symm (by rw [a8, a9, a7 2 (by omega)]; exact hLm) (by rw [a8, a9, a7 2 (by omega), a7 3 (by omega), a7 31 (by omega), a7 32 (by omega), a1 33 (by omega), a1 34 (by omega), a1 35 (by omega), a1 36 (by omega), a1 37 (by omega)]; exact hRm)
      have w2 : Fb 2 = F 2 := (b4 2 (by omega)).trans (a7 2 (by omega))
      have w3 : Fb 3 = F 3 := (b4 3 (by omega)).trans (a7 3 (by omega))
      have w17 : Fb 17 = d2 := (b4 17 (by omega)).trans a8
      have w18 : Fb 18 = t2 := (b4 18 (by omega)).trans a9
      have w22 : sb 22 = nI tn2 := (b1 22 (by omega)).trans a5
      generalize hV : jvF (fun i j => meF (F 2) (F 3) d2 t2 B9.2.2.1 i j (eN j) (gM i)) P (sb 33, sb 34, sb 35, sb 36, sb 37) = V
      obtain ⟨N3, gc, mc⟩ := p_parJ G N2 (p + 122) sb c Fb RM.1.1 B9.2.1 tn2 m eN gM P V Y.1 mb.1 (by rw [x3, lg_cmp_lt]; show ¬ lN x < lN 0; rw [pk_lLT (by omega) (by omega)]; omega) (by rw [w2, w17, w18, b5, b6, b7]; exact hLm) b2 w22 (by
        rw [b8, ← hBr.1]
        exact ⟨p0, pm, by omega, fun i hi => ⟨(pi i hi).2.1, (pi i hi).2.2.1, (pi i hi).2.2.2.1⟩⟩) (by omega) (by rw [w2, w3, w17, w18, b5]; exact hV)
      have f2 : Ev G 4 m_Mod_paragraph [.ref (p + 122)] M4 (some (.int (nI m))) N3 := Ev.of am (EvF.go (ga.tr gb) gc)
      generalize hsc : upd (upd (upd (upd (upd (upd (upd (upd (upd (upd sb 23 (nI tn2)) 48 (sb 28)) 49 (sb 29)) 50 (sb 16)) 47 (nI m)) 33 ((V m).1)) 34 ((V m).2.1)) 35 ((V m).2.2.1)) 36 ((V m).2.2.2.1)) 37 ((V m).2.2.2.2) = sc at mc
      generalize hFc : uF (uF (uF (uF (uF (uF (uF (uF (uF (uF (uF (uF Fb 19 (cpI (Fb 17) tn2 (Fb 19))) 20 (cpI (szI (Fb 2) (Fb 17) (Fb 18)) tn2 (Fb 20))) 21 (cpI (Fb 18) tn2 (Fb 21))) 38 (cpI (fun j => (V (j + 1)).1) m (Fb 38))) 39 (cpI (fun j => Fb 26 (P (j + 1))) m (Fb 39))) 40 (cpI (fun j => Fb 25 (P (j + 1))) m (Fb 40))) 41 (cpI (fun j => nI (P (j + 1))) m (Fb 41))) 42 (cpI (fun j => (V (j + 1)).2.1) m (Fb 42))) 43 (cpI (fun j => Fb 3 0 - (V (j + 1)).2.1) m (Fb 43))) 44 (cpI (fun j => (V (j + 1)).2.2.2.2) m (Fb 44))) 45 (cpI (fun j => (V (j + 1)).2.2.1) m (Fb 45))) 46 (cpI (fun j => (V (j + 1)).2.2.2.1) m (Fb 46)) = Fc at mc
      have sk : ∀ i, ¬ (i = 23 ∨ (33 ≤ i ∧ i ≤ 37) ∨ (47 ≤ i ∧ i ≤ 50)) → sc i = sb i := fun i hi => by
        rw [← hsc, pk_un (by omega), pk_un (by omega), pk_un (by omega), pk_un (by omega), pk_un (by omega), pk_un (by omega), pk_un (by omega), pk_un (by omega), pk_un (by omega), pk_un (by omega)]
      have s47 : sc 47 = nI m := by rw [← hsc, pk_un (by omega), pk_un (by omega), pk_un (by omega), pk_un (by omega), pk_un (by omega), pk_us]
      have s50 : sc 50 = sb 16 := by rw [← hsc, pk_un (by omega), pk_un (by omega), pk_un (by omega), pk_un (by omega), pk_un (by omega), pk_un (by omega), pk_us]
      have s49 : sc 49 = sb 29 := by rw [← hsc, pk_un (by omega), pk_un (by omega), pk_un (by omega), pk_un (by omega), pk_un (by omega), pk_un (by omega), pk_un (by omega), pk_us]
      have s48 : sc 48 = sb 28 := by rw [← hsc, pk_un (by omega), pk_un (by omega), pk_un (by omega), pk_un (by omega), pk_un (by omega), pk_un (by omega), pk_un (by omega), pk_un (by omega), pk_us]
      have s23 : sc 23 = nI tn2 := by rw [← hsc, pk_un (by omega), pk_un (by omega), pk_un (by omega), pk_un (by omega), pk_un (by omega), pk_un (by omega), pk_un (by omega), pk_un (by omega), pk_un (by omega), pk_us]
      have uS : ∀ (X : Nat → Nat → Int32) (i : Nat) (g : Nat → Int32), uF X i g i = g := fun X i g => if_pos rfl
      have uN : ∀ (X : Nat → Nat → Int32) (i j : Nat) (g : Nat → Int32), j ≠ i → uF X i g j = X j := fun X i j g h => if_neg h
      have fk : ∀ i, i ≤ 8 → Fc i = Fb i := fun i hi => by
        rw [← hFc, uN _ _ _ _ (by omega), uN _ _ _ _ (by omega), uN _ _ _ _ (by omega), uN _ _ _ _ (by omega), uN _ _ _ _ (by omega), uN _ _ _ _ (by omega), uN _ _ _ _ (by omega), uN _ _ _ _ (by omega), uN _ _ _ _ (by omega), uN _ _ _ _ (by omega), uN _ _ _ _ (by omega), uN _ _ _ _ (by omega)]
      have f19 : Fc 19 = cpI (Fb 17) tn2 (Fb 19) := by rw [← hFc, uN _ _ _ _ (by decide), uN _ _ _ _ (by decide), uN _ _ _ _ (by decide), uN _ _ _ _ (by decide), uN _ _ _ _ (by decide), uN _ _ _ _ (by decide), uN _ _ _ _ (by decide), uN _ _ _ _ (by decide), uN _ _ _ _ (by decide), uN _ _ _ _ (by decide), uN _ _ _ _ (by decide), uS]
      have f20 : Fc 20 = cpI (szI (Fb 2) (Fb 17) (Fb 18)) tn2 (Fb 20) := by rw [← hFc, uN _ _ _ _ (by decide), uN _ _ _ _ (by decide), uN _ _ _ _ (by decide), uN _ _ _ _ (by decide), uN _ _ _ _ (by decide), uN _ _ _ _ (by decide), uN _ _ _ _ (by decide), uN _ _ _ _ (by decide), uN _ _ _ _ (by decide), uN _ _ _ _ (by decide), uS]
      have f21 : Fc 21 = cpI (Fb 18) tn2 (Fb 21) := by rw [← hFc, uN _ _ _ _ (by decide), uN _ _ _ _ (by decide), uN _ _ _ _ (by decide), uN _ _ _ _ (by decide), uN _ _ _ _ (by decide), uN _ _ _ _ (by decide), uN _ _ _ _ (by decide), uN _ _ _ _ (by decide), uN _ _ _ _ (by decide), uS]
      have f38 : Fc 38 = cpI (fun j => (V (j + 1)).1) m (Fb 38) := by rw [← hFc, uN _ _ _ _ (by decide), uN _ _ _ _ (by decide), uN _ _ _ _ (by decide), uN _ _ _ _ (by decide), uN _ _ _ _ (by decide), uN _ _ _ _ (by decide), uN _ _ _ _ (by decide), uN _ _ _ _ (by decide), uS]
      have f39 : Fc 39 = cpI (fun j => Fb 26 (P (j + 1))) m (Fb 39) := by rw [← hFc, uN _ _ _ _ (by decide), uN _ _ _ _ (by decide), uN _ _ _ _ (by decide), uN _ _ _ _ (by decide), uN _ _ _ _ (by decide), uN _ _ _ _ (by decide), uN _ _ _ _ (by decide), uS]
      have f40 : Fc 40 = cpI (fun j => Fb 25 (P (j + 1))) m (Fb 40) := by rw [← hFc, uN _ _ _ _ (by decide), uN _ _ _ _ (by decide), uN _ _ _ _ (by decide), uN _ _ _ _ (by decide), uN _ _ _ _ (by decide), uN _ _ _ _ (by decide), uS]
      have f41 : Fc 41 = cpI (fun j => nI (P (j + 1))) m (Fb 41) := by rw [← hFc, uN _ _ _ _ (by decide), uN _ _ _ _ (by decide), uN _ _ _ _ (by decide), uN _ _ _ _ (by decide), uN _ _ _ _ (by decide), uS]
      have f42 : Fc 42 = cpI (fun j => (V (j + 1)).2.1) m (Fb 42) := by rw [← hFc, uN _ _ _ _ (by decide), uN _ _ _ _ (by decide), uN _ _ _ _ (by decide), uN _ _ _ _ (by decide), uS]
      have f43 : Fc 43 = cpI (fun j => Fb 3 0 - (V (j + 1)).2.1) m (Fb 43) := by rw [← hFc, uN _ _ _ _ (by decide), uN _ _ _ _ (by decide), uN _ _ _ _ (by decide), uS]
      have f44 : Fc 44 = cpI (fun j => (V (j + 1)).2.2.2.2) m (Fb 44) := by rw [← hFc, uN _ _ _ _ (by decide), uN _ _ _ _ (by decide), uS]
      have f45 : Fc 45 = cpI (fun j => (V (j + 1)).2.2.1) m (Fb 45) := by rw [← hFc, uN _ _ _ _ (by decide), uS]
      have f46 : Fc 46 = cpI (fun j => (V (j + 1)).2.2.2.1) m (Fb 46) := by rw [← hFc, uS]
      have cpv : ∀ (g h : Nat → Int32) (k i : Nat), i < k → cpI g k h i = g i := fun g h k i hi => if_pos hi
      refine ⟨nI m, M4, N3, f1, ⟨_, hM4.1⟩, f2.up (by omega), Sim.mk hC4 ((ma.tr mb).tr mc) (hR.keep ((sk 9 (by omega)).trans ((b1 9 (by omega)).trans (a1 9 (by omega)))) (fun i hi => (fk i hi).trans ((b4 i (by omega)).trans (a7 i (by omega)))) ((sk 1 (by omega)).trans ((b1 1 (by omega)).trans a2)) ((sk 15 (by omega)).trans ((b1 15 (by omega)).trans a3)) oY.2.2.2.1 oZ.2.2.2.1 ⟨by omega, s47, x2.trans x3.symm, s23, n24, ?_, ?_, ?_, fun i hi => ?_⟩), mc.2.2.trans (mb.2.2.trans (ma.2.2.trans (v4.trans (v3.trans (v2.trans v1)))))⟩
      · rw [s48, b2, hBr.1]
      · rw [s49, b1 29 (by omega), a6, W3, hBr.2.2.2.2.2.2, Nat.zero_add]
        congr 1
        exact nP_cg _ _ _ (fun j hj => ((W1 _ (Nat.zero_le _) (by omega)).2).symm)
      · rw [s50, b1 16 (by omega), a4, q1]
      · obtain ⟨y1, y2, y3, y4, y5⟩ := pi i hi
        refine line_r (x0 := P i) (x1 := P (i + 1)) (t := i) (V := V i) (V2 := V (i + 1)) hBr T3 htn hI hPc hP2 y3 y4 y5.1 y5.2 (flX_v p0 m i (by omega)) (flX_v p0 m (i + 1) (by omega)) (by rw [← hV]; rfl) ?_ ?_ ?_ ?_ ?_ ?_ ?_ ?_ ?_ (fun k hk => ?_) (fun k hk => ?_) (fun k hk => ?_)
        · rw [f38, cpv _ _ _ _ hi]
        · rw [f39, cpv _ _ _ _ hi, b6]
        · rw [f40, cpv _ _ _ _ hi, b5]
        · rw [f41, cpv _ _ _ _ hi]
        · rw [f42, cpv _ _ _ _ hi]
        · rw [f43, cpv _ _ _ _ hi, w3]
        · rw [f44, cpv _ _ _ _ hi]
        · rw [f45, cpv _ _ _ _ hi]
        · rw [f46, cpv _ _ _ _ hi]
        · rw [f19, cpv _ _ _ _ hk, w17]
        · rw [f20, cpv _ _ _ _ hk, w2, w17, w18]
        · rw [f21, cpv _ _ _ _ hk, w18]
