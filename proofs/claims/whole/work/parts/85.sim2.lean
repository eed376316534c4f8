theorem o_define {G : gG} {M : gM} {p : Nat} (hS : Sim G M p) (x : Int32) : OpI G M p m_PS_define m_Mod_define [.int x] := by
  refine hS.elim ?_
  intro lb db n ln f o cl an sp l ar os md mn mbd wo pp np lv pn psg plv ch tn tc ts dw cc l9 tt nb K E B W ST SH LL DD PP X t0 c0 s0 dw0 cc0 l0 tt0 nb0 K0 E0 B0 W0 ST0 SH0 L0 D0 P0 X0 s c F L hC hM hR
  obtain ⟨hx, hpl, hty, hw, hq, he, hm, hh, hc, hs, ht, hs0, ht0⟩ := id hC
  have hp9 : (lb = p + 90 ∧ db = p + 106) ∨ (lb = p + 106 ∧ db = p + 90) := hpl
  obtain ⟨⟨r1, r2, r3⟩, ⟨r4, gn, r5, r6⟩, rw_, rp, ⟨rb, rl⟩, ⟨rn, r9, rt, ro⟩, rr⟩ := id hR
  by_cases z : x < 0 ∨ 3 < x
  · exact OpI.st hS (e_PS_defineR G M p lb db x hx z) (by omega) (e_Mod_defineR G M (p + 122) (aM (p + 122)) s c x (aM_inj _) hM.1 z) (by omega)
  · rw [not_or] at z
    obtain ⟨j, hj3, rfl⟩ := nI_of2 (x := x) (M := 3) (n := 3) rfl z.1 (Int32.not_lt.mp z.2)
    have hj : j < 4 := by omega
    by_cases w : 24 < n
    · exact OpI.st hS (e_PS_defineF G M p lb db ln n j hx hty.1 hty.2 w r1 hj) (by omega) (e_Mod_defineF G M (p + 122) (aM (p + 122)) s c n j (aM_inj _) hM.1 r2 w r1 hj) (by omega)
    · have hn : n ≤ 24 := by omega
      obtain ⟨k1, k2, k3, k4⟩ := hm j hj
      have e1 := e_PS_define G M p lb db (nI f) (nI o) sp (nI cl) _ _ (mbd j) ln n j hx hty.1 hty.2 he.1 he.2.1 k1 k2 k3 hn hj
      revert e1
      generalize hM1e : gWr (gWr (gWr (gWr M (p + 12 + 3 * j) (.inr (0, [.ref (p + 13 + 3 * j), .int (nI n)]))) (p + 13 + 3 * j) (aI G 24 (cpI ln n (mbd j)))) (p + 11 + 3 * j) (.inr (1, [.ref (p + 12 + 3 * j), .int 1]))) (p + 1) (.inr (0, [.ref (p + 2), .int (nI 0)])) = M1
      intro e1
      have k : ∀ q, ¬ (q = p + 1 ∨ q = p + 11 + 3 * j ∨ q = p + 12 + 3 * j ∨ q = p + 13 + 3 * j) → gRd M1 q = gRd M q := fun q hq => by
        rw [← hM1e]; exact (gRd_n _ _ (by omega)).trans ((gRd_n _ _ (by omega)).trans ((gRd_n _ _ (by omega)).trans (gRd_n _ _ (by omega))))
      have a0 : gRd M1 (p + 1) = some (.inr (0, [.ref (p + 2), .int (nI 0)])) := by rw [← hM1e]; exact gRd_s _ _ _
      have a1 : gRd M1 (p + 11 + 3 * j) = some (.inr (1, [.ref (p + 12 + 3 * j), .int 1])) := by rw [← hM1e]; exact (gRd_n _ _ (by omega)).trans (gRd_s _ _ _)
      have a2 : gRd M1 (p + 13 + 3 * j) = some (aI G 24 (cpI ln n (mbd j))) := by rw [← hM1e]; exact (gRd_n _ _ (by omega)).trans ((gRd_n _ _ (by omega)).trans (gRd_s _ _ _))
      have a3 : gRd M1 (p + 12 + 3 * j) = some (.inr (0, [.ref (p + 13 + 3 * j), .int (nI n)])) := by rw [← hM1e]; exact (gRd_n _ _ (by omega)).trans ((gRd_n _ _ (by omega)).trans ((gRd_n _ _ (by omega)).trans (gRd_s _ _ _)))
      have v0 : M1.2 = M.2 := by rw [← hM1e]; rfl
      have hM1 := hM.fr (fun q hq => k q (by omega))
      obtain ⟨M2, e2, m2⟩ := p_define G _ (p + 122) s c F L n j hM1 r2 hn hj
      have hm' : MacAt G M1 p (fun m => if m = j then true else md m) (fun m => if m = j then n else mn m) (fun m => if m = j then cpI ln n (mbd j) else mbd m) := by
        intro m hm4
        by_cases e : m = j
        · subst e; simp only [if_true]; exact ⟨a1, a3, a2, hn⟩
        · simp only [if_neg e]
          obtain ⟨b1, b2, b3, b4⟩ := hm m hm4
          exact ⟨(k _ (by omega)).trans b1, (k _ (by omega)).trans b2, (k _ (by omega)).trans b3, b4⟩
      refine ⟨0, _, M2, e1.up (by omega), ⟨_, hM1.1⟩, e2.up (by omega), Sim.mk (n := 0) ⟨(show XAt _ p _ _ from (k p (by omega)).trans hx), hpl, ⟨a0, (k _ (by omega)).trans hty.2⟩, (k (p + 3) (by omega)).trans hw, (k (p + 4) (by omega)).trans hq, he.sm (fun q a b => k q (by omega)), hm', hh.sm (fun q a b => k q (by omega)), hc.sm (fun q a b => k q (by omega)), hs.sm (fun q a b => k q (by omega)), ht.sm (fun q a b => k q (by omega)), hs0.sm (fun q a b => k q (by omega)), ht0.sm (fun q a b => k q (by omega))⟩ m2 ⟨⟨by omega, pk_us, fun i hi => absurd hi (by omega)⟩, ⟨r4, gn, r5, (pk_un (by omega)).trans r6⟩, rw_, rp, ⟨fun m hm4 hmd => ?_, fun m hm4 => ?_⟩, ⟨rn, (pk_un (by omega)).trans r9, rt, ro⟩, rr.cg (fun j hj => pk_un (by omega)) (fun j hj => (if_neg (by omega)).trans (if_neg (by omega)))⟩, m2.2.2.trans v0⟩
      · show (if m = j then n else mn m) ≤ 24 ∧ ∀ i, i < (if m = j then n else mn m) → cpO (F 0) (j * 24) n (F 4) (m * 24 + i) = (if m = j then cpI ln n (mbd j) else mbd m) i ∧ cLin ((if m = j then cpI ln n (mbd j) else mbd m) i) = true
        by_cases e : m = j
        · subst e; simp only [if_true]
          refine ⟨hn, fun i hi => ?_⟩
          unfold cpO cpI
          rw [if_pos (by omega), if_pos hi, show m * 24 + i - m * 24 = i from by omega]
          exact r3 i hi
        · simp only [if_neg e] at hmd ⊢
          obtain ⟨b1, b2⟩ := rb m hm4 hmd
          refine ⟨b1, fun i hi => ?_⟩
          unfold cpO
          rw [if_neg (by omega)]; exact b2 i hi
      · show ((if m = j then true else md m) = true → upd (F 5) j (nI n) m = nI (if m = j then n else mn m) ∧ (if m = j then n else mn m) ≤ 24) ∧ ((if m = j then true else md m) = false → ¬ 0 ≤ upd (F 5) j (nI n) m)
        by_cases e : m = j
        · subst e; simp only [if_true, pk_us]
          exact ⟨fun _ => ⟨trivial, hn⟩, fun q => absurd q (by decide)⟩
        · simp only [if_neg e, pk_un e]; exact rl m hm4
theorem rd_cg {g g' : Nat → Int32} : ∀ (r k n : Nat) (sg lv : Nat → Int32) (b : Bool), (∀ i, k ≤ i → i < k + r → g i = g' i) → rdF g r k n sg lv b = rdF g' r k n sg lv b
  | 0, k, n, sg, lv, b, _ => rfl
  | r + 1, k, n, sg, lv, b, h => by
    have e := h k (Nat.le_refl _) (by omega)
    simp only [rdF]
    rw [e, rd_cg r (k + 1) n sg _ true (fun i a b => h i (by omega) (by omega)), rd_cg r (k + 1) (n + 1) _ _ false (fun i a b => h i (by omega) (by omega))]
theorem o_pattern {G : gG} {M : gM} {p : Nat} (hS : Sim G M p) : OpI G M p m_PS_pattern m_Mod_pattern [] := by
  refine hS.elim ?_
  intro lb db n ln f o cl an sp l ar os md mn mbd wo pp np lv pn psg plv ch tn tc ts dw cc l9 tt nb K E B W ST SH LL DD PP X t0 c0 s0 dw0 cc0 l0 tt0 nb0 K0 E0 B0 W0 ST0 SH0 L0 D0 P0 X0 s c F L hC hM hR
  obtain ⟨hx, hpl, hty, hw, hq, he, hm, hh, hc, hs, ht, hs0, ht0⟩ := id hC
  have hp9 : (lb = p + 90 ∧ db = p + 106) ∨ (lb = p + 106 ∧ db = p + 90) := hpl
  obtain ⟨⟨r1, r2, r3⟩, ⟨r4, gn, r5, r6⟩, rw_, rp, ⟨rb, rl⟩, ⟨rn, r9, rt, ro⟩, rr⟩ := id hR
  by_cases z : np = 20
  · exact OpI.st hS (e_PS_patternF G M p lb db np hx hh.1 z) (by omega) (e_Mod_patternF G M (p + 122) (aM (p + 122)) s c (aM_inj _) hM.1 (by rw [r9, z]; rfl)) (by omega)
  have hnp : np < 20 := by omega
  obtain ⟨k1, k2, k3⟩ := hh.2.2.2 np hnp
  have cg : rdF ln n 0 0 (psg np) (upd (plv np) 0 0) false = rdF (F 0) n 0 0 (psg np) (upd (plv np) 0 0) false := rd_cg n 0 0 _ _ false (fun i _ hi => (r3 i (by omega)).1.symm)
  have R := rd_pat (g := F 0) (sg0 := psg np) (lv0 := plv np) (sg' := F 6) (lv' := F 7) (np := np) (m := n)
  rw [← cg] at R
  cases q : patF (F 0) n with
  | none =>
    have e1 := e_PS_patternS G M p lb db np n _ (psg np) (plv np) ln hx hty.1 hty.2 hh.1 hh.2.1 k1 k2 k3 hnp r1 (R.1 q)
    revert e1
    generalize rdF ln n 0 0 (psg np) (upd (plv np) 0 0) false = RD
    intro e1
    revert e1
    generalize hM1e : gWr (gWr (gWr M (p + 26 + 3 * np) (.inr (4, [.ref (p + 27 + 3 * np), .ref (p + 28 + 3 * np), .int (nI RD.2.1)]))) (p + 28 + 3 * np) (aI G 6 (RD.2.2.2))) (p + 27 + 3 * np) (aI G 5 (RD.2.2.1)) = M1
    intro e1
    have k : ∀ q, ¬ (q = p + 26 + 3 * np ∨ q = p + 27 + 3 * np ∨ q = p + 28 + 3 * np) → gRd M1 q = gRd M q := fun q hq => by
      rw [← hM1e]; exact (gRd_n _ _ (by omega)).trans ((gRd_n _ _ (by omega)).trans (gRd_n _ _ (by omega)))
    have a1 : gRd M1 (p + 27 + 3 * np) = some (aI G 5 (RD.2.2.1)) := by rw [← hM1e]; exact gRd_s _ _ _
    have a2 : gRd M1 (p + 28 + 3 * np) = some (aI G 6 (RD.2.2.2)) := by rw [← hM1e]; exact (gRd_n _ _ (by omega)).trans (gRd_s _ _ _)
    have a3 : gRd M1 (p + 26 + 3 * np) = some (.inr (4, [.ref (p + 27 + 3 * np), .ref (p + 28 + 3 * np), .int (nI RD.2.1)])) := by rw [← hM1e]; exact (gRd_n _ _ (by omega)).trans ((gRd_n _ _ (by omega)).trans (gRd_s _ _ _))
    have v0 : M1.2 = M.2 := by rw [← hM1e]; rfl
    have hM1 := hM.fr (fun q hq => k q (by omega))
    have hh' : HypAt G M1 p np lv (fun i => if i = np then RD.2.1 else pn i) (fun i => if i = np then RD.2.2.1 else psg i) (fun i => if i = np then RD.2.2.2 else plv i) := by
      refine ⟨(k _ (by omega)).trans hh.1, (k _ (by omega)).trans hh.2.1, (k _ (by omega)).trans hh.2.2.1, fun i hi => ?_⟩
      by_cases e : i = np
      · subst e; simp only [if_true]; exact ⟨a3, a1, a2⟩
      · simp only [if_neg e]
        obtain ⟨b1, b2, b3⟩ := hh.2.2.2 i hi
        exact ⟨(k _ (by omega)).trans b1, (k _ (by omega)).trans b2, (k _ (by omega)).trans b3⟩
    have e2 := e_Mod_patternS G M1 (p + 122) (aM (p + 122)) s c (F 0) n (aM_inj _) hM1.1 (hM1.2.1 0 rfl) r2 r1 np r9 hnp q
    refine ⟨-3, M1, M1, e1.up (by omega), ⟨_, hM1.1⟩, e2.up (by omega), Sim.mk ⟨(show XAt _ p _ _ from (k p (by omega)).trans hx), hpl, hty.sm (fun q a b => k q (by omega)), (k (p + 3) (by omega)).trans hw, (k (p + 4) (by omega)).trans hq, he.sm (fun q a b => k q (by omega)), hm.sm (fun q a b => k q (by omega)), hh', hc.sm (fun q a b => k q (by omega)), hs.sm (fun q a b => k q (by omega)), ht.sm (fun q a b => k q (by omega)), hs0.sm (fun q a b => k q (by omega)), ht0.sm (fun q a b => k q (by omega))⟩ (MS.rf hM1) ⟨⟨r1, r2, r3⟩, ⟨r4, gn, r5, r6⟩, rw_, rp, ⟨rb, rl⟩, ⟨rn, r9, fun i hi => ?_, ro.1, fun i hi => ?_⟩, rr⟩, v0⟩
    · simp only [if_neg (show ¬ i = np by omega)]; exact rt i hi
    · simp only [if_neg (show ¬ i = np by omega)]; exact ro.2 i hi
  | some n0 =>
    obtain ⟨u1, u2, u3, u4, u5⟩ := R.2 n0 q
    have e1 := e_PS_pattern G M p lb db np n _ (psg np) (plv np) ln hx hty.1 hty.2 hh.1 hh.2.1 k1 k2 k3 hnp r1 u1
    revert e1 u2 u5
    generalize rdF ln n 0 0 (psg np) (upd (plv np) 0 0) false = RD
    intro u2 u5 e1
    revert e1
    generalize hM1e : gWr (gWr (gWr (gWr (gWr M (p + 26 + 3 * np) (.inr (4, [.ref (p + 27 + 3 * np), .ref (p + 28 + 3 * np), .int (nI RD.2.1)]))) (p + 28 + 3 * np) (aI G 6 (RD.2.2.2))) (p + 27 + 3 * np) (aI G 5 (RD.2.2.1))) (p + 23) (.inr (5, [.ref (p + 24), .int (nI (np + 1)), .ref (p + 25)]))) (p + 1) (.inr (0, [.ref (p + 2), .int (nI 0)])) = M1
    intro e1
    have k : ∀ q, ¬ (q = p + 1 ∨ q = p + 23 ∨ q = p + 26 + 3 * np ∨ q = p + 27 + 3 * np ∨ q = p + 28 + 3 * np) → gRd M1 q = gRd M q := fun q hq => by
      rw [← hM1e]; exact (gRd_n _ _ (by omega)).trans ((gRd_n _ _ (by omega)).trans ((gRd_n _ _ (by omega)).trans ((gRd_n _ _ (by omega)).trans (gRd_n _ _ (by omega)))))
    have a0 : gRd M1 (p + 1) = some (.inr (0, [.ref (p + 2), .int (nI 0)])) := by rw [← hM1e]; exact gRd_s _ _ _
    have a4 : gRd M1 (p + 23) = some (.inr (5, [.ref (p + 24), .int (nI (np + 1)), .ref (p + 25)])) := by rw [← hM1e]; exact (gRd_n _ _ (by omega)).trans (gRd_s _ _ _)
    have a1 : gRd M1 (p + 27 + 3 * np) = some (aI G 5 (RD.2.2.1)) := by rw [← hM1e]; exact (gRd_n _ _ (by omega)).trans ((gRd_n _ _ (by omega)).trans (gRd_s _ _ _))
    have a2 : gRd M1 (p + 28 + 3 * np) = some (aI G 6 (RD.2.2.2)) := by rw [← hM1e]; exact (gRd_n _ _ (by omega)).trans ((gRd_n _ _ (by omega)).trans ((gRd_n _ _ (by omega)).trans (gRd_s _ _ _)))
    have a3 : gRd M1 (p + 26 + 3 * np) = some (.inr (4, [.ref (p + 27 + 3 * np), .ref (p + 28 + 3 * np), .int (nI RD.2.1)])) := by rw [← hM1e]; exact (gRd_n _ _ (by omega)).trans ((gRd_n _ _ (by omega)).trans ((gRd_n _ _ (by omega)).trans ((gRd_n _ _ (by omega)).trans (gRd_s _ _ _))))
    have v0 : M1.2 = M.2 := by rw [← hM1e]; rfl
    have hM1 := hM.fr (fun q hq => k q (by omega))
    have hh' : HypAt G M1 p (np + 1) lv (fun i => if i = np then RD.2.1 else pn i) (fun i => if i = np then RD.2.2.1 else psg i) (fun i => if i = np then RD.2.2.2 else plv i) := by
      refine ⟨a4, (k _ (by omega)).trans hh.2.1, (k _ (by omega)).trans hh.2.2.1, fun i hi => ?_⟩
      by_cases e : i = np
      · subst e; simp only [if_true]; exact ⟨a3, a1, a2⟩
      · simp only [if_neg e]
        obtain ⟨b1, b2, b3⟩ := hh.2.2.2 i hi
        exact ⟨(k _ (by omega)).trans b1, (k _ (by omega)).trans b2, (k _ (by omega)).trans b3⟩
    obtain ⟨M2, e2, m2⟩ := p_pattern G M1 (p + 122) s c F L n np n0 hM1 r2 r1 r9 hnp q
    have po := p4_o (g := F 0) (np := np) n 0 0 (cpO (fun _ => 0) (np * 6) 6 (F 7)) (F 6) (pat_nz q)
    revert m2 u5 po
    generalize p4F (F 0) np n 0 0 (cpO (fun _ => 0) (np * 6) 6 (F 7)) (F 6) = PF
    intro u5 m2 po
    refine ⟨nI (np + 1), M1, M2, e1.up (by omega), ⟨_, hM1.1⟩, e2.up (by omega), Sim.mk (n := 0) (np := np + 1) ⟨(show XAt _ p _ _ from (k p (by omega)).trans hx), hpl, ⟨a0, (k _ (by omega)).trans hty.2⟩, (k (p + 3) (by omega)).trans hw, (k (p + 4) (by omega)).trans hq, he.sm (fun q a b => k q (by omega)), hm.sm (fun q a b => k q (by omega)), hh', hc.sm (fun q a b => k q (by omega)), hs.sm (fun q a b => k q (by omega)), ht.sm (fun q a b => k q (by omega)), hs0.sm (fun q a b => k q (by omega)), ht0.sm (fun q a b => k q (by omega))⟩ m2 ⟨⟨by omega, (pk_un (by omega)).trans pk_us, fun i hi => absurd hi (by omega)⟩, ⟨r4, gn, r5, (pk_un (by omega)).trans ((pk_un (by omega)).trans r6)⟩, rw_, rp, ⟨rb, rl⟩, ⟨by omega, pk_us, fun i hi => ?_, by omega, fun i hi => ?_⟩, rr.cg (fun j hj => (pk_un (by omega)).trans (pk_un (by omega))) (fun j hj => (if_neg (by omega)).trans ((if_neg (by omega)).trans (if_neg (by omega))))⟩, m2.2.2.trans v0⟩
    · show 1 ≤ (if i = np then RD.2.1 else pn i) ∧ (if i = np then RD.2.1 else pn i) ≤ 5 ∧ (∀ k, k < (if i = np then RD.2.1 else pn i) → PF.2 (i * 5 + k) = (if i = np then RD.2.2.1 else psg i) k) ∧ ∀ k, k ≤ (if i = np then RD.2.1 else pn i) → PF.1 (i * 6 + k) = (if i = np then RD.2.2.2 else plv i) k ∧ sp9 ((if i = np then RD.2.2.2 else plv i) k)
      by_cases e : i = np
      · subst e; simp only [if_true]
        rw [u2]; exact ⟨u3, u4, u5.1, u5.2.1⟩
      · simp only [if_neg e]
        obtain ⟨b1, b2, b3, b4⟩ := rt i (by omega)
        refine ⟨b1, b2, fun k hk => by rw [po.2 _ (by omega)]; exact b3 k hk, fun k hk => ?_⟩
        rw [po.1 _ (by omega)]
        have e9 : cpO (fun _ => 0) (np * 6) 6 (F 7) (i * 6 + k) = F 7 (i * 6 + k) := if_neg (by omega)
        rw [e9]; exact b4 k hk
    · show upd (F 8) np (nI n0) i = nI (if i = np then RD.2.1 else pn i) ∧ 1 ≤ (if i = np then RD.2.1 else pn i) ∧ (if i = np then RD.2.1 else pn i) ≤ 5
      by_cases e : i = np
      · subst e; simp only [if_true, pk_us]; rw [u2]; exact ⟨rfl, u3, u4⟩
      · simp only [if_neg e, pk_un e]; exact ro.2 i (by omega)
