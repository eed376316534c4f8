theorem LineR.cg {dw : Int32} {K E B W ST SH L DD PP X C : Nat → Int32} {F F' : Nat → Nat → Int32} {i : Nat} (h : LineR dw K E B W ST SH L DD PP X C F i) (e : ∀ j, j = 19 ∨ j = 20 ∨ j = 21 ∨ (38 ≤ j ∧ j ≤ 46) → F' j = F j) : LineR dw K E B W ST SH L DD PP X C F' i := by
  unfold LineR
  rw [e 19 (by omega), e 20 (by omega), e 21 (by omega), e 38 (by omega), e 39 (by omega), e 40 (by omega), e 41 (by omega), e 42 (by omega), e 43 (by omega), e 44 (by omega), e 45 (by omega), e 46 (by omega)]
  exact h
def ResR (tn : Nat) (tc : Nat → Int32) (dw cc : Int32) (l9 : Nat) (tt : Int64) (nb : Nat) (K E B W ST SH LL DD PP X : Nat → Int32) (s : Nat → Int32) (c : Int64) (F : Nat → Nat → Int32) : Prop := l9 ≤ 24 ∧ s 47 = nI l9 ∧ tt = c ∧ s 23 = nI tn ∧ nb ≤ 24 ∧ s 48 = nI nb ∧ s 49 = nI (cnt2 K nb) ∧ s 50 = cc ∧ ∀ i, i < l9 → LineR dw K E B W ST SH LL DD PP X tc F i
theorem ResR.cg {tn : Nat} {tc : Nat → Int32} {dw cc : Int32} {l9 : Nat} {tt : Int64} {nb : Nat} {K E B W ST SH LL DD PP X : Nat → Int32} {s s' : Nat → Int32} {c : Int64} {F F' : Nat → Nat → Int32} (h : ResR tn tc dw cc l9 tt nb K E B W ST SH LL DD PP X s c F) (e1 : ∀ j, j = 23 ∨ (47 ≤ j ∧ j ≤ 50) → s' j = s j) (e : ∀ j, j = 19 ∨ j = 20 ∨ j = 21 ∨ (38 ≤ j ∧ j ≤ 46) → F' j = F j) : ResR tn tc dw cc l9 tt nb K E B W ST SH LL DD PP X s' c F' :=
  ⟨h.1, (e1 47 (by omega)).trans h.2.1, h.2.2.1, (e1 23 (by omega)).trans h.2.2.2.1, h.2.2.2.2.1, (e1 48 (by omega)).trans h.2.2.2.2.2.1, (e1 49 (by omega)).trans h.2.2.2.2.2.2.1, (e1 50 (by omega)).trans h.2.2.2.2.2.2.2.1, fun i hi => (h.2.2.2.2.2.2.2.2 i hi).cg e⟩
def WdR (wo wt : Nat → Int32) : Prop := ∀ x, cWid x = true → wt x.toNatClampNeg = wo (wIx x).toNatClampNeg ∧ 1 ≤ wt x.toNatClampNeg ∧ wt x.toNatClampNeg ≤ 20
def PrB (pp pm : Nat → Int32) : Prop := ∃ P0 P1 A2 A3 A4 : Nat, PrR pp P0 P1 A2 A3 A4 ∧ PrR pm P0 P1 A2 A3 A4
def Rel (n : Nat) (ln : Nat → Int32) (an : Nat) (md : Nat → Bool) (mn : Nat → Nat) (mbd : Nat → Nat → Int32) (wo pp : Nat → Int32) (np : Nat) (pn : Nat → Nat) (psg plv : Nat → Nat → Int32) (tn : Nat) (tc : Nat → Int32) (dw cc : Int32) (l9 : Nat) (tt : Int64) (nb : Nat) (K E B W ST SH LL DD PP X : Nat → Int32) (s : Nat → Int32) (c : Int64) (F : Nat → Nat → Int32) : Prop := (n ≤ 60 ∧ s 1 = nI n ∧ ∀ i, i < n → F 0 i = ln i ∧ cLin (ln i) = true) ∧ (an ≤ 200 ∧ ∃ g, g ≤ 200 ∧ s 15 = nI g) ∧ WdR wo (F 2) ∧ PrB pp (F 3) ∧ (BoR md mbd mn (F 4) ∧ BodOk (F 5) md mn) ∧ (np ≤ 20 ∧ s 9 = nI np ∧ PtR np pn psg plv (F 6) (F 7) ∧ PatOk np (F 8) pn) ∧ ResR tn tc dw cc l9 tt nb K E B W ST SH LL DD PP X s c F
def ClsAt (G : gG) (M : gM) (p : Nat) (lb db n : Nat) (ln : Nat → Int32) (f o cl an : Nat) (sp : Int32) (l ar os : Nat → Int32) (md : Nat → Bool) (mn : Nat → Nat) (mbd : Nat → Nat → Int32) (wo pp : Nat → Int32) (np : Nat) (lv : Nat → Int32) (pn : Nat → Nat) (psg plv : Nat → Nat → Int32) (ch : cS) (tn : Nat) (tc ts : Nat → Int32) (dw cc : Int32) (l9 : Nat) (tt : Int64) (nb : Nat) (K E B W ST SH LL DD PP X : Nat → Int32) (t0 : Nat) (c0 s0 : Nat → Int32) (dw0 cc0 l0 : Int32) (tt0 : Int64) (nb0 : Int32) (K0 E0 B0 W0 ST0 SH0 L0 D0 P0 X0 : Nat → Int32) : Prop := XAt M p lb db ∧ Pla p lb db ∧ TypAt G M p ln n ∧ gRd M (p + 3) = some (aI G 27 wo) ∧ gRd M (p + 4) = some (aI G 5 pp) ∧ ExpAt G M p f o cl an sp l ar os ∧ MacAt G M p md mn mbd ∧ HypAt G M p np lv pn psg plv ∧ ChoAt G M p ch ∧ StgAt G M (sA lb) dw cc (nI l9) tt (nI nb) K E B W ST SH LL DD PP X ∧ TxtAt G M lb tn tc ts ∧ StgAt G M (sA db) dw0 cc0 l0 tt0 nb0 K0 E0 B0 W0 ST0 SH0 L0 D0 P0 X0 ∧ TxtAt G M db t0 c0 s0
def Sim (G : gG) (M : gM) (p : Nat) : Prop := ∃ (lb db n : Nat) (ln : Nat → Int32) (f o cl an : Nat) (sp : Int32) (l ar os : Nat → Int32) (md : Nat → Bool) (mn : Nat → Nat) (mbd : Nat → Nat → Int32) (wo pp : Nat → Int32) (np : Nat) (lv : Nat → Int32) (pn : Nat → Nat) (psg plv : Nat → Nat → Int32) (ch : cS) (tn : Nat) (tc ts : Nat → Int32) (dw cc : Int32) (l9 : Nat) (tt : Int64) (nb : Nat) (K E B W ST SH LL DD PP X : Nat → Int32) (t0 : Nat) (c0 s0 : Nat → Int32) (dw0 cc0 l0 : Int32) (tt0 : Int64) (nb0 : Int32) (K0 E0 B0 W0 ST0 SH0 L0 D0 P0 X0 : Nat → Int32) (s : Nat → Int32) (c : Int64) (F : Nat → Nat → Int32) (L : Nat → Int64), ClsAt G M p lb db n ln f o cl an sp l ar os md mn mbd wo pp np lv pn psg plv ch tn tc ts dw cc l9 tt nb K E B W ST SH LL DD PP X t0 c0 s0 dw0 cc0 l0 tt0 nb0 K0 E0 B0 W0 ST0 SH0 L0 D0 P0 X0 ∧ ModAt G M (p + 122) s c F L ∧ Rel n ln an md mn mbd wo pp np pn psg plv tn tc dw cc l9 tt nb K E B W ST SH LL DD PP X s c F
theorem ClsAt.fr {G : gG} {M M2 : gM} {p : Nat} {lb db n : Nat} {ln : Nat → Int32} {f o cl an : Nat} {sp : Int32} {l ar os : Nat → Int32} {md : Nat → Bool} {mn : Nat → Nat} {mbd : Nat → Nat → Int32} {wo pp : Nat → Int32} {np : Nat} {lv : Nat → Int32} {pn : Nat → Nat} {psg plv : Nat → Nat → Int32} {ch : cS} {tn : Nat} {tc ts : Nat → Int32} {dw cc : Int32} {l9 : Nat} {tt : Int64} {nb : Nat} {K E B W ST SH LL DD PP X : Nat → Int32} {t0 : Nat} {c0 s0 : Nat → Int32} {dw0 cc0 l0 : Int32} {tt0 : Int64} {nb0 : Int32} {K0 E0 B0 W0 ST0 SH0 L0 D0 P0 X0 : Nat → Int32} (hC : ClsAt G M p lb db n ln f o cl an sp l ar os md mn mbd wo pp np lv pn psg plv ch tn tc ts dw cc l9 tt nb K E B W ST SH LL DD PP X t0 c0 s0 dw0 cc0 l0 tt0 nb0 K0 E0 B0 W0 ST0 SH0 L0 D0 P0 X0) (k : ∀ q, p ≤ q ∧ q < p + 122 → gRd M2 q = gRd M q) : ClsAt G M2 p lb db n ln f o cl an sp l ar os md mn mbd wo pp np lv pn psg plv ch tn tc ts dw cc l9 tt nb K E B W ST SH LL DD PP X t0 c0 s0 dw0 cc0 l0 tt0 nb0 K0 E0 B0 W0 ST0 SH0 L0 D0 P0 X0 := by
  obtain ⟨hx, hpl, hty, hw, hq, he, hm, hh, hc, hs, ht, hs0, ht0⟩ := hC
  have hp9 : (lb = p + 90 ∧ db = p + 106) ∨ (lb = p + 106 ∧ db = p + 90) := hpl
  exact ⟨(show XAt _ p _ _ from (k p (by omega)).trans hx), hpl, hty.sm (fun q a b => k q (by omega)), (k (p + 3) (by omega)).trans hw, (k (p + 4) (by omega)).trans hq, he.sm (fun q a b => k q (by omega)), hm.sm (fun q a b => k q (by omega)), hh.sm (fun q a b => k q (by omega)), hc.sm (fun q a b => k q (by omega)), hs.sm (fun q a b => k q (by omega)), ht.sm (fun q a b => k q (by omega)), hs0.sm (fun q a b => k q (by omega)), ht0.sm (fun q a b => k q (by omega))⟩
theorem ModAt.fr {G : gG} {M M1 : gM} {A : Nat} {s : Nat → Int32} {c : Int64} {F : Nat → Nat → Int32} {L : Nat → Int64} (h : ModAt G M A s c F L) (k : ∀ q, A ≤ q ∧ q < A + 34 → gRd M1 q = gRd M q) : ModAt G M1 A s c F L := by
  refine ⟨(k A (by omega)).trans h.1, fun i hi => (k _ ?_).trans (h.2.1 i hi), (k _ ?_).trans h.2.2.1, (k _ ?_).trans h.2.2.2⟩
  · have := mK_lt (i := i) (by simp [mK, hi]); unfold aM; omega
  · have := mK_lt (i := 24) rfl; unfold aM; omega
  · have := mK_lt (i := 30) rfl; unfold aM; omega
theorem Sim.mk {G : gG} {M1 M2 : gM} {p : Nat} {lb db n : Nat} {ln : Nat → Int32} {f o cl an : Nat} {sp : Int32} {l ar os : Nat → Int32} {md : Nat → Bool} {mn : Nat → Nat} {mbd : Nat → Nat → Int32} {wo pp : Nat → Int32} {np : Nat} {lv : Nat → Int32} {pn : Nat → Nat} {psg plv : Nat → Nat → Int32} {ch : cS} {tn : Nat} {tc ts : Nat → Int32} {dw cc : Int32} {l9 : Nat} {tt : Int64} {nb : Nat} {K E B W ST SH LL DD PP X : Nat → Int32} {t0 : Nat} {c0 s0 : Nat → Int32} {dw0 cc0 l0 : Int32} {tt0 : Int64} {nb0 : Int32} {K0 E0 B0 W0 ST0 SH0 L0 D0 P0 X0 : Nat → Int32} {s : Nat → Int32} {c : Int64} {F : Nat → Nat → Int32} {L : Nat → Int64} (hC : ClsAt G M1 p lb db n ln f o cl an sp l ar os md mn mbd wo pp np lv pn psg plv ch tn tc ts dw cc l9 tt nb K E B W ST SH LL DD PP X t0 c0 s0 dw0 cc0 l0 tt0 nb0 K0 E0 B0 W0 ST0 SH0 L0 D0 P0 X0) (hM : MS G M1 M2 (p + 122) s c F L) (hR : Rel n ln an md mn mbd wo pp np pn psg plv tn tc dw cc l9 tt nb K E B W ST SH LL DD PP X s c F) : Sim G M2 p :=
  ⟨lb, db, n, ln, f, o, cl, an, sp, l, ar, os, md, mn, mbd, wo, pp, np, lv, pn, psg, plv, ch, tn, tc, ts, dw, cc, l9, tt, nb, K, E, B, W, ST, SH, LL, DD, PP, X, t0, c0, s0, dw0, cc0, l0, tt0, nb0, K0, E0, B0, W0, ST0, SH0, L0, D0, P0, X0, s, c, F, L, hC.fr (fun q hq => hM.2.1 q (by omega)), hM.1, hR⟩
theorem Sim.elim {G : gG} {M : gM} {p : Nat} {Q : Prop} (h : Sim G M p) (k : ∀ (lb db n : Nat) (ln : Nat → Int32) (f o cl an : Nat) (sp : Int32) (l ar os : Nat → Int32) (md : Nat → Bool) (mn : Nat → Nat) (mbd : Nat → Nat → Int32) (wo pp : Nat → Int32) (np : Nat) (lv : Nat → Int32) (pn : Nat → Nat) (psg plv : Nat → Nat → Int32) (ch : cS) (tn : Nat) (tc ts : Nat → Int32) (dw cc : Int32) (l9 : Nat) (tt : Int64) (nb : Nat) (K E B W ST SH LL DD PP X : Nat → Int32) (t0 : Nat) (c0 s0 : Nat → Int32) (dw0 cc0 l0 : Int32) (tt0 : Int64) (nb0 : Int32) (K0 E0 B0 W0 ST0 SH0 L0 D0 P0 X0 : Nat → Int32) (s : Nat → Int32) (c : Int64) (F : Nat → Nat → Int32) (L : Nat → Int64), ClsAt G M p lb db n ln f o cl an sp l ar os md mn mbd wo pp np lv pn psg plv ch tn tc ts dw cc l9 tt nb K E B W ST SH LL DD PP X t0 c0 s0 dw0 cc0 l0 tt0 nb0 K0 E0 B0 W0 ST0 SH0 L0 D0 P0 X0 → ModAt G M (p + 122) s c F L → Rel n ln an md mn mbd wo pp np pn psg plv tn tc dw cc l9 tt nb K E B W ST SH LL DD PP X s c F → Q) : Q := by
  obtain ⟨lb, db, n, ln, f, o, cl, an, sp, l, ar, os, md, mn, mbd, wo, pp, np, lv, pn, psg, plv, ch, tn, tc, ts, dw, cc, l9, tt, nb, K, E, B, W, ST, SH, LL, DD, PP, X, t0, c0, s0, dw0, cc0, l0, tt0, nb0, K0, E0, B0, W0, ST0, SH0, L0, D0, P0, X0, s, c, F, L, hC, hM, hR⟩ := h
  exact k lb db n ln f o cl an sp l ar os md mn mbd wo pp np lv pn psg plv ch tn tc ts dw cc l9 tt nb K E B W ST SH LL DD PP X t0 c0 s0 dw0 cc0 l0 tt0 nb0 K0 E0 B0 W0 ST0 SH0 L0 D0 P0 X0 s c F L hC hM hR
/-- class and model answer the same int, and stay alike -/
def OpI (G : gG) (M : gM) (p : Nat) (k1 k2 : gY) (av : List Value) : Prop := ∃ (r : Int32) (M1 M2 : gM), Ev G 6 k1 (.ref p :: av) M (some (.int r)) M1 ∧ (∃ fs, gRd M1 (p + 122) = some (.inr (11, fs))) ∧ Ev G 6 k2 (.ref (p + 122) :: av) M1 (some (.int r)) M2 ∧ Sim G M2 p ∧ M2.2 = M.2
theorem OpI.st {G : gG} {M : gM} {p : Nat} {k1 k2 : gY} {av : List Value} {r : Int32} {d1 d2 : Nat} (hS : Sim G M p) (h1 : Ev G d1 k1 (.ref p :: av) M (some (.int r)) M) (b1 : d1 ≤ 6) (h2 : Ev G d2 k2 (.ref (p + 122) :: av) M (some (.int r)) M) (b2 : d2 ≤ 6) : OpI G M p k1 k2 av := by
  refine hS.elim ?_
  intro lb db n ln f o cl an sp l ar os md mn mbd wo pp np lv pn psg plv ch tn tc ts dw cc l9 tt nb K E B W ST SH LL DD PP X t0 c0 s0 dw0 cc0 l0 tt0 nb0 K0 E0 B0 W0 ST0 SH0 L0 D0 P0 X0 s c F L hC hM hR
  exact ⟨r, M, M, h1.up b1, ⟨_, hM.1⟩, h2.up b2, hS, rfl⟩
theorem o_type {G : gG} {M : gM} {p : Nat} (hS : Sim G M p) (x : Int32) : OpI G M p m_PS_type m_Mod_type [.int x] := by
  refine hS.elim ?_
  intro lb db n ln f o cl an sp l ar os md mn mbd wo pp np lv pn psg plv ch tn tc ts dw cc l9 tt nb K E B W ST SH LL DD PP X t0 c0 s0 dw0 cc0 l0 tt0 nb0 K0 E0 B0 W0 ST0 SH0 L0 D0 P0 X0 s c F L hC hM hR
  obtain ⟨hx, hpl, hty, hw, hq, he, hm, hh, hc, hs, ht, hs0, ht0⟩ := id hC
  have hp9 : (lb = p + 90 ∧ db = p + 106) ∨ (lb = p + 106 ∧ db = p + 90) := hpl
  obtain ⟨⟨r1, r2, r3⟩, ⟨r4, gn, r5, r6⟩, rw_, rp, ⟨rb, rl⟩, ⟨rn, r9, rt, ro⟩, rr⟩ := id hR
  cases q : cLin x with
  | false => exact OpI.st hS (e_PS_typeR G M p lb db x hx q) (by omega) (e_Mod_typeR G M (p + 122) (aM (p + 122)) s c x (aM_inj _) hM.1 q) (by omega)
  | true =>
    by_cases z : n = 60
    · exact OpI.st hS (e_PS_typeF G M p lb db ln n x hx hty.1 hty.2 q z r1) (by omega) (e_Mod_typeF G M (p + 122) (aM (p + 122)) s c x (aM_inj _) hM.1 q (by rw [r2, z]; rfl)) (by omega)
    · have e1 := e_PS_type G M p lb db ln n x hx hty.1 hty.2 q (by omega)
      have k : ∀ q, ¬ (q = p + 1 ∨ q = p + 2) → gRd (gWr (gWr M (p + 2) (aI G 60 (upd ln n x))) (p + 1) (.inr (0, [.ref (p + 2), .int (nI (n + 1))]))) q = gRd M q := fun q hq => (gRd_n _ _ (by omega)).trans (gRd_n _ _ (by omega))
      have hM1 := hM.fr (fun q hq => k q (by omega))
      obtain ⟨M2, e2, m2⟩ := p_type G _ (p + 122) s c F L n x hM1 q r2 (by omega)
      refine ⟨nI (n + 1), _, M2, e1.up (by omega), ⟨_, hM1.1⟩, e2.up (by omega), Sim.mk (ln := upd ln n x) (n := n + 1) ⟨(show XAt _ p _ _ from (k p (by omega)).trans hx), hpl, ⟨gRd_s _ _ _, (gRd_n _ _ (by omega)).trans (gRd_s _ _ _)⟩, (k (p + 3) (by omega)).trans hw, (k (p + 4) (by omega)).trans hq, he.sm (fun q a b => k q (by omega)), hm.sm (fun q a b => k q (by omega)), hh.sm (fun q a b => k q (by omega)), hc.sm (fun q a b => k q (by omega)), hs.sm (fun q a b => k q (by omega)), ht.sm (fun q a b => k q (by omega)), hs0.sm (fun q a b => k q (by omega)), ht0.sm (fun q a b => k q (by omega))⟩ m2 ⟨⟨by omega, pk_us, fun i hi => ?_⟩, ⟨r4, gn, r5, (pk_un (by omega)).trans r6⟩, rw_, rp, ⟨rb, rl⟩, ⟨rn, (pk_un (by omega)).trans r9, rt, ro⟩, rr.cg (fun j hj => pk_un (by omega)) (fun j hj => if_neg (by omega))⟩, m2.2.2⟩
      show upd (F 0) n x i = upd ln n x i ∧ cLin (upd ln n x i) = true
      by_cases e : i = n
      · subst e; rw [pk_us, pk_us]; exact ⟨rfl, q⟩
      · rw [pk_un e, pk_un e]; exact r3 i (by omega)
theorem o_wipe {G : gG} {M : gM} {p : Nat} (hS : Sim G M p) : OpI G M p m_PS_wipe m_Mod_wipe [] := by
  refine hS.elim ?_
  intro lb db n ln f o cl an sp l ar os md mn mbd wo pp np lv pn psg plv ch tn tc ts dw cc l9 tt nb K E B W ST SH LL DD PP X t0 c0 s0 dw0 cc0 l0 tt0 nb0 K0 E0 B0 W0 ST0 SH0 L0 D0 P0 X0 s c F L hC hM hR
  obtain ⟨hx, hpl, hty, hw, hq, he, hm, hh, hc, hs, ht, hs0, ht0⟩ := id hC
  have hp9 : (lb = p + 90 ∧ db = p + 106) ∨ (lb = p + 106 ∧ db = p + 90) := hpl
  obtain ⟨⟨r1, r2, r3⟩, ⟨r4, gn, r5, r6⟩, rw_, rp, ⟨rb, rl⟩, ⟨rn, r9, rt, ro⟩, rr⟩ := id hR
  have e1 := e_PS_wipe G M p lb db ln n hx hty.1 hty.2
  have k : ∀ q, ¬ q = p + 1 → gRd (gWr M (p + 1) (.inr (0, [.ref (p + 2), .int (nI 0)]))) q = gRd M q := fun q hq => gRd_n _ _ hq
  have hM1 := hM.fr (fun q hq => k q (by omega))
  obtain ⟨M2, e2, m2⟩ := p_wipe G _ (p + 122) s c F L hM1
  exact ⟨0, _, M2, e1.up (by omega), ⟨_, hM1.1⟩, e2.up (by omega), Sim.mk (ln := ln) (n := 0) ⟨(show XAt _ p _ _ from (k p (by omega)).trans hx), hpl, ⟨gRd_s _ _ _, (k _ (by omega)).trans hty.2⟩, (k (p + 3) (by omega)).trans hw, (k (p + 4) (by omega)).trans hq, he.sm (fun q a b => k q (by omega)), hm.sm (fun q a b => k q (by omega)), hh.sm (fun q a b => k q (by omega)), hc.sm (fun q a b => k q (by omega)), hs.sm (fun q a b => k q (by omega)), ht.sm (fun q a b => k q (by omega)), hs0.sm (fun q a b => k q (by omega)), ht0.sm (fun q a b => k q (by omega))⟩ m2 ⟨⟨by omega, pk_us, fun i hi => absurd hi (by omega)⟩, ⟨r4, gn, r5, (pk_un (by omega)).trans r6⟩, rw_, rp, ⟨rb, rl⟩, ⟨rn, (pk_un (by omega)).trans r9, rt, ro⟩, rr.cg (fun j hj => pk_un (by omega)) (fun j hj => rfl)⟩, m2.2.2⟩
theorem wIx_l2 {x : Int32} (h : cWid x = true) : (wIx x).toNatClampNeg < 27 ∧ x.toNatClampNeg < 128 ∧ x = nI x.toNatClampNeg := by
  have hi : cItm x = true := by unfold cItm; rw [h]; rfl
  have v := itm_v hi
  refine ⟨?_, v.2, v.1⟩
  unfold wIx
  by_cases q : cLet x = true
  · rw [if_pos q]
    simp only [cLet, Bool.and_eq_true, decide_eq_true_eq] at q
    obtain ⟨j, hj, rfl⟩ := nI_of2 (x := x) (M := 122) (n := 122) rfl (Int32.not_lt.mpr (Int32.le_trans (by decide) q.1)) q.2
    have h1 := (nI_leI (a := 97) (b := j) (by decide) (by omega)).mp q.1
    rw [show (97 : Int32) = nI 97 from rfl, nI_sub_ge h1, nI_clamp (by omega)]; omega
  · rw [if_neg q]; decide
theorem wIx_inj {x y : Int32} (hx : cWid x = true) (hy : cWid y = true) (h : (wIx x).toNatClampNeg = (wIx y).toNatClampNeg) : x = y := by
  have key : ∀ z : Int32, cWid z = true → (cLet z = true ∧ ∃ j, z = nI j ∧ 97 ≤ j ∧ j ≤ 122 ∧ (wIx z).toNatClampNeg = j - 97) ∨ (z = 45 ∧ (wIx z).toNatClampNeg = 26) := by
    intro z hz
    by_cases q : cLet z = true
    · left
      refine ⟨q, ?_⟩
      have q' := q
      simp only [cLet, Bool.and_eq_true, decide_eq_true_eq] at q'
      obtain ⟨j, hj, rfl⟩ := nI_of2 (x := z) (M := 122) (n := 122) rfl (Int32.not_lt.mpr (Int32.le_trans (by decide) q'.1)) q'.2
      have h1 := (nI_leI (a := 97) (b := j) (by decide) (by omega)).mp q'.1
      refine ⟨j, rfl, h1, hj, ?_⟩
      unfold wIx
      rw [if_pos q, show (97 : Int32) = nI 97 from rfl, nI_sub_ge h1, nI_clamp (by omega)]
    · right
      have : z = 45 := by simpa [cWid, q] using hz
      subst this; exact ⟨rfl, rfl⟩
  rcases key x hx with ⟨_, i, rfl, i1, i2, i3⟩ | ⟨rfl, i3⟩ <;> rcases key y hy with ⟨_, j, rfl, j1, j2, j3⟩ | ⟨rfl, j3⟩
  · rw [i3, j3] at h; rw [show i = j from by omega]
  · rw [i3, j3] at h; omega
  · rw [i3, j3] at h; omega
  · rfl
theorem o_width {G : gG} {M : gM} {p : Nat} (hS : Sim G M p) (x y : Int32) : OpI G M p m_PS_width m_Mod_width [.int x, .int y] := by
  refine hS.elim ?_
  intro lb db n ln f o cl an sp l ar os md mn mbd wo pp np lv pn psg plv ch tn tc ts dw cc l9 tt nb K E B W ST SH LL DD PP X t0 c0 s0 dw0 cc0 l0 tt0 nb0 K0 E0 B0 W0 ST0 SH0 L0 D0 P0 X0 s c F L hC hM hR
  obtain ⟨hx, hpl, hty, hw, hq, he, hm, hh, hc, hs, ht, hs0, ht0⟩ := id hC
  have hp9 : (lb = p + 90 ∧ db = p + 106) ∨ (lb = p + 106 ∧ db = p + 90) := hpl
  obtain ⟨⟨r1, r2, r3⟩, ⟨r4, gn, r5, r6⟩, rw_, rp, ⟨rb, rl⟩, ⟨rn, r9, rt, ro⟩, rr⟩ := id hR
  cases q : (cWid x && (decide (1 ≤ y) && decide (y ≤ 20))) with
  | false => exact OpI.st hS (e_PS_widthR G M p lb db x y hx q) (by omega) (e_Mod_widthR G M (p + 122) (aM (p + 122)) s c x y (aM_inj _) hM.1 q) (by omega)
  | true =>
    simp only [Bool.and_eq_true, decide_eq_true_eq] at q
    obtain ⟨q1, q2, q3⟩ := q
    have e1 := e_PS_width G M p lb db wo x y hx hw q1 q2 q3
    have k : ∀ q, ¬ q = p + 3 → gRd (gWr M (p + 3) (aI G 27 (upd wo (wIx x).toNatClampNeg y))) q = gRd M q := fun q hq => gRd_n _ _ hq
    have hM1 := hM.fr (fun q hq => k q (by omega))
    obtain ⟨M2, e2, m2⟩ := p_width G _ (p + 122) s c F L x y hM1 q1 q2 q3
    refine ⟨0, _, M2, e1.up (by omega), ⟨_, hM1.1⟩, e2.up (by omega), Sim.mk (wo := upd wo (wIx x).toNatClampNeg y) ⟨(show XAt _ p _ _ from (k p (by omega)).trans hx), hpl, hty.sm (fun q a b => k q (by omega)), gRd_s _ _ _, (k (p + 4) (by omega)).trans hq, he.sm (fun q a b => k q (by omega)), hm.sm (fun q a b => k q (by omega)), hh.sm (fun q a b => k q (by omega)), hc.sm (fun q a b => k q (by omega)), hs.sm (fun q a b => k q (by omega)), ht.sm (fun q a b => k q (by omega)), hs0.sm (fun q a b => k q (by omega)), ht0.sm (fun q a b => k q (by omega))⟩ m2 ⟨⟨r1, r2, r3⟩, ⟨r4, gn, r5, r6⟩, fun z hz => ?_, rp, ⟨rb, rl⟩, ⟨rn, r9, rt, ro⟩, rr.cg (fun j hj => rfl) (fun j hj => if_neg (by omega))⟩, m2.2.2⟩
    show upd (F 2) x.toNatClampNeg y z.toNatClampNeg = _ ∧ 1 ≤ upd (F 2) x.toNatClampNeg y z.toNatClampNeg ∧ upd (F 2) x.toNatClampNeg y z.toNatClampNeg ≤ 20
    by_cases e : z = x
    · subst e; rw [pk_us, pk_us]; exact ⟨rfl, q2, q3⟩
    · rw [pk_un (fun w => e (by rw [(wIx_l2 hz).2.2, w, ← (wIx_l2 q1).2.2])), pk_un (fun w => e (wIx_inj hz q1 w))]; exact rw_ z hz
theorem PrB.up {pp pm : Nat → Int32} (h : PrB pp pm) {i : Nat} {y : Int32} (hi : (i = 0 ∧ 10 ≤ y ∧ y ≤ 400) ∨ (i = 1 ∧ 0 ≤ y ∧ y ≤ 10000) ∨ (i = 2 ∧ 0 ≤ y ∧ y ≤ 100) ∨ (i = 3 ∧ 0 ≤ y ∧ y ≤ 200) ∨ (i = 4 ∧ 0 ≤ y ∧ y ≤ 10000)) : PrB (upd pp i y) (upd pm i y) := by
  obtain ⟨P0, P1, A2, A3, A4, ⟨a0, a1, a2, a3, a4, b0, b1, b2, b3, b4⟩, ⟨c0, c1, c2, c3, c4, _⟩⟩ := h
  rcases hi with ⟨rfl, h1, h2⟩ | ⟨rfl, h1, h2⟩ | ⟨rfl, h1, h2⟩ | ⟨rfl, h1, h2⟩ | ⟨rfl, h1, h2⟩
  · obtain ⟨j, hj, rfl⟩ := nI_of2 (x := y) (M := 400) (n := 400) rfl (Int32.not_lt.mpr (Int32.le_trans (by decide) h1)) h2
    exact ⟨j, P1, A2, A3, A4, ⟨pk_us, (pk_un (by omega)).trans a1, (pk_un (by omega)).trans a2, (pk_un (by omega)).trans a3, (pk_un (by omega)).trans a4, hj, b1, b2, b3, b4⟩, ⟨pk_us, (pk_un (by omega)).trans c1, (pk_un (by omega)).trans c2, (pk_un (by omega)).trans c3, (pk_un (by omega)).trans c4, hj, b1, b2, b3, b4⟩⟩
  · obtain ⟨j, hj, rfl⟩ := nI_of2 (x := y) (M := 10000) (n := 10000) rfl (Int32.not_lt.mpr h1) h2
    exact ⟨P0, j, A2, A3, A4, ⟨(pk_un (by omega)).trans a0, pk_us, (pk_un (by omega)).trans a2, (pk_un (by omega)).trans a3, (pk_un (by omega)).trans a4, b0, hj, b2, b3, b4⟩, ⟨(pk_un (by omega)).trans c0, pk_us, (pk_un (by omega)).trans c2, (pk_un (by omega)).trans c3, (pk_un (by omega)).trans c4, b0, hj, b2, b3, b4⟩⟩
  · obtain ⟨j, hj, rfl⟩ := nI_of2 (x := y) (M := 100) (n := 100) rfl (Int32.not_lt.mpr h1) h2
    exact ⟨P0, P1, j, A3, A4, ⟨(pk_un (by omega)).trans a0, (pk_un (by omega)).trans a1, pk_us, (pk_un (by omega)).trans a3, (pk_un (by omega)).trans a4, b0, b1, hj, b3, b4⟩, ⟨(pk_un (by omega)).trans c0, (pk_un (by omega)).trans c1, pk_us, (pk_un (by omega)).trans c3, (pk_un (by omega)).trans c4, b0, b1, hj, b3, b4⟩⟩
  · obtain ⟨j, hj, rfl⟩ := nI_of2 (x := y) (M := 200) (n := 200) rfl (Int32.not_lt.mpr h1) h2
    exact ⟨P0, P1, A2, j, A4, ⟨(pk_un (by omega)).trans a0, (pk_un (by omega)).trans a1, (pk_un (by omega)).trans a2, pk_us, (pk_un (by omega)).trans a4, b0, b1, b2, hj, b4⟩, ⟨(pk_un (by omega)).trans c0, (pk_un (by omega)).trans c1, (pk_un (by omega)).trans c2, pk_us, (pk_un (by omega)).trans c4, b0, b1, b2, hj, b4⟩⟩
  · obtain ⟨j, hj, rfl⟩ := nI_of2 (x := y) (M := 10000) (n := 10000) rfl (Int32.not_lt.mpr h1) h2
    exact ⟨P0, P1, A2, A3, j, ⟨(pk_un (by omega)).trans a0, (pk_un (by omega)).trans a1, (pk_un (by omega)).trans a2, (pk_un (by omega)).trans a3, pk_us, b0, b1, b2, b3, hj⟩, ⟨(pk_un (by omega)).trans c0, (pk_un (by omega)).trans c1, (pk_un (by omega)).trans c2, (pk_un (by omega)).trans c3, pk_us, b0, b1, b2, b3, hj⟩⟩
theorem o_par0 {G : gG} {M : gM} {p : Nat} (hS : Sim G M p) (y : Int32) : OpI G M p m_PS_parameter m_Mod_parameter [.int 0, .int y] := by
  refine hS.elim ?_
  intro lb db n ln f o cl an sp l ar os md mn mbd wo pp np lv pn psg plv ch tn tc ts dw cc l9 tt nb K E B W ST SH LL DD PP X t0 c0 s0 dw0 cc0 l0 tt0 nb0 K0 E0 B0 W0 ST0 SH0 L0 D0 P0 X0 s c F L hC hM hR
  obtain ⟨hx, hpl, hty, hw, hq, he, hm, hh, hc, hs, ht, hs0, ht0⟩ := id hC
  have hp9 : (lb = p + 90 ∧ db = p + 106) ∨ (lb = p + 106 ∧ db = p + 90) := hpl
  obtain ⟨⟨r1, r2, r3⟩, ⟨r4, gn, r5, r6⟩, rw_, rp, ⟨rb, rl⟩, ⟨rn, r9, rt, ro⟩, rr⟩ := id hR
  by_cases z : 10 ≤ y ∧ y ≤ 400
  · have e1 := e_PS_par0 G M p lb db pp y hx hq z.1 z.2
    have k : ∀ q, ¬ q = p + 4 → gRd (gWr M (p + 4) (aI G 5 (upd pp 0 y))) q = gRd M q := fun q hq => gRd_n _ _ hq
    have hM1 := hM.fr (fun q hq => k q (by omega))
    obtain ⟨M2, e2, m2⟩ := p_prm0 G _ (p + 122) s c F L y hM1 z.1 z.2
    exact ⟨0, _, M2, e1.up (by omega), ⟨_, hM1.1⟩, e2.up (by omega), Sim.mk (pp := upd pp 0 y) ⟨(show XAt _ p _ _ from (k p (by omega)).trans hx), hpl, hty.sm (fun q a b => k q (by omega)), (k (p + 3) (by omega)).trans hw, gRd_s _ _ _, he.sm (fun q a b => k q (by omega)), hm.sm (fun q a b => k q (by omega)), hh.sm (fun q a b => k q (by omega)), hc.sm (fun q a b => k q (by omega)), hs.sm (fun q a b => k q (by omega)), ht.sm (fun q a b => k q (by omega)), hs0.sm (fun q a b => k q (by omega)), ht0.sm (fun q a b => k q (by omega))⟩ m2 ⟨⟨r1, r2, r3⟩, ⟨r4, gn, r5, r6⟩, rw_, rp.up (Or.inl ⟨rfl, z⟩), ⟨rb, rl⟩, ⟨rn, r9, rt, ro⟩, rr.cg (fun j hj => rfl) (fun j hj => if_neg (by omega))⟩, m2.2.2⟩
  · exact OpI.st hS (e_PS_par0R G M p lb db pp y hx hq z) (by omega) (e_Mod_par0R G M (p + 122) (aM (p + 122)) s c y (aM_inj _) hM.1 z) (by omega)
theorem o_par1 {G : gG} {M : gM} {p : Nat} (hS : Sim G M p) (y : Int32) : OpI G M p m_PS_parameter m_Mod_parameter [.int 1, .int y] := by
  refine hS.elim ?_
  intro lb db n ln f o cl an sp l ar os md mn mbd wo pp np lv pn psg plv ch tn tc ts dw cc l9 tt nb K E B W ST SH LL DD PP X t0 c0 s0 dw0 cc0 l0 tt0 nb0 K0 E0 B0 W0 ST0 SH0 L0 D0 P0 X0 s c F L hC hM hR
  obtain ⟨hx, hpl, hty, hw, hq, he, hm, hh, hc, hs, ht, hs0, ht0⟩ := id hC
  have hp9 : (lb = p + 90 ∧ db = p + 106) ∨ (lb = p + 106 ∧ db = p + 90) := hpl
  obtain ⟨⟨r1, r2, r3⟩, ⟨r4, gn, r5, r6⟩, rw_, rp, ⟨rb, rl⟩, ⟨rn, r9, rt, ro⟩, rr⟩ := id hR
  by_cases z : 0 ≤ y ∧ y ≤ 10000
  · have e1 := e_PS_par1 G M p lb db pp y hx hq z.1 z.2
    have k : ∀ q, ¬ q = p + 4 → gRd (gWr M (p + 4) (aI G 5 (upd pp 1 y))) q = gRd M q := fun q hq => gRd_n _ _ hq
    have hM1 := hM.fr (fun q hq => k q (by omega))
    obtain ⟨M2, e2, m2⟩ := p_prm1 G _ (p + 122) s c F L y hM1 z.1 z.2
    exact ⟨0, _, M2, e1.up (by omega), ⟨_, hM1.1⟩, e2.up (by omega), Sim.mk (pp := upd pp 1 y) ⟨(show XAt _ p _ _ from (k p (by omega)).trans hx), hpl, hty.sm (fun q a b => k q (by omega)), (k (p + 3) (by omega)).trans hw, gRd_s _ _ _, he.sm (fun q a b => k q (by omega)), hm.sm (fun q a b => k q (by omega)), hh.sm (fun q a b => k q (by omega)), hc.sm (fun q a b => k q (by omega)), hs.sm (fun q a b => k q (by omega)), ht.sm (fun q a b => k q (by omega)), hs0.sm (fun q a b => k q (by omega)), ht0.sm (fun q a b => k q (by omega))⟩ m2 ⟨⟨r1, r2, r3⟩, ⟨r4, gn, r5, r6⟩, rw_, rp.up (Or.inr (Or.inl ⟨rfl, z⟩)), ⟨rb, rl⟩, ⟨rn, r9, rt, ro⟩, rr.cg (fun j hj => rfl) (fun j hj => if_neg (by omega))⟩, m2.2.2⟩
  · exact OpI.st hS (e_PS_par1R G M p lb db pp y hx hq z) (by omega) (e_Mod_par1R G M (p + 122) (aM (p + 122)) s c y (aM_inj _) hM.1 z) (by omega)
theorem o_par2 {G : gG} {M : gM} {p : Nat} (hS : Sim G M p) (y : Int32) : OpI G M p m_PS_parameter m_Mod_parameter [.int 2, .int y] := by
  refine hS.elim ?_
  intro lb db n ln f o cl an sp l ar os md mn mbd wo pp np lv pn psg plv ch tn tc ts dw cc l9 tt nb K E B W ST SH LL DD PP X t0 c0 s0 dw0 cc0 l0 tt0 nb0 K0 E0 B0 W0 ST0 SH0 L0 D0 P0 X0 s c F L hC hM hR
  obtain ⟨hx, hpl, hty, hw, hq, he, hm, hh, hc, hs, ht, hs0, ht0⟩ := id hC
  have hp9 : (lb = p + 90 ∧ db = p + 106) ∨ (lb = p + 106 ∧ db = p + 90) := hpl
  obtain ⟨⟨r1, r2, r3⟩, ⟨r4, gn, r5, r6⟩, rw_, rp, ⟨rb, rl⟩, ⟨rn, r9, rt, ro⟩, rr⟩ := id hR
  by_cases z : 0 ≤ y ∧ y ≤ 100
  · have e1 := e_PS_par2 G M p lb db pp y hx hq z.1 z.2
    have k : ∀ q, ¬ q = p + 4 → gRd (gWr M (p + 4) (aI G 5 (upd pp 2 y))) q = gRd M q := fun q hq => gRd_n _ _ hq
    have hM1 := hM.fr (fun q hq => k q (by omega))
    obtain ⟨M2, e2, m2⟩ := p_prm2 G _ (p + 122) s c F L y hM1 z.1 z.2
    exact ⟨0, _, M2, e1.up (by omega), ⟨_, hM1.1⟩, e2.up (by omega), Sim.mk (pp := upd pp 2 y) ⟨(show XAt _ p _ _ from (k p (by omega)).trans hx), hpl, hty.sm (fun q a b => k q (by omega)), (k (p + 3) (by omega)).trans hw, gRd_s _ _ _, he.sm (fun q a b => k q (by omega)), hm.sm (fun q a b => k q (by omega)), hh.sm (fun q a b => k q (by omega)), hc.sm (fun q a b => k q (by omega)), hs.sm (fun q a b => k q (by omega)), ht.sm (fun q a b => k q (by omega)), hs0.sm (fun q a b => k q (by omega)), ht0.sm (fun q a b => k q (by omega))⟩ m2 ⟨⟨r1, r2, r3⟩, ⟨r4, gn, r5, r6⟩, rw_, rp.up (Or.inr (Or.inr (Or.inl ⟨rfl, z⟩))), ⟨rb, rl⟩, ⟨rn, r9, rt, ro⟩, rr.cg (fun j hj => rfl) (fun j hj => if_neg (by omega))⟩, m2.2.2⟩
  · exact OpI.st hS (e_PS_par2R G M p lb db pp y hx hq z) (by omega) (e_Mod_par2R G M (p + 122) (aM (p + 122)) s c y (aM_inj _) hM.1 z) (by omega)
theorem o_par3 {G : gG} {M : gM} {p : Nat} (hS : Sim G M p) (y : Int32) : OpI G M p m_PS_parameter m_Mod_parameter [.int 3, .int y] := by
  refine hS.elim ?_
  intro lb db n ln f o cl an sp l ar os md mn mbd wo pp np lv pn psg plv ch tn tc ts dw cc l9 tt nb K E B W ST SH LL DD PP X t0 c0 s0 dw0 cc0 l0 tt0 nb0 K0 E0 B0 W0 ST0 SH0 L0 D0 P0 X0 s c F L hC hM hR
  obtain ⟨hx, hpl, hty, hw, hq, he, hm, hh, hc, hs, ht, hs0, ht0⟩ := id hC
  have hp9 : (lb = p + 90 ∧ db = p + 106) ∨ (lb = p + 106 ∧ db = p + 90) := hpl
  obtain ⟨⟨r1, r2, r3⟩, ⟨r4, gn, r5, r6⟩, rw_, rp, ⟨rb, rl⟩, ⟨rn, r9, rt, ro⟩, rr⟩ := id hR
  by_cases z : 0 ≤ y ∧ y ≤ 200
  · have e1 := e_PS_par3 G M p lb db pp y hx hq z.1 z.2
    have k : ∀ q, ¬ q = p + 4 → gRd (gWr M (p + 4) (aI G 5 (upd pp 3 y))) q = gRd M q := fun q hq => gRd_n _ _ hq
    have hM1 := hM.fr (fun q hq => k q (by omega))
    obtain ⟨M2, e2, m2⟩ := p_prm3 G _ (p + 122) s c F L y hM1 z.1 z.2
    exact ⟨0, _, M2, e1.up (by omega), ⟨_, hM1.1⟩, e2.up (by omega), Sim.mk (pp := upd pp 3 y) ⟨(show XAt _ p _ _ from (k p (by omega)).trans hx), hpl, hty.sm (fun q a b => k q (by omega)), (k (p + 3) (by omega)).trans hw, gRd_s _ _ _, he.sm (fun q a b => k q (by omega)), hm.sm (fun q a b => k q (by omega)), hh.sm (fun q a b => k q (by omega)), hc.sm (fun q a b => k q (by omega)), hs.sm (fun q a b => k q (by omega)), ht.sm (fun q a b => k q (by omega)), hs0.sm (fun q a b => k q (by omega)), ht0.sm (fun q a b => k q (by omega))⟩ m2 ⟨⟨r1, r2, r3⟩, ⟨r4, gn, r5, r6⟩, rw_, rp.up (Or.inr (Or.inr (Or.inr (Or.inl ⟨rfl, z⟩)))), ⟨rb, rl⟩, ⟨rn, r9, rt, ro⟩, rr.cg (fun j hj => rfl) (fun j hj => if_neg (by omega))⟩, m2.2.2⟩
  · exact OpI.st hS (e_PS_par3R G M p lb db pp y hx hq z) (by omega) (e_Mod_par3R G M (p + 122) (aM (p + 122)) s c y (aM_inj _) hM.1 z) (by omega)
theorem o_par4 {G : gG} {M : gM} {p : Nat} (hS : Sim G M p) (y : Int32) : OpI G M p m_PS_parameter m_Mod_parameter [.int 4, .int y] := by
  refine hS.elim ?_
  intro lb db n ln f o cl an sp l ar os md mn mbd wo pp np lv pn psg plv ch tn tc ts dw cc l9 tt nb K E B W ST SH LL DD PP X t0 c0 s0 dw0 cc0 l0 tt0 nb0 K0 E0 B0 W0 ST0 SH0 L0 D0 P0 X0 s c F L hC hM hR
  obtain ⟨hx, hpl, hty, hw, hq, he, hm, hh, hc, hs, ht, hs0, ht0⟩ := id hC
  have hp9 : (lb = p + 90 ∧ db = p + 106) ∨ (lb = p + 106 ∧ db = p + 90) := hpl
  obtain ⟨⟨r1, r2, r3⟩, ⟨r4, gn, r5, r6⟩, rw_, rp, ⟨rb, rl⟩, ⟨rn, r9, rt, ro⟩, rr⟩ := id hR
  by_cases z : 0 ≤ y ∧ y ≤ 10000
  · have e1 := e_PS_par4 G M p lb db pp y hx hq z.1 z.2
    have k : ∀ q, ¬ q = p + 4 → gRd (gWr M (p + 4) (aI G 5 (upd pp 4 y))) q = gRd M q := fun q hq => gRd_n _ _ hq
    have hM1 := hM.fr (fun q hq => k q (by omega))
    obtain ⟨M2, e2, m2⟩ := p_prm4 G _ (p + 122) s c F L y hM1 z.1 z.2
    exact ⟨0, _, M2, e1.up (by omega), ⟨_, hM1.1⟩, e2.up (by omega), Sim.mk (pp := upd pp 4 y) ⟨(show XAt _ p _ _ from (k p (by omega)).trans hx), hpl, hty.sm (fun q a b => k q (by omega)), (k (p + 3) (by omega)).trans hw, gRd_s _ _ _, he.sm (fun q a b => k q (by omega)), hm.sm (fun q a b => k q (by omega)), hh.sm (fun q a b => k q (by omega)), hc.sm (fun q a b => k q (by omega)), hs.sm (fun q a b => k q (by omega)), ht.sm (fun q a b => k q (by omega)), hs0.sm (fun q a b => k q (by omega)), ht0.sm (fun q a b => k q (by omega))⟩ m2 ⟨⟨r1, r2, r3⟩, ⟨r4, gn, r5, r6⟩, rw_, rp.up (Or.inr (Or.inr (Or.inr (Or.inr ⟨rfl, z⟩)))), ⟨rb, rl⟩, ⟨rn, r9, rt, ro⟩, rr.cg (fun j hj => rfl) (fun j hj => if_neg (by omega))⟩, m2.2.2⟩
  · exact OpI.st hS (e_PS_par4R G M p lb db pp y hx hq z) (by omega) (e_Mod_par4R G M (p + 122) (aM (p + 122)) s c y (aM_inj _) hM.1 z) (by omega)
theorem o_parR {G : gG} {M : gM} {p : Nat} (hS : Sim G M p) (x y : Int32) (z : x < 0 ∨ 4 < x) : OpI G M p m_PS_parameter m_Mod_parameter [.int x, .int y] := by
  refine hS.elim ?_
  intro lb db n ln f o cl an sp l ar os md mn mbd wo pp np lv pn psg plv ch tn tc ts dw cc l9 tt nb K E B W ST SH LL DD PP X t0 c0 s0 dw0 cc0 l0 tt0 nb0 K0 E0 B0 W0 ST0 SH0 L0 D0 P0 X0 s c F L hC hM hR
  obtain ⟨hx, hpl, hty, hw, hq, he, hm, hh, hc, hs, ht, hs0, ht0⟩ := id hC
  have hp9 : (lb = p + 90 ∧ db = p + 106) ∨ (lb = p + 106 ∧ db = p + 90) := hpl
  obtain ⟨⟨r1, r2, r3⟩, ⟨r4, gn, r5, r6⟩, rw_, rp, ⟨rb, rl⟩, ⟨rn, r9, rt, ro⟩, rr⟩ := id hR
  exact OpI.st hS (e_PS_parR G M p lb db pp x y hx hq z) (by omega) (e_Mod_parR G M (p + 122) (aM (p + 122)) s c x y (aM_inj _) hM.1 z) (by omega)
theorem o_parameter {G : gG} {M : gM} {p : Nat} (hS : Sim G M p) (x y : Int32) : OpI G M p m_PS_parameter m_Mod_parameter [.int x, .int y] := by
  by_cases z : x < 0 ∨ 4 < x
  · exact o_parR hS x y z
  · rw [not_or] at z
    obtain ⟨j, hj, rfl⟩ := nI_of2 (x := x) (M := 4) (n := 4) rfl z.1 (Int32.not_lt.mp z.2)
    have : j = 0 ∨ j = 1 ∨ j = 2 ∨ j = 3 ∨ j = 4 := by omega
    rcases this with rfl | rfl | rfl | rfl | rfl
    · exact o_par0 hS y
    · exact o_par1 hS y
    · exact o_par2 hS y
    · exact o_par3 hS y
    · exact o_par4 hS y
