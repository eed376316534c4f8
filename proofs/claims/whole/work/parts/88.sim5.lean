theorem xp_ans {md : Nat → Bool} {mbd : Nat → Nat → Int32} {mn : Nat → Nat} : ∀ (r : Nat) (Z : xS), (xpF md mbd mn r Z).1 = 0 ∨ (xpF md mbd mn r Z).1 < 0 := by
  have n3 : (-3 : Int32) < 0 := by decide
  have n4 : (-4 : Int32) < 0 := by decide
  have cm : ∀ (df : Bool) (bd : Nat → Int32) (bn f cl : Nat) (l : Nat → Int32) (an : Nat) (ar : Nat → Int32), (cmF df bd bn f cl l an ar).1 = 0 ∨ (cmF df bd bn f cl l an ar).1 < 0 := by
    intro df bd bn f cl l an ar
    have c2 : ∀ (f cl : Nat) (an : Nat) (ar : Nat → Int32), (cm2 bd bn f cl l an ar).1 = 0 ∨ (cm2 bd bn f cl l an ar).1 < 0 := by
      intro f cl an ar; unfold cm2; split
      · exact Or.inr n4
      · exact Or.inl rfl
    unfold cmF
    split
    · exact Or.inr n3
    · split
      · exact Or.inr n4
      · split
        · exact c2 _ _ _ _
        · split
          · exact c2 _ _ _ _
          · exact Or.inr n3
  have ob : ∀ (Z : xS), (obZ md mbd mn Z).1 = 0 ∨ (obZ md mbd mn Z).1 < 0 := by
    intro Z
    unfold obZ obF
    split
    · exact cm _ _ _ _ _ _ _ _
    · split
      · split
        · exact Or.inr n4
        · exact Or.inl rfl
      · split
        · split
          · exact Or.inr n3
          · exact Or.inl rfl
        · split
          · split
            · exact Or.inr n3
            · split
              · exact Or.inl rfl
              · exact Or.inr n3
          · split
            · split
              · exact Or.inr n4
              · exact Or.inl rfl
            · exact Or.inr n3
  intro r
  induction r with
  | zero =>
    intro Z
    simp only [xpF]
    split
    · exact Or.inl rfl
    · exact Or.inr n3
  | succ r ih =>
    intro Z
    simp only [xpF]
    split
    · split
      · exact Or.inl rfl
      · exact Or.inr n3
    · split
      · exact ih _
      · exact ob Z
theorem flX_v {X : Nat → Int32} {P : Nat → Nat} (h0 : P 0 = 0) : ∀ l i, i ≤ l → flX X P l i = nI (P i)
  | 0, i, h => by
    have : i = 0 := by omega
    subst this
    show upd X 0 (nI 0) 0 = _
    rw [pk_us, h0]
  | l + 1, i, h => by
    show upd (flX X P l) (l + 1) (nI (P (l + 1))) i = _
    by_cases e : i = l + 1
    · subst e; rw [pk_us]
    · rw [pk_un e]; exact flX_v h0 l i (by omega)
theorem PrR.cp {pp P9 : Nat → Int32} {a b d e f : Nat} (h : PrR pp a b d e f) : PrR (cpI pp 5 P9) a b d e f := by
  have z : ∀ i, i < 5 → cpI pp 5 P9 i = pp i := fun i hi => if_pos hi
  obtain ⟨h0, h1, h2, h3, h4, h5⟩ := h
  exact ⟨(z 0 (by omega)).trans h0, (z 1 (by omega)).trans h1, (z 2 (by omega)).trans h2, (z 3 (by omega)).trans h3, (z 4 (by omega)).trans h4, h5⟩
def KeepS (s s3 : Nat → Int32) : Prop := ∀ i, i = 9 ∨ i = 23 ∨ (47 ≤ i ∧ i ≤ 50) → s3 i = s i
def KeepF (F F3 : Nat → Nat → Int32) : Prop := ∀ i, i ≤ 8 ∨ i = 19 ∨ i = 20 ∨ i = 21 ∨ (38 ≤ i ∧ i ≤ 46) → F3 i = F i
theorem Rel.keep {n : Nat} {ln : Nat → Int32} {an : Nat} {md : Nat → Bool} {mn : Nat → Nat} {mbd : Nat → Nat → Int32} {wo pp : Nat → Int32} {np : Nat} {pn : Nat → Nat} {psg plv : Nat → Nat → Int32} {tn : Nat} {tc : Nat → Int32} {dw cc : Int32} {l9 : Nat} {tt : Int64} {nb : Nat} {K E B W ST SH LL DD PP X : Nat → Int32} {s s3 : Nat → Int32} {c : Int64} {F F3 : Nat → Nat → Int32} {an2 g2 : Nat} (h : Rel n ln an md mn mbd wo pp np pn psg plv tn tc dw cc l9 tt nb K E B W ST SH LL DD PP X s c F) (h9 : s3 9 = s 9) (k2 : ∀ i, i ≤ 8 → F3 i = F i) (h1 : s3 1 = nI 0) (h15 : s3 15 = nI g2) (hg : g2 ≤ 200) (ha : an2 ≤ 200) {tn' : Nat} {tc' : Nat → Int32} {dw' cc' : Int32} {l9' : Nat} {tt' : Int64} {nb' : Nat} {K' E' B' W' ST' SH' LL' DD' PP' X' : Nat → Int32} {c3 : Int64} (hr : ResR tn' tc' dw' cc' l9' tt' nb' K' E' B' W' ST' SH' LL' DD' PP' X' s3 c3 F3) : Rel 0 ln an2 md mn mbd wo pp np pn psg plv tn' tc' dw' cc' l9' tt' nb' K' E' B' W' ST' SH' LL' DD' PP' X' s3 c3 F3 := by
  obtain ⟨⟨r1, r2, r3⟩, ⟨r4, gn, r5, r6⟩, rw_, rp, ⟨rb, rl⟩, ⟨rn, r9, rt, ro⟩, rr⟩ := h
  refine ⟨⟨by omega, h1, fun i hi => absurd hi (by omega)⟩, ⟨ha, g2, hg, h15⟩, ?_, ?_, ⟨?_, ?_⟩, ⟨rn, h9.trans r9, ?_, ?_⟩, hr⟩
  · rw [k2 2 (by omega)]; exact rw_
  · rw [k2 3 (by omega)]; exact rp
  · rw [k2 4 (by omega)]; exact rb
  · rw [k2 5 (by omega)]; exact rl
  · rw [k2 6 (by omega), k2 7 (by omega)]; exact rt
  · rw [k2 8 (by omega)]; exact ro
theorem c_parE (G : gG) (M : gM) (p : Nat) (z : Int32) (hz : ¬ z = 0) : EvF G 6 m_PS_paragraph (26, [(0, .ref p), (1, .int z)], [], M) (some (.int z)) M := by
  refine EvF.gop 27 (go_iload_n d_PS_paragraph_26 rfl 1 rfl) rfl ?_
  refine EvF.gop 30 (go_if_eq_f 32 d_PS_paragraph_27 (by decide) hz) rfl ?_
  refine EvF.gop 31 (go_iload_n d_PS_paragraph_30 rfl 1 rfl) rfl ?_
  exact EvF.ri d_PS_paragraph_31 rfl rfl rfl
theorem c_parG (G : gG) (M : gM) (p : Nat) (z : Int32) (hz : z = 0) : Go G m_PS_paragraph 6 (26, [(0, .ref p), (1, .int z)], [], M) (32, [(0, .ref p), (1, .int z)], [], M) := by
  refine Go.trp 27 (go_iload_n d_PS_paragraph_26 rfl 1 rfl) rfl ?_
  exact go_if_eq_t 32 d_PS_paragraph_27 (by decide) hz
theorem c_parB (G : gG) (M : gM) (p : Nat) (z : Int32) : EvF G 6 m_PS_paragraph (91, [(0, .ref p), (1, .int z)], [.int (bI false)], M) (some (.int (-4))) M := by
  refine EvF.gop 94 (go_if_ne_f 97 d_PS_paragraph_91 (by decide) rfl) rfl ?_
  refine EvF.gop 96 (go_bipush (v := (-4)) d_PS_paragraph_94 (by decide)) rfl ?_
  exact EvF.ri d_PS_paragraph_96 rfl rfl rfl
theorem c_parC (G : gG) (M : gM) (p : Nat) (z : Int32) : Go G m_PS_paragraph 6 (91, [(0, .ref p), (1, .int z)], [.int (bI true)], M) (97, [(0, .ref p), (1, .int z)], [], M) := go_if_ne_t 97 d_PS_paragraph_91 (by decide) (by decide)
theorem m_par12 {G : gG} {M : gM} {A : Nat} {s : Nat → Int32} {c : Int64} {F : Nat → Nat → Int32} {L : Nat → Int64} {md : Nat → Bool} {mn : Nat → Nat} {n gn np tn2 : Nat} {Y : Int32 × yS} {pn : Nat → Nat} {d2 t2 : Nat → Int32} {H : (Nat → Int32) × Nat} (h : ModAt G M A s c F L) (hM : BodOk (F 5) md mn) (h1 : s 1 = nI n) (h15 : s 15 = nI gn) (hn : n ≤ 60) (hgn : gn ≤ 200) (hY : mxF md (F 4) mn 8245 ((n, 0, 0, gn, 0), 4, cpI (F 0) n (F 10), F 12, F 11, F 13, F 17, F 18) = Y) (hz : Y.1 = 0) (hit : Y.2.1.2.2.2.2 ≤ 120)
    (u1 : cnN Y.2.1.2.2.2.2 Y.2.2.2.2.2.2.2.1 Y.2.2.2.2.2.2.2.2 = tn2) (u2 : (cnC Y.2.1.2.2.2.2 Y.2.2.2.2.2.2.2.1 Y.2.2.2.2.2.2.2.2).2.1 = d2) (u3 : (cnC Y.2.1.2.2.2.2 Y.2.2.2.2.2.2.2.1 Y.2.2.2.2.2.2.2.2).2.2 = t2) (hP : PatOk np (F 8) pn) (h9 : s 9 = nI np) (hH : hyF tn2 d2 (F 6) (F 7) pn np (tn2 + 1) 0 (cpI (fun _ => 0) (tn2 + 1) (F 24)) 0 = H) :
    ∃ (M1 : gM) (s1 : Nat → Int32) (F1 : Nat → Nat → Int32), Go G m_Mod_paragraph 4 (0, [(0, .ref A)], [], M) (24, [(0, .ref A), (1, .int Y.1)], [], M1) ∧ MS G M M1 A s1 c F1 L ∧ (∀ i, ¬ (i = 1 ∨ i = 14 ∨ i = 15 ∨ i = 16 ∨ i = 22 ∨ i = 29) → s1 i = s i) ∧ s1 1 = nI 0 ∧ s1 15 = nI Y.2.1.2.2.2.1 ∧ s1 16 = nI Y.2.1.2.2.1 ∧ s1 22 = nI tn2 ∧ s1 29 = nI H.2 ∧ (∀ i, ¬ (i = 10 ∨ i = 11 ∨ i = 12 ∨ i = 13 ∨ i = 17 ∨ i = 18 ∨ i = 24) → F1 i = F i) ∧ F1 17 = d2 ∧ F1 18 = t2 ∧ F1 24 = H.1 := by
  obtain ⟨M1, s1, F1, g1, m1, a1, a2, a3, a4, a5, a6, a7, a8⟩ := p_par1 G M A s c F L md mn n gn Y h hM h1 h15 hn hgn hY
  obtain ⟨M2, s2, F2, g2, m2, b1, b2, b3, b4, b5, b6, b7⟩ := p_par2 G M1 A s1 c F1 L pn np Y.2.1.2.2.2.2 tn2 d2 t2 H Y.1 m1.1 (by rw [hz]; decide) a5 hit (by rw [a7, a8]; exact u1) (by rw [a7, a8]; exact u2) (by rw [a7, a8]; exact u3) (by rw [a6 8 (by omega)]; exact hP) (by rw [a1 9 (by omega)]; exact h9) (by rw [a6 6 (by omega), a6 7 (by omega), a6 24 (by omega)]; exact hH)
  exact ⟨M2, s2, F2, g1.tr g2, m1.tr m2, fun i hi => (b1 i (by omega)).trans (a1 i (by omega)), (b1 1 (by omega)).trans a2, (b1 15 (by omega)).trans a3, (b1 16 (by omega)).trans a4, b2, b3, fun i hi => (b4 i (by omega)).trans (a6 i (by omega)), b5, b6, b7⟩
