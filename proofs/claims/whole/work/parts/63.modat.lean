/-- where the model's arrays lie behind its object -/
def mP (i : Nat) : Nat := if i < 52 then ([1, 101, 2, 3, 4, 5, 6, 7, 8, 109, 9, 10, 11, 12, 114, 115, 116, 13, 14, 15, 16, 17, 122, 123, 18, 19, 20, 21, 128, 129, 22, 23, 24, 133, 134, 135, 136, 137, 25, 26, 27, 28, 29, 30, 31, 32, 33, 147, 148, 149, 150, 151] : List Nat).getD i 0 else 100 + i
def mL (i : Nat) : Nat := ([60, 0, 128, 5, 96, 4, 100, 120, 20, 0, 200, 200, 200, 8, 0, 0, 0, 120, 120, 120, 120, 120, 0, 0, 121, 26, 26, 26, 0, 0, 26, 26, 26, 0, 0, 0, 0, 0, 25, 25, 25, 25, 25, 25, 25, 25, 25, 0, 0, 0, 0, 0] : List Nat).getD i 0
def mI (i : Nat) : Bool := ([true, false, true, true, true, true, true, true, true, false, true, true, true, true, false, false, false, true, true, true, true, true, false, false, false, true, true, true, false, false, false, true, true, false, false, false, false, false, true, true, true, true, true, true, true, true, true, false, false, false, false, false] : List Bool).getD i false
def aM (A i : Nat) : Nat := A + mP i
theorem mP_inj (i j : Nat) (h : mP i = mP j) : i = j := by
  have hd : ∀ i, i < 52 → ∀ j, j < 52 → mP i = mP j → i = j := by decide
  have hb : ∀ i, i < 52 → mP i < 152 := by decide
  by_cases h1 : i < 52
  · by_cases h2 : j < 52
    · exact hd i h1 j h2 h
    · have := hb i h1
      rw [show mP j = 100 + j from if_neg h2] at h
      omega
  · by_cases h2 : j < 52
    · have := hb j h2
      rw [show mP i = 100 + i from if_neg h1] at h
      omega
    · rw [show mP i = 100 + i from if_neg h1, show mP j = 100 + j from if_neg h2] at h
      omega
theorem aM_inj (A : Nat) : InjA A (aM A) := by
  refine ⟨fun i j h => mP_inj i j (by unfold aM at h; omega), fun i h => ?_⟩
  have hb : ∀ i, i < 52 → 0 < mP i := by decide
  unfold aM at h
  by_cases h1 : i < 52
  · have := hb i h1; omega
  · rw [show mP i = 100 + i from if_neg h1] at h; omega
def mK (i : Nat) : Bool := mI i || (i == 24 || i == 30)
theorem mK_lt {i : Nat} (h : mK i = true) : 0 < mP i ∧ mP i < 34 := by
  by_cases h1 : i < 52
  · exact (by decide : ∀ i, i < 52 → mK i = true → 0 < mP i ∧ mP i < 34) i h1 h
  · have h2 : mI i = false := by unfold mI; rw [List.getD_eq_getElem?_getD, List.getElem?_eq_none (by simpa using Nat.le_of_not_lt h1)]; rfl
    have h3 : (i == 24) = false := by simp; omega
    have h4 : (i == 30) = false := by simp; omega
    simp [mK, h2, h3, h4] at h
def ModAt (G : gG) (M : gM) (A : Nat) (s : Nat → Int32) (c : Int64) (F : Nat → Nat → Int32) (L : Nat → Int64) : Prop :=
  gRd M A = some (.inr (11, oMod (aM A) s c)) ∧ (∀ i, mI i = true → gRd M (aM A i) = some (aI G (mL i) (F i))) ∧ gRd M (aM A 24) = some (aZ G 121 (F 24)) ∧ gRd M (aM A 30) = some (aL G 26 L)
/-- from M0 to M nothing has changed outside the model -/
def MS (G : gG) (M0 M : gM) (A : Nat) (s : Nat → Int32) (c : Int64) (F : Nat → Nat → Int32) (L : Nat → Int64) : Prop :=
  ModAt G M A s c F L ∧ (∀ q, ¬ (A ≤ q ∧ q < A + 34) → gRd M q = gRd M0 q) ∧ M.2 = M0.2
def uF (F : Nat → Nat → Int32) (i : Nat) (f : Nat → Int32) : Nat → Nat → Int32 := fun j => if j = i then f else F j
theorem MS.rf {G : gG} {M : gM} {A : Nat} {s : Nat → Int32} {c : Int64} {F : Nat → Nat → Int32} {L : Nat → Int64} (h : ModAt G M A s c F L) : MS G M M A s c F L := ⟨h, fun _ _ => rfl, rfl⟩
theorem MS.tr {G : gG} {M0 M1 M2 : gM} {A : Nat} {s s1 : Nat → Int32} {c c1 : Int64} {F F1 : Nat → Nat → Int32} {L L1 : Nat → Int64} (h : MS G M0 M1 A s c F L) (k : MS G M1 M2 A s1 c1 F1 L1) : MS G M0 M2 A s1 c1 F1 L1 := ⟨k.1, fun q hq => (k.2.1 q hq).trans (h.2.1 q hq), k.2.2.trans h.2.2⟩
theorem MS.wA {G : gG} {M0 M : gM} {A : Nat} {s : Nat → Int32} {c : Int64} {F : Nat → Nat → Int32} {L : Nat → Int64} (s1 : Nat → Int32) (c1 : Int64) (h : MS G M0 M A s c F L) : MS G M0 (gWr M A (.inr (11, oMod (aM A) s1 c1))) A s1 c1 F L :=
  ⟨⟨gRd_s _ _ _, fun i hi => (gRd_n _ _ (Ne.symm ((aM_inj A).2 i))).trans (h.1.2.1 i hi), (gRd_n _ _ (Ne.symm ((aM_inj A).2 24))).trans h.1.2.2.1, (gRd_n _ _ (Ne.symm ((aM_inj A).2 30))).trans h.1.2.2.2⟩, fun q hq => (gRd_n _ _ (by omega)).trans (h.2.1 q hq), h.2.2⟩
theorem MS.wI {G : gG} {M0 M : gM} {A : Nat} {s : Nat → Int32} {c : Int64} {F : Nat → Nat → Int32} {L : Nat → Int64} (i : Nat) (f : Nat → Int32) (hi : mI i = true) (h : MS G M0 M A s c F L) : MS G M0 (gWr M (aM A i) (aI G (mL i) f)) A s c (uF F i f) L := by
  have h24 : i ≠ 24 := fun q => by subst q; revert hi; decide
  have h30 : i ≠ 30 := fun q => by subst q; revert hi; decide
  have hr := mK_lt (i := i) (by simp [mK, hi])
  refine ⟨⟨(gRd_n _ _ ((aM_inj A).2 i)).trans h.1.1, fun j hj => ?_, ?_, ?_⟩, fun q hq => (gRd_n _ _ (by unfold aM; omega)).trans (h.2.1 q hq), h.2.2⟩
  · by_cases e : j = i
    · subst e; rw [gRd_s, show uF F j f j = f from if_pos rfl]
    · rw [gRd_n _ _ ((aM_inj A).n e), show uF F i f j = F j from if_neg e]; exact h.1.2.1 j hj
  · rw [gRd_n _ _ ((aM_inj A).n (Ne.symm h24)), show uF F i f 24 = F 24 from if_neg (Ne.symm h24)]; exact h.1.2.2.1
  · rw [gRd_n _ _ ((aM_inj A).n (Ne.symm h30))]; exact h.1.2.2.2
theorem MS.wZ {G : gG} {M0 M : gM} {A : Nat} {s : Nat → Int32} {c : Int64} {F : Nat → Nat → Int32} {L : Nat → Int64} (f : Nat → Int32) (h : MS G M0 M A s c F L) : MS G M0 (gWr M (aM A 24) (aZ G 121 f)) A s c (uF F 24 f) L := by
  have hr := mK_lt (i := 24) rfl
  refine ⟨⟨(gRd_n _ _ ((aM_inj A).2 24)).trans h.1.1, fun j hj => ?_, ?_, ?_⟩, fun q hq => (gRd_n _ _ (by unfold aM; omega)).trans (h.2.1 q hq), h.2.2⟩
  · have e : j ≠ 24 := fun q => by subst q; revert hj; decide
    rw [gRd_n _ _ ((aM_inj A).n e), show uF F 24 f j = F j from if_neg e]; exact h.1.2.1 j hj
  · rw [gRd_s, show uF F 24 f 24 = f from if_pos rfl]
  · rw [gRd_n _ _ ((aM_inj A).n (by decide))]; exact h.1.2.2.2
theorem MS.wL {G : gG} {M0 M : gM} {A : Nat} {s : Nat → Int32} {c : Int64} {F : Nat → Nat → Int32} {L : Nat → Int64} (f : Nat → Int64) (h : MS G M0 M A s c F L) : MS G M0 (gWr M (aM A 30) (aL G 26 f)) A s c F f := by
  have hr := mK_lt (i := 30) rfl
  refine ⟨⟨(gRd_n _ _ ((aM_inj A).2 30)).trans h.1.1, fun j hj => ?_, ?_, gRd_s _ _ _⟩, fun q hq => (gRd_n _ _ (by unfold aM; omega)).trans (h.2.1 q hq), h.2.2⟩
  · have e : j ≠ 30 := fun q => by subst q; revert hj; decide
    rw [gRd_n _ _ ((aM_inj A).n e)]; exact h.1.2.1 j hj
  · rw [gRd_n _ _ ((aM_inj A).n (by decide))]; exact h.1.2.2.1
theorem p_expand (G : gG) (M : gM) (A : Nat) (s : Nat → Int32) (c : Int64) (F : Nat → Nat → Int32) (L : Nat → Int64) (md : Nat → Bool) (mn : Nat → Nat) (n gn : Nat) (Y : Int32 × yS) (h : ModAt G M A s c F L) (hM : BodOk (F 5) md mn) (h1 : s 1 = nI n) (h15 : s 15 = nI gn) (hn : n ≤ 60) (hgn : gn ≤ 200) (hY : mxF md (F 4) mn 8245 ((n, 0, 0, gn, 0), 4, cpI (F 0) n (F 10), F 12, F 11, F 13, F 17, F 18) = Y) : ∃ M1 : gM, Ev G 3 m_Mod_expand [.ref A] M (some (.int Y.1)) M1 ∧ MS G M M1 A (upd (upd (upd (upd s 14 (nI Y.2.1.1)) 15 (nI Y.2.1.2.2.2.1)) 16 (nI Y.2.1.2.2.1)) 22 (nI Y.2.1.2.2.2.2)) c (uF (uF (uF (uF (uF (uF F 13 Y.2.2.2.2.2.2.1) 17 Y.2.2.2.2.2.2.2.1) 18 Y.2.2.2.2.2.2.2.2) 10 Y.2.2.2.1) 12 Y.2.2.2.2.1) 11 Y.2.2.2.2.2.1) L := by
  have e9 := e_Mod_expand G M A (aM A) s c (F 4) (F 5) (F 0) (F 10) (F 11) (F 12) (F 13) (F 17) (F 18) md mn n gn (aM_inj A) h.1 (h.2.1 4 rfl) (h.2.1 5 rfl) (h.2.1 0 rfl) (h.2.1 10 rfl) (h.2.1 11 rfl) (h.2.1 12 rfl) (h.2.1 13 rfl) (h.2.1 17 rfl) (h.2.1 18 rfl) hM h1 h15 hn hgn
  rw [hY] at e9
  exact ⟨_, e9, (MS.wI 11 Y.2.2.2.2.2.1 rfl (MS.wI 12 Y.2.2.2.2.1 rfl (MS.wI 10 Y.2.2.2.1 rfl (MS.wA (upd (upd (upd (upd s 14 (nI Y.2.1.1)) 15 (nI Y.2.1.2.2.2.1)) 16 (nI Y.2.1.2.2.1)) 22 (nI Y.2.1.2.2.2.2)) c (MS.wI 18 Y.2.2.2.2.2.2.2.2 rfl (MS.wI 17 Y.2.2.2.2.2.2.2.1 rfl (MS.wI 13 Y.2.2.2.2.2.2.1 rfl (MS.rf h))))))))⟩
theorem p_clean (G : gG) (M : gM) (A : Nat) (s : Nat → Int32) (c : Int64) (F : Nat → Nat → Int32) (L : Nat → Int64) (n tn2 : Nat) (c2 s2 : Nat → Int32) (h : ModAt G M A s c F L) (hs : s 22 = nI n) (hn : n ≤ 120) (u1 : cnN n (F 17) (F 18) = tn2) (u2 : (cnC n (F 17) (F 18)).2.1 = c2) (u3 : (cnC n (F 17) (F 18)).2.2 = s2) : ∃ M1 : gM, Ev G 1 m_Mod_clean [.ref A] M none M1 ∧ MS G M M1 A (upd s 22 (nI tn2)) c (uF (uF F 17 c2) 18 s2) L := by
  have e9 := e_Mod_clean G M A (aM A) s c (F 17) (F 18) n (aM_inj A) h.1 (h.2.1 17 rfl) (h.2.1 18 rfl) hs hn
  rw [u1, u2, u3] at e9
  exact ⟨_, e9, (MS.wI 18 s2 rfl (MS.wI 17 c2 rfl (MS.wA (upd s 22 (nI tn2)) c (MS.rf h))))⟩
theorem p_hyphenate (G : gG) (M : gM) (A : Nat) (s : Nat → Int32) (c : Int64) (F : Nat → Nat → Int32) (L : Nat → Int64) (pn : Nat → Nat) (np n : Nat) (H : (Nat → Int32) × Nat) (h : ModAt G M A s c F L) (hP : PatOk np (F 8) pn) (h9 : s 9 = nI np) (h22 : s 22 = nI n) (hn : n ≤ 120) (hH : hyF n (F 17) (F 6) (F 7) pn np (n + 1) 0 (cpI (fun _ => 0) (n + 1) (F 24)) 0 = H) : ∃ M1 : gM, Ev G 2 m_Mod_hyphenate [.ref A] M none M1 ∧ MS G M M1 A (upd s 29 (nI H.2)) c (uF F 24 H.1) L := by
  have e9 := e_Mod_hyphenate G M A (aM A) s c (F 6) (F 7) (F 8) (F 17) (F 24) pn np n (aM_inj A) h.1 (h.2.1 6 rfl) (h.2.1 7 rfl) (h.2.1 8 rfl) (h.2.1 17 rfl) (h.2.2.1) hP h9 h22 hn
  rw [hH] at e9
  exact ⟨_, e9, (MS.wZ H.1 (MS.wA (upd s 29 (nI H.2)) c (MS.rf h)))⟩
theorem p_findBreaks (G : gG) (M : gM) (A : Nat) (s : Nat → Int32) (c : Int64) (F : Nat → Nat → Int32) (L : Nat → Int64) (n : Nat) (B : Bool × bS) (h : ModAt G M A s c F L) (h22 : s 22 = nI n) (hn : n ≤ 120) (hB : mbF n (F 17) (ptM (F 24)) n 0 (0, upd (F 25) 0 0, F 26, upd (F 27) 0 0) = B) : ∃ M1 : gM, Ev G 1 m_Mod_findBreaks [.ref A] M (some (.int (bI B.1))) M1 ∧ MS G M M1 A (upd s 28 (nI B.2.1)) c (uF (uF (uF F 25 B.2.2.1) 26 B.2.2.2.1) 27 B.2.2.2.2) L := by
  have e9 := e_Mod_findBreaks G M A (aM A) s c (F 17) (F 24) (F 25) (F 26) (F 27) n (aM_inj A) h.1 (h.2.1 17 rfl) (h.2.2.1) (h.2.1 25 rfl) (h.2.1 26 rfl) (h.2.1 27 rfl) h22 hn
  rw [hB] at e9
  exact ⟨_, e9, (MS.wI 27 B.2.2.2.2 rfl (MS.wI 26 B.2.2.2.1 rfl (MS.wI 25 B.2.2.1 rfl (MS.wA (upd s 28 (nI B.2.1)) c (MS.rf h)))))⟩
theorem p_solve (G : gG) (M : gM) (A : Nat) (s : Nat → Int32) (c : Int64) (F : Nat → Nat → Int32) (L : Nat → Int64) (nb n : Nat) (eN gN : Nat → Nat) (R : cS × mV) (h : ModAt G M A s c F L) (hL : LnM nb n eN gN (F 2) (F 17) (F 18) (F 25) (F 26) (F 27)) (h28 : s 28 = nI nb) (hR : slF nb (fun i j => meF (F 2) (F 3) (F 17) (F 18) (F 25) i j (eN j) (gN i)) (fun i j => pmF (F 3) (F 25) i j) nb ((vp_updL L nb 0, upd (F 31) nb 0, F 32), (s 33, s 34, s 35, s 36, s 37)) = R) : ∃ M1 : gM, Ev G 1 m_Mod_solve [.ref A] M none M1 ∧ MS G M M1 A (upd (upd (upd (upd (upd s 33 R.2.1) 34 R.2.2.1) 35 R.2.2.2.1) 36 R.2.2.2.2.1) 37 R.2.2.2.2.2) c (uF (uF F 31 R.1.2.1) 32 R.1.2.2) R.1.1 := by
  have e9 := e_Mod_solve G M A (aM A) s c (F 2) (F 3) (F 17) (F 18) (F 25) (F 26) (F 27) (F 31) (F 32) L nb n eN gN (aM_inj A) h.1 (h.2.1 2 rfl) (h.2.1 3 rfl) (h.2.1 17 rfl) (h.2.1 18 rfl) (h.2.1 25 rfl) (h.2.1 26 rfl) (h.2.1 27 rfl) (h.2.2.2) (h.2.1 31 rfl) (h.2.1 32 rfl) hL h28
  rw [hR] at e9
  exact ⟨_, e9, (MS.wA (upd (upd (upd (upd (upd s 33 R.2.1) 34 R.2.2.1) 35 R.2.2.2.1) 36 R.2.2.2.2.1) 37 R.2.2.2.2.2) c (MS.wI 32 R.1.2.2 rfl (MS.wI 31 R.1.2.1 rfl (MS.wL R.1.1 (MS.rf h)))))⟩
