/-! the two solvers' hypotheses -/
theorem nb_iff (K : Nat → Int32) : ∀ r k, nbF K r k = true ↔ ∀ t, k ≤ t → t < k + r → ¬ K t = 3
  | 0, k => by simp [nbF]; intro t a b; omega
  | r + 1, k => by
    simp only [nbF]
    by_cases h : K k = 3
    · rw [if_pos h]; exact ⟨fun q => absurd q (by decide), fun q => absurd h (q k (Nat.le_refl _) (by omega))⟩
    · rw [if_neg h, nb_iff K r (k + 1)]
      constructor
      · intro q t a b
        by_cases e : t = k
        · subst e; exact h
        · exact q t (by omega) (by omega)
      · exact fun q t a b => q t (by omega) (by omega)
theorem it_s {tn : Nat} {c s ci si wo wt : Nat → Int32} (h : ItR tn c s ci si wo wt) {k : Nat} (hk : k < tn) :
    stI s k = nI (vN (stI s k)) ∧ vN (stI s k) ≤ 5 ∧ (if cSpc (ci k) = true then (si k + 1) / 2 else 0) = stI s k ∧
    shI s k = nI (vN (shI s k)) ∧ vN (shI s k) ≤ 3 ∧ (if cSpc (ci k) = true then si k / 3 else 0) = shI s k := by
  obtain ⟨a1, a2, a3, a4, a5⟩ := h.1 k hk
  obtain ⟨b1, b2, b3, b4⟩ := sp9_1 a4
  refine ⟨(vN_e b1).1, vN_le b1 b2 (by decide), ?_, (vN_e b3).1, vN_le b3 b4 (by decide), ?_⟩
  · unfold stI
    rw [a1, a2]
    by_cases q : cSpc (c k) = true
    · rw [if_pos q]
    · rw [if_neg q, a5 (by simpa using q)]; decide
  · unfold shI
    rw [a1, a2]
    by_cases q : cSpc (c k) = true
    · rw [if_pos q]
    · rw [if_neg q, a5 (by simpa using q)]; decide
theorem ms_t {wt ci si : Nat → Int32} {T1 T2 : Nat → Nat} : ∀ (r k s h : Nat) (T : Int32 × Bool × Int32 × Int32), T.2.2.1 = nI s → T.2.2.2 = nI h → (∀ i, i < r → (if cSpc (ci (k + i)) = true then (si (k + i) + 1) / 2 else 0) = nI (T1 (k + i)) ∧ (if cSpc (ci (k + i)) = true then si (k + i) / 3 else 0) = nI (T2 (k + i))) →
    (msF wt ci si r k T).2.2.1 = nI (s + sumN T1 r k) ∧ (msF wt ci si r k T).2.2.2 = nI (h + sumN T2 r k)
  | 0, k, s, h, T, e1, e2, _ => ⟨e1, e2⟩
  | r + 1, k, s, h, T, e1, e2, hz => by
    obtain ⟨z2, z3⟩ := hz 0 (by omega)
    simp only [Nat.add_zero] at z2 z3
    have ih := ms_t (wt := wt) (ci := ci) (si := si) (T1 := T1) (T2 := T2) r (k + 1) (s + T1 k) (h + T2 k) (msS wt ci si k T) (by
      unfold msS
      by_cases c : cSpc (ci k) = true
      · rw [if_pos c] at z2; rw [if_pos c]; show T.2.2.1 + _ = _; rw [e1, z2, nI_add]
      · rw [if_neg c] at z2; rw [if_neg c]; show T.2.2.1 = _; rw [e1, ← nI_add, ← z2, Int32.add_zero]) (by
      unfold msS
      by_cases c : cSpc (ci k) = true
      · rw [if_pos c] at z3; rw [if_pos c]; show T.2.2.2 + _ = _; rw [e2, z3, nI_add]
      · rw [if_neg c] at z3; rw [if_neg c]; show T.2.2.2 = _; rw [e2, ← nI_add, ← z3, Int32.add_zero]) (fun i hi => by
      rw [show k + 1 + i = k + (i + 1) from by omega]; exact hz (i + 1) (by omega))
    rw [show sumN T1 (r + 1) k = T1 k + sumN T1 r (k + 1) from rfl, show sumN T2 (r + 1) k = T2 k + sumN T2 r (k + 1) from rfl, ← Nat.add_assoc, ← Nat.add_assoc]
    exact ih
theorem fs_le {ci : Nat → Int32} : ∀ r f, f ≤ fsF ci r f ∧ fsF ci r f ≤ f + r
  | 0, f => ⟨Nat.le_refl _, Nat.le_refl _⟩
  | r + 1, f => by
    simp only [fsF]
    by_cases c : ci f = 32
    · rw [if_pos c]; have := fs_le (ci := ci) r (f + 1); omega
    · rw [if_neg c]; omega
theorem itm_v {x : Int32} (h : cItm x = true) : x = nI x.toNatClampNeg ∧ x.toNatClampNeg < 128 := by
  have hx : 0 ≤ x ∧ x ≤ 126 := by
    simp only [cItm, cWid, cSpc, cLet, Bool.or_eq_true, Bool.and_eq_true, decide_eq_true_eq, ← Int32.toInt_inj, i32_le] at h ⊢
    have : (97 : Int32).toInt = 97 := rfl
    have : (122 : Int32).toInt = 122 := rfl
    have : (45 : Int32).toInt = 45 := rfl
    have : (32 : Int32).toInt = 32 := rfl
    have : (126 : Int32).toInt = 126 := rfl
    have : (124 : Int32).toInt = 124 := rfl
    have : (0 : Int32).toInt = 0 := rfl
    omega
  have a := vN_e hx.1
  have b := vN_le (m := 126) hx.1 hx.2 (by decide)
  exact ⟨a.1, Nat.lt_of_le_of_lt b (by decide)⟩
/-- the parameters as numbers -/
def PrR (PP : Nat → Int32) (P0 P1 A2 A3 A4 : Nat) : Prop := PP 0 = nI P0 ∧ PP 1 = nI P1 ∧ PP 2 = nI A2 ∧ PP 3 = nI A3 ∧ PP 4 = nI A4 ∧ P0 ≤ 400 ∧ P1 ≤ 10000 ∧ A2 ≤ 100 ∧ A3 ≤ 200 ∧ A4 ≤ 10000
section
variable {tn N : Nat} {c s ci si wo wt PP PP' W9 S9 H9 L9 D9 : Nat → Int32} {S S' : bS} {eN gC gM : Nat → Nat} {P0 P1 A2 A3 A4 : Nat}
theorem Br.g_le (h : Br c tn tn N S S' eN gC gM) {i : Nat} (hi : i ≤ S.1) : gM i ≤ tn ∧ gC i ≤ tn ∧ Gd c tn (gC i) (gM i) ∨ i = 0 ∧ gM i = 0 ∧ gC i = 0 := by
  obtain ⟨h1, h2, ⟨z1, z2, z3, z4, z5, z6, z7, z8⟩, h4, h5, h6, h7⟩ := h
  by_cases e : i = 0
  · subst e; exact Or.inr ⟨rfl, z8, z7⟩
  · obtain ⟨⟨a1, a2, a3, a4, a5, a6, a7⟩, b⟩ := h4 i (by omega) hi
    refine Or.inl ⟨a4, ?_, a7⟩
    rcases a7 with ⟨u, v⟩ | ⟨u, v, w⟩ <;> omega
theorem Br.gd (h : Br c tn tn N S S' eN gC gM) (hT : TX tn c) {i : Nat} (hi : i ≤ S.1) : gM i ≤ tn ∧ gC i ≤ tn ∧ Gd c tn (gC i) (gM i) := by
  rcases h.g_le hi with q | ⟨q1, q2, q3⟩
  · exact q
  · rw [q2, q3]; exact ⟨Nat.zero_le _, Nat.zero_le _, Or.inl ⟨rfl, fun w => hT.1 w⟩⟩
theorem Br.ge (h : Br c tn tn N S S' eN gC gM) (hT : TX tn c) {i j : Nat} (hi : i < j) (hj : j ≤ S.1) : gC i ≤ eN j ∨ (gC i = eN j + 1 ∧ gM i = eN j ∧ eN j < tn ∧ c (eN j) = 32) := by
  have a := h.2.2.2.2.1 i j hi hj
  rcases (h.gd hT (i := i) (by omega)).2.2 with ⟨u, v⟩ | ⟨u, v, w, x⟩
  · left; omega
  · by_cases e : gM i = eN j
    · right; exact ⟨by omega, e, by omega, by rw [← e]; exact w⟩
    · left; omega
theorem ln_ok (h : Br c tn tn N S S' eN gC gM) (hT : TX tn c) (htn : tn ≤ 120) (hI : ItR tn c s ci si wo wt) : LnOk S.1 eN gC S.2.2.1 S.2.2.2 (smI (stI s) S9 tn) (smI (shI s) H9 tn) := by
  obtain ⟨h1, h2, ⟨z1, z2, z3, z4, z5, z6, z7, z8⟩, h4, h5, h6, h7⟩ := id h
  refine ⟨h2, fun j hj => ?_, fun i hi => ?_, fun i j hi hj x hx hx0 => ?_⟩
  · by_cases e : j = 0
    · subst e; rw [z3, z6]; exact ⟨rfl, by omega⟩
    · obtain ⟨⟨a1, a2, a3, a4, a5, a6, a7⟩, b⟩ := h4 j (by omega) hj
      exact ⟨b.2.1, by omega⟩
  · by_cases e : i = 0
    · subst e; rw [z4, z7]; exact ⟨rfl, by omega⟩
    · have := (h.gd hT hi).2.1
      exact ⟨(h4 i (by omega) hi).2.2.2.2.1, by omega⟩
  · have en := (h4 j (by omega) hj).1.2.2.1
    rcases h.ge hT hi hj with q | ⟨q1, q2, q3, q4⟩
    · have d1 := sm_d (F := S9) (Z := fun k => vN (stI s k)) (f := stI s) (n := tn) q en (fun k _ b => (it_s hI (k := k) (by omega)).1)
      have d2 := sm_d (F := H9) (Z := fun k => vN (shI s k)) (f := shI s) (n := tn) q en (fun k _ b => (it_s hI (k := k) (by omega)).2.2.2.1)
      have l1 := sumN_le (F := fun k => vN (stI s k)) (a := 5) (eN j - gC i) (gC i) (fun k hk => (it_s hI (k := gC i + k) (by omega)).2.1)
      have l2 := sumN_le (F := fun k => vN (shI s k)) (a := 3) (eN j - gC i) (gC i) (fun k hk => (it_s hI (k := gC i + k) (by omega)).2.2.2.2.1)
      rcases hx with hx | hx
      · rw [d1] at hx; rw [hx] at hx0 ⊢; exact cube_n (by omega) hx0
      · rw [d2] at hx; rw [hx] at hx0 ⊢; exact cube_n (by omega) hx0
    · have m : ∀ (f F : Nat → Int32) (v : Nat), f (eN j) = nI v → smI f F tn (eN j) - smI f F tn (eN j + 1) = - nI v := by
        intro f F v e
        rw [smI_s _ _ _ _ q3, e, Int32.sub_eq_add_neg, Int32.neg_add, Int32.sub_eq_add_neg, ← Int32.add_assoc, show smI f F tn (eN j) + - smI f F tn (eN j) = 0 from by rw [← Int32.sub_eq_add_neg]; exact Int32.sub_self _, Int32.zero_add]
      obtain ⟨w1, w2, _, w4, w5, _⟩ := it_s hI q3
      rcases hx with hx | hx
      · rw [q1, m _ _ _ w1] at hx; rw [hx] at hx0 ⊢; exact cube_m (by omega) hx0
      · rw [q1, m _ _ _ w4] at hx; rw [hx] at hx0 ⊢; exact cube_m (by omega) hx0
theorem ln_m (h : Br c tn tn N S S' eN gC gM) (hT : TX tn c) (htn : tn ≤ 120) (hI : ItR tn c s ci si wo wt) : LnM S'.1 tn eN gM wt ci si S'.2.1 S'.2.2.1 S'.2.2.2 := by
  obtain ⟨h1, h2, ⟨z1, z2, z3, z4, z5, z6, z7, z8⟩, h4, h5, h6, h7⟩ := id h
  rw [h1] at h2 h4 h5
  refine ⟨h2, htn, fun j a b => ?_, fun i hi => ?_, fun k hk => ?_, fun i j hi hj x hx hx0 => ?_⟩
  · obtain ⟨⟨a1, a2, a3, a4, a5, a6, a7⟩, b⟩ := h4 j a b
    exact ⟨b.2.2.1, a3⟩
  · have g := (h.gd hT (i := i) (by omega)).1
    by_cases e : i = 0
    · subst e; rw [z5, z8]; exact ⟨rfl, by omega⟩
    · exact ⟨(h4 i (by omega) (by omega)).2.2.2.2.2, by omega⟩
  · obtain ⟨a1, a2, a3, a4, a5⟩ := hI.1 k hk
    rw [a1]; exact itm_v a3
  · have en := (h4 j (by omega) hj).1.2.2.1
    have fl := fs_le (ci := ci) (eN j - gM i) (gM i)
    have ge := h5 i j hi hj
    have t := ms_t (wt := wt) (ci := ci) (si := si) (T1 := fun k => vN (stI s k)) (T2 := fun k => vN (shI s k)) (eN j - fsF ci (eN j - gM i) (gM i)) (fsF ci (eN j - gM i) (gM i)) 0 0 ((if S'.2.1 j = 2 then wt 45 else 0), false, 0, 0) rfl rfl (fun k hk => by
      obtain ⟨w1, w2, w3, w4, w5, w6⟩ := it_s hI (k := fsF ci (eN j - gM i) (gM i) + k) (by omega)
      exact ⟨w3.trans w1, w6.trans w4⟩)
    have l1 := sumN_le (F := fun k => vN (stI s k)) (a := 5) (eN j - fsF ci (eN j - gM i) (gM i)) (fsF ci (eN j - gM i) (gM i)) (fun k hk => (it_s hI (k := _ + k) (by omega)).2.1)
    have l2 := sumN_le (F := fun k => vN (shI s k)) (a := 3) (eN j - fsF ci (eN j - gM i) (gM i)) (fsF ci (eN j - gM i) (gM i)) (fun k hk => (it_s hI (k := _ + k) (by omega)).2.2.2.2.1)
    unfold msT at hx
    rw [t.1, t.2] at hx
    rcases hx with hx | hx
    · rw [hx] at hx0 ⊢; exact cube_n (by omega) hx0
    · rw [hx] at hx0 ⊢; exact cube_n (by omega) hx0
/-- the numbers of the line from break i to break j -/
theorem ln_num (h : Br c tn tn N S S' eN gC gM) (hT : TX tn c) (htn : tn ≤ 120) (hI : ItR tn c s ci si wo wt) {i j : Nat} (hi : i < j) (hj : j ≤ S.1) (ho : ∀ t, i < t → t < j → ¬ S.2.1 t = 3) (hg : gC i ≤ eN j) :
    ∃ NW N1 N2 NL a : Nat, LnN tn c s wo (gC i) (eN j) NW N1 N2 NL ∧ a ≤ 20 ∧ (if S.2.1 j = 2 then wo 26 else 0) = nI a ∧ msT wt ci si S'.2.1 j (eN j) (gM i) = (nI (NW + a), decide (0 < NL), nI N1, nI N2) ∧ fsF ci (eN j - gM i) (gM i) = gC i := by
  have hj4 := h.2.2.2.1 j (by omega) hj
  have en := hj4.1.2.2.1
  have gd := h.gd hT (i := i) (by omega)
  have ge := h.2.2.2.2.1 i j hi hj
  have fs := fs_g (ci := ci) (fun k hk => (hI.1 k hk).1) gd.2.2 ge en hg
  have nb : ∀ k, gC i ≤ k → k < eN j → ¬ c k = 124 := fun k a b => h.ib hi hj ho k (by
    rcases gd.2.2 with ⟨u, v⟩ | ⟨u, v⟩ <;> omega) b
  obtain ⟨NW, N1, N2, NL, A, B⟩ := ln_A hI htn hg en nb
  have w45 := hI.2 45 (by decide)
  rw [show (45 : Int32).toNatClampNeg = 45 from rfl, show (wIx 45).toNatClampNeg = 26 from rfl] at w45
  have v45 := vN_e (x := wo 26) (by rw [← w45.1]; exact Int32.le_trans (by decide) w45.2.1)
  have l45 := vN_le (x := wo 26) (m := 20) (by rw [← w45.1]; exact Int32.le_trans (by decide) w45.2.1) (by rw [← w45.1]; exact w45.2.2) (by decide)
  refine ⟨NW, N1, N2, NL, if S.2.1 j = 2 then vN (wo 26) else 0, A, by split <;> omega, ?_, ?_, fs⟩
  · by_cases q : S.2.1 j = 2
    · rw [if_pos q, if_pos q]; exact v45.1
    · rw [if_neg q, if_neg q]; rfl
  · unfold msT
    rw [fs, hj4.2.1, w45.1]
    by_cases q : S.2.1 j = 2
    · rw [if_pos q, if_pos q, v45.1, B, Nat.add_comm, ← v45.1]
    · rw [if_neg q, if_neg q]
      have := B 0
      rw [nI_0] at this
      rw [this, Nat.add_comm]
theorem me_v (h : Br c tn tn N S S' eN gC gM) (hP' : PrR PP' P0 P1 A2 A3 A4) {i j : Nat} (hi : i < j) (hj : j ≤ S.1) (ho : ∀ t, i < t → t < j → ¬ S.2.1 t = 3) {NW N1 N2 NL a : Nat} (hm : msT wt ci si S'.2.1 j (eN j) (gM i) = (nI (NW + a), decide (0 < NL), nI N1, nI N2)) (hf : fsF ci (eN j - gM i) (gM i) = gC i) (V : mV) : meF wt PP' ci si S'.2.1 i j (eN j) (gM i) V = ((mR (S.2.1 j) (nI P0) (nI P1) (nI (NW + a)) (nI N1) (nI N2) (decide (0 < NL))).1, (nI (gC i), nI (NW + a), nI N1, nI N2, (mR (S.2.1 j) (nI P0) (nI P1) (nI (NW + a)) (nI N1) (nI N2) (decide (0 < NL))).2)) := by
  obtain ⟨r0, r1, r2, r3, r4, _⟩ := hP'
  have hj4 := h.2.2.2.1 j (by omega) hj
  have nbf : nbF S'.2.1 (j - (i + 1)) (i + 1) = true := by
    rw [nb_iff]; intro t a b
    rw [(h.2.2.2.1 t (by omega) (by omega)).2.1]; exact ho t (by omega) (by omega)
  have hm' : msF wt ci si (eN j - fsF ci (eN j - gM i) (gM i)) (fsF ci (eN j - gM i) (gM i)) ((if S'.2.1 j = 2 then wt 45 else 0), false, 0, 0) = (nI (NW + a), decide (0 < NL), nI N1, nI N2) := hm
  unfold meF mR
  rw [if_pos nbf, hm', hf, r0, r1, hj4.2.1]
  simp only
  by_cases z : decide (0 < NL) = true
  · rw [if_pos z, if_pos z]; rfl
  · rw [if_neg z, if_neg z]
theorem pairs (h : Br c tn tn N S S' eN gC gM) (hT : TX tn c) (htn : tn ≤ 120) (hI : ItR tn c s ci si wo wt) (hP : PrR PP P0 P1 A2 A3 A4) (hP' : PrR PP' P0 P1 A2 A3 A4) {i j : Nat} (hi : i < j) (hj : j ≤ S.1) (ho : ∀ t, i < t → t < j → ¬ S.2.1 t = 3) :
    Pair (lnB eN gC S.2.1 (smI (wdI wo c s) W9 tn) (smI (stI s) S9 tn) (smI (shI s) H9 tn) (smI (leI c) L9 tn) (smI (daI c) D9 tn) PP (wo 26) i j) (prI PP S.2.1 i j (lnB eN gC S.2.1 (smI (wdI wo c s) W9 tn) (smI (stI s) S9 tn) (smI (shI s) H9 tn) (smI (leI c) L9 tn) (smI (daI c) D9 tn) PP (wo 26) i j)) (fun V => meF wt PP' ci si S'.2.1 i j (eN j) (gM i) V) (fun b => pmF PP' S'.2.1 i j b) := by
  obtain ⟨p0, p1, p2, p3, p4, q0, q1, q2, q3, q4⟩ := hP
  obtain ⟨r0, r1, r2, r3, r4, _⟩ := id hP'
  have hj4 := h.2.2.2.1 j (by omega) hj
  have nbf : nbF S'.2.1 (j - (i + 1)) (i + 1) = true := by
    rw [nb_iff]; intro t a b
    rw [(h.2.2.2.1 t (by omega) (by omega)).2.1]; exact ho t (by omega) (by omega)
  rcases h.ge hT hi hj with q | ⟨e1, e2, e3, e4⟩
  · obtain ⟨NW, N1, N2, NL, a, A, ha, hd, hm, hf⟩ := ln_num h hT htn hI hi hj ho q
    have bd := bd_md (P0 := P0) (T := P1) (N := NW + a) (N1 := N1) (N2 := N2) (NL := NL) (kj := S.2.1 j) (K := S.2.1) (j := j) q0 q1 (by have := A.bw; omega) A.b1 A.b2 A.bl hj4.1.2.2.2.2.2.1 (A.l L9 D9) rfl
    have el : lnB eN gC S.2.1 (smI (wdI wo c s) W9 tn) (smI (stI s) S9 tn) (smI (shI s) H9 tn) (smI (leI c) L9 tn) (smI (daI c) D9 tn) PP (wo 26) i j = bdI (smI (leI c) L9 tn (eN j) - smI (leI c) L9 tn (gC i)) (smI (daI c) D9 tn (eN j) - smI (daI c) D9 tn (gC i)) (nI P0 - nI (NW + a)) (loI S.2.1 (nI P0 - nI (NW + a)) j) (nI N1) (nI N2) (nI P1) := by
      unfold lnB dfI naI
      rw [A.w, A.st, A.sh, hd, nI_add, p0, p1]
    have em := me_v (wt := wt) (ci := ci) (si := si) h hP' hi hj ho hm hf
    rw [el]
    rcases bd with ⟨b1, b2⟩ | ⟨b, b1, b2, b3⟩
    · left
      exact ⟨fun V => by simp only [em V]; exact b1, b2⟩
    · right
      refine ⟨b, prN A2 A3 A4 (decide (S.2.1 j = 2)) (decide (S.2.1 i = 2)) b, prN_le q2 q3 q4 b1, fun V => ?_, ?_, ?_, ?_⟩
      · simp only [em V, b2]; exact ⟨trivial, trivial⟩
      · rw [b3]
        intro w
        have := (pk_lT (n := b) (by omega)).symm.trans (congrArg Int64.toInt w)
        have e : (-1 : Int64).toInt = -1 := rfl
        omega
      · rw [b3]; exact pr_c p2 p3 p4 q2 q3 q4
      · exact pr_m r2 r3 r4 q2 q3 q4 b1 h.2.2.1.1 (fun w => (h.2.2.2.1 i w (by omega)).2.1) hj4.2.1
  · left
    refine ⟨fun V => ?_, ?_⟩
    · show (meF wt PP' ci si S'.2.1 i j (eN j) (gM i) V).1 = false
      unfold meF
      rw [if_pos nbf, e2, Nat.sub_self]
      have z : fsF ci 0 (eN j) = eN j := rfl
      simp only [z, Nat.sub_self]
      rfl
    · unfold lnB bdI
      rw [e1, if_pos (ln_B (s := s) e3 e4 L9 D9)]
theorem closed (h : Br c tn tn N S S' eN gC gM) {i j : Nat} (hi : i < j) (hj : j ≤ S.1) (ho : ∃ t, i < t ∧ t < j ∧ S.2.1 t = 3) (V : mV) : (meF wt PP' ci si S'.2.1 i j (eN j) (gM i) V).1 = false := by
  obtain ⟨t, t1, t2, t3⟩ := ho
  unfold meF
  rw [if_neg]
  rw [nb_iff]
  intro q
  exact q t (by omega) (by omega) (by rw [(h.2.2.2.1 t (by omega) (by omega)).2.1]; exact t3)
end
