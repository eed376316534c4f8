/-! sums and badness -/
def sumN (F : Nat → Nat) : Nat → Nat → Nat
  | 0, _ => 0
  | r + 1, k => F k + sumN F r (k + 1)
theorem sumN_s (F : Nat → Nat) : ∀ r k, sumN F (r + 1) k = sumN F r k + F (k + r)
  | 0, k => by simp [sumN]
  | r + 1, k => by
    rw [show sumN F (r + 1 + 1) k = F k + sumN F (r + 1) (k + 1) from rfl, sumN_s F r (k + 1), show k + 1 + r = k + (r + 1) from by omega]
    simp only [sumN]; omega
theorem sumN_le {F : Nat → Nat} {a : Nat} : ∀ r k, (∀ i, i < r → F (k + i) ≤ a) → sumN F r k ≤ a * r
  | 0, k, _ => Nat.zero_le _
  | r + 1, k, h => by
    have h0 := h 0 (by omega)
    have ih := sumN_le (F := F) (a := a) r (k + 1) (fun i hi => by rw [show k + 1 + i = k + (i + 1) from by omega]; exact h (i + 1) (by omega))
    simp only [sumN, Nat.add_zero] at h0 ⊢
    rw [Nat.mul_succ]; omega
theorem smI_s (f F : Nat → Int32) : ∀ n k, k + 1 ≤ n → smI f F n (k + 1) = smI f F n k + f k
  | 0, k, h => absurd h (by omega)
  | n + 1, k, h => by
    simp only [smI]
    by_cases e : k = n
    · subst e; rw [pk_us, pk_un (by omega)]
    · rw [pk_un (by omega), pk_un (by omega)]; exact smI_s f F n k (by omega)
theorem sm_a {f F : Nat → Int32} {n g : Nat} {Z : Nat → Nat} : ∀ r, g + r ≤ n → (∀ i, i < r → f (g + i) = nI (Z (g + i))) → smI f F n (g + r) = smI f F n g + nI (sumN Z r g)
  | 0, _, _ => by
    show smI f F n g = smI f F n g + nI 0
    rw [nI_0, Int32.add_zero]
  | r + 1, h, hz => by
    rw [show g + (r + 1) = g + r + 1 from rfl, smI_s f F n (g + r) (by omega), sm_a r (by omega) (fun i hi => hz i (by omega)), hz r (by omega), sumN_s, ← nI_add, Int32.add_assoc]
theorem i32_asa (a b : Int32) : a + b - a = b := by rw [Int32.add_comm]; exact Int32.add_sub_cancel b a
theorem sm_d {f F : Nat → Int32} {n g e : Nat} {Z : Nat → Nat} (h1 : g ≤ e) (h2 : e ≤ n) (hz : ∀ i, g ≤ i → i < e → f i = nI (Z i)) : smI f F n e - smI f F n g = nI (sumN Z (e - g) g) := by
  have := sm_a (f := f) (F := F) (n := n) (g := g) (Z := Z) (e - g) (by omega) (fun i hi => hz (g + i) (by omega) (by omega))
  rw [show g + (e - g) = e from by omega] at this
  rw [this, i32_asa]
def vN (x : Int32) : Nat := x.toNatClampNeg
theorem vN_e {x : Int32} (h : 0 ≤ x) : x = nI (vN x) ∧ vN x < 2 ^ 31 := by
  obtain ⟨j, hj, rfl⟩ := nI_of (x := x) (Int32.not_lt.mpr h)
  have : vN (nI j) = j := nI_clamp hj
  rw [this]; exact ⟨rfl, hj⟩
theorem ms_v {wt ci si : Nat → Int32} {Z T1 T2 : Nat → Nat} : ∀ (r k a s h : Nat) (b : Bool), (∀ i, i < r → szI wt ci si (k + i) = nI (Z (k + i)) ∧ (if cSpc (ci (k + i)) = true then (si (k + i) + 1) / 2 else 0) = nI (T1 (k + i)) ∧ (if cSpc (ci (k + i)) = true then si (k + i) / 3 else 0) = nI (T2 (k + i))) →
    msF wt ci si r k (nI a, b, nI s, nI h) = (nI (a + sumN Z r k), b || decide (0 < nP (fun i => !cSpc (ci i)) r k), nI (s + sumN T1 r k), nI (h + sumN T2 r k))
  | 0, k, a, s, h, b, _ => by simp [msF, sumN, nP]
  | r + 1, k, a, s, h, b, hz => by
    obtain ⟨z1, z2, z3⟩ := hz 0 (by omega)
    simp only [Nat.add_zero] at z1 z2 z3
    have ih := ms_v (wt := wt) (ci := ci) (si := si) (Z := Z) (T1 := T1) (T2 := T2) r (k + 1)
    have hz' : ∀ i, i < r → szI wt ci si (k + 1 + i) = nI (Z (k + 1 + i)) ∧ (if cSpc (ci (k + 1 + i)) = true then (si (k + 1 + i) + 1) / 2 else 0) = nI (T1 (k + 1 + i)) ∧ (if cSpc (ci (k + 1 + i)) = true then si (k + 1 + i) / 3 else 0) = nI (T2 (k + 1 + i)) := fun i hi => by
      rw [show k + 1 + i = k + (i + 1) from by omega]; exact hz (i + 1) (by omega)
    have y0 : msF wt ci si (r + 1) k (nI a, b, nI s, nI h) = msF wt ci si r (k + 1) (msS wt ci si k (nI a, b, nI s, nI h)) := rfl
    have y1 : sumN Z (r + 1) k = Z k + sumN Z r (k + 1) := rfl
    have y2 : sumN T1 (r + 1) k = T1 k + sumN T1 r (k + 1) := rfl
    have y3 : sumN T2 (r + 1) k = T2 k + sumN T2 r (k + 1) := rfl
    have y4 : nP (fun i => !cSpc (ci i)) (r + 1) k = (if (!cSpc (ci k)) = true then 1 else 0) + nP (fun i => !cSpc (ci i)) r (k + 1) := rfl
    unfold szI at z1
    by_cases c : cSpc (ci k) = true
    · rw [if_pos c] at z1 z2 z3
      have y5 : msS wt ci si k (nI a, b, nI s, nI h) = (nI (a + Z k), b, nI (s + T1 k), nI (h + T2 k)) := by
        show (if cSpc (ci k) = true then (nI a + si k, b, nI s + (si k + 1) / 2, nI h + si k / 3) else _) = _
        rw [if_pos c, z2, z3, z1, nI_add, nI_add, nI_add]
      rw [if_neg (by simp [c]), Nat.zero_add] at y4
      rw [y0, y5, ih _ _ _ _ hz', y1, y2, y3, y4, Nat.add_assoc, Nat.add_assoc, Nat.add_assoc]
    · rw [if_neg c] at z1 z2 z3
      have y5 : msS wt ci si k (nI a, b, nI s, nI h) = (nI (a + Z k), true, nI s, nI h) := by
        show (if cSpc (ci k) = true then _ else (nI a + wt (ci k).toNatClampNeg, true, nI s, nI h)) = _
        rw [if_neg c, z1, nI_add]
      rw [if_pos (by simp [c])] at y4
      have y6 : nI (s + (T1 k + sumN T1 r (k + 1))) = nI (s + sumN T1 r (k + 1)) := by rw [← nI_add s, ← nI_add (T1 k), ← z2, Int32.zero_add, nI_add]
      have y7 : nI (h + (T2 k + sumN T2 r (k + 1))) = nI (h + sumN T2 r (k + 1)) := by rw [← nI_add h, ← nI_add (T2 k), ← z3, Int32.zero_add, nI_add]
      have y8 : decide (0 < 1 + nP (fun i => !cSpc (ci i)) r (k + 1)) = true := by simp; omega
      rw [y0, y5, ih _ _ _ _ hz', y1, y2, y3, y4, y6, y7, y8, Bool.true_or, Bool.or_true, Nat.add_assoc]
/-- what is known of the items -/
def ItR (tn : Nat) (c s ci si wo wt : Nat → Int32) : Prop := (∀ k, k < tn → ci k = c k ∧ si k = s k ∧ cItm (c k) = true ∧ sp9 (s k) ∧ (cSpc (c k) = false → s k = 0)) ∧ ∀ x, cWid x = true → wt x.toNatClampNeg = wo (wIx x).toNatClampNeg ∧ 1 ≤ wt x.toNatClampNeg ∧ wt x.toNatClampNeg ≤ 20
theorem sp9_1 {x : Int32} (h : sp9 x) : 0 ≤ (x + 1) / 2 ∧ (x + 1) / 2 ≤ 5 ∧ 0 ≤ x / 3 ∧ x / 3 ≤ 3 := by
  rcases sp9_c h with rfl | rfl | rfl | rfl | rfl | rfl | rfl | rfl | rfl | rfl <;> decide
theorem vN_le {x : Int32} {m : Nat} (h0 : 0 ≤ x) (h : x ≤ nI m) (hm : m < 2 ^ 31) : vN x ≤ m := by
  obtain ⟨e, l⟩ := vN_e h0
  rw [e] at h; exact (nI_leI l hm).mp h
theorem it_k {tn : Nat} {c s ci si wo wt : Nat → Int32} (h : ItR tn c s ci si wo wt) {k : Nat} (hk : k < tn) (hb : ¬ c k = 124) :
    wdI wo c s k = nI (vN (wdI wo c s k)) ∧ vN (wdI wo c s k) ≤ 20 ∧ szI wt ci si k = wdI wo c s k ∧
    stI s k = nI (vN (stI s k)) ∧ vN (stI s k) ≤ 5 ∧ (if cSpc (ci k) = true then (si k + 1) / 2 else 0) = stI s k ∧
    shI s k = nI (vN (shI s k)) ∧ vN (shI s k) ≤ 3 ∧ (if cSpc (ci k) = true then si k / 3 else 0) = shI s k ∧
    (!cSpc (ci k)) = (cLet (c k) || decide (c k = 45)) ∧ ¬ (cLet (c k) = true ∧ c k = 45) := by
  obtain ⟨a1, a2, a3, a4, a5⟩ := h.1 k hk
  obtain ⟨b1, b2, b3, b4⟩ := sp9_1 a4
  have hs : wdI wo c s k = szI wt ci si k ∧ 0 ≤ wdI wo c s k ∧ wdI wo c s k ≤ 20 := by
    unfold wdI szI
    rw [a1, a2]
    simp only [cItm, Bool.or_eq_true, decide_eq_true_eq, hb, or_false] at a3
    rcases a3 with w | w
    · have ns : ¬ cSpc (c k) = true := by
        intro q
        simp only [cSpc, Bool.or_eq_true, decide_eq_true_eq] at q
        rcases q with q | q <;> (rw [q] at w; revert w; decide)
      rw [if_pos w, if_neg ns]
      obtain ⟨w1, w2, w3⟩ := h.2 (c k) w
      rw [← w1]
      exact ⟨rfl, Int32.le_trans (by decide) w2, w3⟩
    · have nw : ¬ cWid (c k) = true := by
        simp only [cSpc, Bool.or_eq_true, decide_eq_true_eq] at w
        intro q
        rcases w with w | w <;> (rw [w] at q; revert q; decide)
      rw [if_neg nw, if_pos w]
      exact ⟨rfl, a4.1, Int32.le_trans a4.2 (by decide)⟩
  have e1 : (if cSpc (ci k) = true then (si k + 1) / 2 else 0) = stI s k := by
    unfold stI
    rw [a1, a2]
    by_cases q : cSpc (c k) = true
    · rw [if_pos q]
    · rw [if_neg q, a5 (by simpa using q)]; decide
  have e2 : (if cSpc (ci k) = true then si k / 3 else 0) = shI s k := by
    unfold shI
    rw [a1, a2]
    by_cases q : cSpc (c k) = true
    · rw [if_pos q]
    · rw [if_neg q, a5 (by simpa using q)]; decide
  refine ⟨(vN_e hs.2.1).1, vN_le hs.2.1 hs.2.2 (by decide), hs.1.symm, (vN_e b1).1, vN_le b1 b2 (by decide), e1, (vN_e b3).1, vN_le b3 b4 (by decide), e2, ?_, ?_⟩
  · rw [a1]
    simp only [cItm, cWid, Bool.or_eq_true, decide_eq_true_eq, hb, or_false] at a3
    rcases a3 with (w | w) | w
    · rw [w, Bool.true_or]
      have : cSpc (c k) = false := by
        cases q : cSpc (c k) with
        | false => rfl
        | true =>
          simp only [cSpc, Bool.or_eq_true, decide_eq_true_eq] at q
          rcases q with q | q <;> (rw [q] at w; revert w; decide)
      rw [this]; rfl
    · rw [w]; decide
    · have : cLet (c k) = false ∧ ¬ c k = 45 := by
        simp only [cSpc, Bool.or_eq_true, decide_eq_true_eq] at w
        rcases w with w | w <;> (rw [w]; decide)
      rw [w, this.1]; simp [this.2]
  · rintro ⟨q1, q2⟩; rw [q2] at q1; revert q1; decide
theorem nP_sum (P : Nat → Bool) : ∀ r k, sumN (fun i => if P i = true then 1 else 0) r k = nP P r k
  | 0, _ => rfl
  | r + 1, k => by simp only [sumN, nP]; rw [nP_sum P r (k + 1)]
theorem nP_le (P : Nat → Bool) : ∀ r k, nP P r k ≤ r
  | 0, _ => Nat.le_refl _
  | r + 1, k => by
    have := nP_le P r (k + 1)
    simp only [nP]; split <;> omega
theorem nP_or {P Q R : Nat → Bool} : ∀ r k, (∀ i, i < r → R (k + i) = (P (k + i) || Q (k + i))) → (∀ i, i < r → ¬ (P (k + i) = true ∧ Q (k + i) = true)) → nP R r k = nP P r k + nP Q r k
  | 0, _, _, _ => rfl
  | r + 1, k, h, h2 => by
    have ih := nP_or (P := P) (Q := Q) (R := R) r (k + 1) (fun i hi => by rw [show k + 1 + i = k + (i + 1) from by omega]; exact h (i + 1) (by omega)) (fun i hi => by rw [show k + 1 + i = k + (i + 1) from by omega]; exact h2 (i + 1) (by omega))
    have a := h 0 (by omega)
    have b := h2 0 (by omega)
    simp only [Nat.add_zero] at a b
    simp only [nP]
    rw [ih, a]
    cases hp : P k <;> cases hq : Q k
    · simp
    · simp; omega
    · simp; omega
    · exact absurd ⟨hp, hq⟩ b
theorem fs_g {c ci : Nat → Int32} {tn gc gm e : Nat} (hc : ∀ k, k < tn → ci k = c k) (h : Gd c tn gc gm) (h1 : gm ≤ e) (h2 : e ≤ tn) (h3 : gc ≤ e) : fsF ci (e - gm) gm = gc := by
  rcases h with ⟨a, b⟩ | ⟨a, b, d, f⟩
  · subst a
    cases q : e - gc with
    | zero => rfl
    | succ r =>
      simp only [fsF]
      rw [if_neg (by rw [hc _ (by omega)]; exact b (by omega))]
  · subst a
    obtain ⟨r, hr⟩ : ∃ r, e - gm = r + 1 := ⟨e - gm - 1, by omega⟩
    rw [hr]
    simp only [fsF]
    rw [if_pos (by rw [hc _ (by omega)]; exact d)]
    cases r with
    | zero => rfl
    | succ r =>
      simp only [fsF]
      rw [if_neg (by rw [hc _ (by omega)]; exact f (by omega))]
/-- the numbers of a line, the same on both sides -/
def LnN (tn : Nat) (c s wo : Nat → Int32) (g e : Nat) (NW N1 N2 NL : Nat) : Prop := (∀ F, smI (wdI wo c s) F tn e - smI (wdI wo c s) F tn g = nI NW) ∧ (∀ F, smI (stI s) F tn e - smI (stI s) F tn g = nI N1) ∧ (∀ F, smI (shI s) F tn e - smI (shI s) F tn g = nI N2) ∧ (∀ F F', (smI (leI c) F tn e - smI (leI c) F tn g) + (smI (daI c) F' tn e - smI (daI c) F' tn g) = nI NL) ∧ (NW ≤ 2400) ∧ (N1 ≤ 600) ∧ (N2 ≤ 360) ∧ (NL ≤ 240)
theorem LnN.w {tn : Nat} {c s wo : Nat → Int32} {g e : Nat} {NW N1 N2 NL : Nat} (h : LnN tn c s wo g e NW N1 N2 NL) : ∀ F, smI (wdI wo c s) F tn e - smI (wdI wo c s) F tn g = nI NW := h.1
theorem LnN.st {tn : Nat} {c s wo : Nat → Int32} {g e : Nat} {NW N1 N2 NL : Nat} (h : LnN tn c s wo g e NW N1 N2 NL) : ∀ F, smI (stI s) F tn e - smI (stI s) F tn g = nI N1 := h.2.1
theorem LnN.sh {tn : Nat} {c s wo : Nat → Int32} {g e : Nat} {NW N1 N2 NL : Nat} (h : LnN tn c s wo g e NW N1 N2 NL) : ∀ F, smI (shI s) F tn e - smI (shI s) F tn g = nI N2 := h.2.2.1
theorem LnN.l {tn : Nat} {c s wo : Nat → Int32} {g e : Nat} {NW N1 N2 NL : Nat} (h : LnN tn c s wo g e NW N1 N2 NL) : ∀ F F', (smI (leI c) F tn e - smI (leI c) F tn g) + (smI (daI c) F' tn e - smI (daI c) F' tn g) = nI NL := h.2.2.2.1
theorem LnN.bw {tn : Nat} {c s wo : Nat → Int32} {g e : Nat} {NW N1 N2 NL : Nat} (h : LnN tn c s wo g e NW N1 N2 NL) : NW ≤ 2400 := h.2.2.2.2.1
theorem LnN.b1 {tn : Nat} {c s wo : Nat → Int32} {g e : Nat} {NW N1 N2 NL : Nat} (h : LnN tn c s wo g e NW N1 N2 NL) : N1 ≤ 600 := h.2.2.2.2.2.1
theorem LnN.b2 {tn : Nat} {c s wo : Nat → Int32} {g e : Nat} {NW N1 N2 NL : Nat} (h : LnN tn c s wo g e NW N1 N2 NL) : N2 ≤ 360 := h.2.2.2.2.2.2.1
theorem LnN.bl {tn : Nat} {c s wo : Nat → Int32} {g e : Nat} {NW N1 N2 NL : Nat} (h : LnN tn c s wo g e NW N1 N2 NL) : NL ≤ 240 := h.2.2.2.2.2.2.2
theorem ln_A {tn : Nat} {c s ci si wo wt : Nat → Int32} (h : ItR tn c s ci si wo wt) (htn : tn ≤ 120) {g e : Nat} (h1 : g ≤ e) (h2 : e ≤ tn) (hb : ∀ k, g ≤ k → k < e → ¬ c k = 124) : ∃ NW N1 N2 NL : Nat, LnN tn c s wo g e NW N1 N2 NL ∧ ∀ a, msF wt ci si (e - g) g (nI a, false, 0, 0) = (nI (a + NW), decide (0 < NL), nI N1, nI N2) := by
  have K : ∀ i, i < e - g → _ := fun i hi => it_k h (k := g + i) (by omega) (hb (g + i) (by omega) (by omega))
  have K' : ∀ i, g ≤ i → i < e → _ := fun i a b => it_k h (k := i) (by omega) (hb i a b)
  refine ⟨sumN (fun k => vN (wdI wo c s k)) (e - g) g, sumN (fun k => vN (stI s k)) (e - g) g, sumN (fun k => vN (shI s k)) (e - g) g, nP (fun k => cLet (c k)) (e - g) g + nP (fun k => decide (c k = 45)) (e - g) g, ⟨fun F => sm_d h1 h2 (fun i a b => (K' i a b).1), fun F => sm_d h1 h2 (fun i a b => (K' i a b).2.2.2.1), fun F => sm_d h1 h2 (fun i a b => (K' i a b).2.2.2.2.2.2.1), fun F F' => ?_, ?_, ?_, ?_, ?_⟩, fun a => ?_⟩
  · rw [sm_d (Z := fun k => if cLet (c k) = true then 1 else 0) h1 h2 (fun i _ _ => by unfold leI; cases cLet (c i) <;> rfl), sm_d (Z := fun k => if decide (c k = 45) = true then 1 else 0) h1 h2 (fun i _ _ => by unfold daI; cases decide (c i = 45) <;> rfl), nI_add, nP_sum (fun k => cLet (c k)), nP_sum (fun k => decide (c k = 45))]
  · have := sumN_le (F := fun k => vN (wdI wo c s k)) (a := 20) (e - g) g (fun i hi => (K i hi).2.1); omega
  · have := sumN_le (F := fun k => vN (stI s k)) (a := 5) (e - g) g (fun i hi => (K i hi).2.2.2.2.1); omega
  · have := sumN_le (F := fun k => vN (shI s k)) (a := 3) (e - g) g (fun i hi => (K i hi).2.2.2.2.2.2.2.1); omega
  · have a1 := nP_le (fun k => cLet (c k)) (e - g) g
    have a2 := nP_le (fun k => decide (c k = 45)) (e - g) g
    omega
  · have m := ms_v (wt := wt) (ci := ci) (si := si) (Z := fun k => vN (wdI wo c s k)) (T1 := fun k => vN (stI s k)) (T2 := fun k => vN (shI s k)) (e - g) g a 0 0 false (fun i hi => by
      obtain ⟨k1, k2, k3, k4, k5, k6, k7, k8, k9, k10, k11⟩ := K i hi
      exact ⟨k3.trans k1, k6.trans k4, k9.trans k7⟩)
    rw [nI_0] at m
    rw [m, Bool.false_or, Nat.zero_add, Nat.zero_add, nP_or (R := fun i => !cSpc (ci i)) (P := fun k => cLet (c k)) (Q := fun k => decide (c k = 45)) (e - g) g (fun i hi => (K i hi).2.2.2.2.2.2.2.2.2.1) (fun i hi => by
      have := (K i hi).2.2.2.2.2.2.2.2.2.2
      simp only [decide_eq_true_eq]; exact this)]
theorem ln_B {tn : Nat} {c s : Nat → Int32} {e : Nat} (h : e < tn) (hc : c e = 32) (F F' : Nat → Int32) : (smI (leI c) F tn e - smI (leI c) F tn (e + 1)) + (smI (daI c) F' tn e - smI (daI c) F' tn (e + 1)) = 0 := by
  rw [smI_s _ _ _ _ h, smI_s _ _ _ _ h]
  have a : leI c e = 0 := by unfold leI; rw [hc]; decide
  have b : daI c e = 0 := by unfold daI; rw [hc]; decide
  rw [a, b, Int32.add_zero, Int32.add_zero, Int32.sub_self, Int32.sub_self]; decide
theorem cube_n {k : Nat} (h : k ≤ 600) (h0 : ¬ nI k = 0) : ¬ (nI k).toInt64 * (nI k).toInt64 * (nI k).toInt64 = 0 := by
  rw [nI_l (by omega), lN_mul, lN_mul]
  have k0 : 0 < k := Nat.pos_of_ne_zero fun q => h0 (by rw [q]; exact nI_0)
  have b1 : k * k ≤ 600 * 600 := Nat.mul_le_mul h h
  have b2 : k * k * k ≤ 600 * 600 * 600 := Nat.mul_le_mul b1 h
  have b3 : 0 < k * k * k := Nat.mul_pos (Nat.mul_pos k0 k0) k0
  show ¬ lN (k * k * k) = lN 0
  rw [lN_eq (by omega) (by omega)]; omega
theorem cube_m {k : Nat} (h : k ≤ 600) (h0 : ¬ - nI k = 0) : ¬ (- nI k).toInt64 * (- nI k).toInt64 * (- nI k).toInt64 = 0 := by
  have h1 : ¬ nI k = 0 := fun q => h0 (by rw [q]; decide)
  have := cube_n h h1
  rw [Int32.toInt64_neg_of_ne (by
    intro q
    have := nI_pos' (n := k) (by omega)
    rw [q] at this; revert this; decide)]
  simp only [Int64.neg_mul, Int64.mul_neg, Int64.neg_neg]
  intro q
  apply this
  have : - -((nI k).toInt64 * (nI k).toInt64 * (nI k).toInt64) = -0 := by rw [q]
  rw [Int64.neg_neg] at this; rw [this]; decide
