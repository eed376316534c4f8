theorem tkC0 (m : Nat → Int32) : tkC 0 m = -1 := if_pos rfl
theorem mMac_c (c : Int32) : mMac c = cMac c := by
  unfold mMac cMac
  congr 1
  rw [decide_eq_decide, i32_le, i32_lt]
  have : (68 : Int32).toInt = 68 := rfl
  have : (69 : Int32).toInt = 69 := rfl
  omega
theorem mac_lt {c : Int32} (h : cMac c = true) : (c - 65).toNatClampNeg < 4 := by
  simp only [cMac, Bool.and_eq_true, decide_eq_true_eq] at h
  obtain ⟨j, hj, rfl⟩ := nI_of (x := c) (by rw [Int32.not_lt]; exact Int32.le_trans (by decide) h.1)
  have h1 := (nI_leI (a := 65) (by decide) hj).mp h.1
  have h2 := (nI_ltI (b := 69) hj (by decide)).mp h.2
  have : j = 65 ∨ j = 66 ∨ j = 67 ∨ j = 68 := by omega
  rcases this with rfl | rfl | rfl | rfl <;> decide
def sp9 (x : Int32) : Prop := 0 ≤ x ∧ x ≤ 9
theorem c19_iff (x : Int32) : c19 x = true ↔ ¬ x < 49 ∧ x ≤ 57 := by
  simp only [c19, cDig, Bool.and_eq_true, decide_eq_true_eq, Bool.not_eq_true', decide_eq_false_iff_not, ← Int32.toInt_inj, i32_le, i32_lt]
  have : (48 : Int32).toInt = 48 := rfl
  have : (49 : Int32).toInt = 49 := rfl
  have : (57 : Int32).toInt = 57 := rfl
  omega
theorem c19_sp {x : Int32} (h : c19 x = true) : sp9 (x - 48) := by
  rw [c19_iff, Int32.not_lt] at h
  obtain ⟨j, hj, rfl⟩ := nI_of (x := x) (by rw [Int32.not_lt]; exact Int32.le_trans (by decide) h.1)
  have h1 := (nI_leI (a := 49) (by decide) hj).mp h.1
  have h2 := (nI_leI (b := 57) hj (by decide)).mp h.2
  have : j = 49 ∨ j = 50 ∨ j = 51 ∨ j = 52 ∨ j = 53 ∨ j = 54 ∨ j = 55 ∨ j = 56 ∨ j = 57 := by omega
  rcases this with rfl | rfl | rfl | rfl | rfl | rfl | rfl | rfl | rfl <;> exact ⟨by decide, by decide⟩
theorem lin_itm {c : Int32} (h : cLin c = true) (h1 : cMac c = false) (h2 : ¬ c = 123) (h3 : ¬ c = 125) (h4 : ¬ c = 61) : (cItm c = true ↔ ¬ c = 35 ∧ ¬ c = 46 ∧ ¬ cDig c = true) := by
  simp only [cLin, h1, Bool.or_eq_true, decide_eq_true_eq, h2, h3, h4, or_false, false_or, Bool.false_eq_true] at h
  constructor
  · intro q
    refine ⟨?_, ?_, ?_⟩
    · rintro rfl; revert q; decide
    · rintro rfl; revert q; decide
    · simp only [cItm, cWid, cSpc, cLet, cDig, Bool.or_eq_true, Bool.and_eq_true, decide_eq_true_eq, ← Int32.toInt_inj, i32_le, i32_lt] at q ⊢
      have : (48 : Int32).toInt = 48 := rfl
      have : (57 : Int32).toInt = 57 := rfl
      have : (97 : Int32).toInt = 97 := rfl
      have : (122 : Int32).toInt = 122 := rfl
      have : (45 : Int32).toInt = 45 := rfl
      have : (32 : Int32).toInt = 32 := rfl
      have : (126 : Int32).toInt = 126 := rfl
      have : (124 : Int32).toInt = 124 := rfl
      omega
  · intro q
    rcases h with ((h | h) | h) | h
    · exact h
    · exact absurd h q.2.2
    · exact absurd h q.1
    · exact absurd h q.2.1
def RZ (Z : xS) (Y : yS) : Prop :=
  LR Z.1.1 Z.2.2.1 Y.1.1 Y.2.2.1 ∧ Z.1.2.1 = Y.1.2.1 ∧ Z.1.2.2.1 = Y.1.2.2.1 ∧ Z.1.2.2.2.2 = Y.1.2.2.2.2 ∧ (Z.2.1 = Y.2.1 ∧ sp9 Z.2.1) ∧ (∀ i, i < Z.1.2.1 → Y.2.2.2.2.2.1 i = Z.2.2.2.2.1 i ∧ sp9 (Z.2.2.2.2.1 i)) ∧
  ∀ i, i < Z.1.2.2.2.2 → Y.2.2.2.2.2.2.1 i = Z.2.2.2.2.2.1 i ∧ Y.2.2.2.2.2.2.2 i = Z.2.2.2.2.2.2 i ∧ cItm (Z.2.2.2.2.2.1 i) = true ∧ sp9 (Z.2.2.2.2.2.2 i) ∧ (cSpc (Z.2.2.2.2.2.1 i) = false → Z.2.2.2.2.2.2 i = 0)
def BoR (md : Nat → Bool) (mbd : Nat → Nat → Int32) (mn : Nat → Nat) (bo : Nat → Int32) : Prop := ∀ m, m < 4 → md m = true → mn m ≤ 24 ∧ ∀ i, i < mn m → bo (m * 24 + i) = mbd m i ∧ cLin (mbd m i) = true
theorem ob_my {md : Nat → Bool} {mbd : Nat → Nat → Int32} {mn : Nat → Nat} {bo : Nat → Int32} (hM : BoR md mbd mn bo) {c : Int32} {f n o cl an gn tn : Nat} {sp : Int32} {l m ar g os sv rr C S ci si : Nat → Int32} (hc : cLin c = true)
    (h : RZ ((f, o, cl, an, tn), sp, l, ar, os, C, S) ((n, o, cl, gn, tn), sp, m, g, rr, sv, ci, si)) :
    (obF md mbd mn c f o cl an tn sp l ar os C S).1 = (myF md bo mn c n o cl gn tn sp m g rr sv ci si).1 ∧ ((obF md mbd mn c f o cl an tn sp l ar os C S).1 = 0 → RZ (obF md mbd mn c f o cl an tn sp l ar os C S).2 (myF md bo mn c n o cl gn tn sp m g rr sv ci si).2 ∧ ((myF md bo mn c n o cl gn tn sp m g rr sv ci si).2.1.1 ≤ n ∧ (myF md bo mn c n o cl gn tn sp m g rr sv ci si).2.1.2.2.1 = cl ∨ (myF md bo mn c n o cl gn tn sp m g rr sv ci si).2.1.2.2.1 = cl + 1 ∧ ¬ cl = 40)) := by
  obtain ⟨h1, _, _, _, ⟨_, h5⟩, h6, h7⟩ := h
  simp only at h1 h5 h6 h7
  unfold obF myF
  rw [mMac_c]
  by_cases k1 : cMac c = true
  · rw [if_pos k1, if_pos k1]
    have hj := mac_lt k1
    generalize (c - 65).toNatClampNeg = j at hj ⊢
    by_cases k2 : md j = true
    · rw [if_pos k2, k2]
      obtain ⟨b1, b2⟩ := hM j hj k2
      have q := cm_mc (bd := mbd j) (bd' := fun i => bo (j * 24 + i)) (bn := mn j) (cl := cl) (an := an) (gn := gn) (ar := ar) (g := g) (rr := rr) h1 b2
      exact ⟨q.1, fun z => ⟨⟨(q.2 z).1, rfl, (q.2 z).2.1.trans (q.2 z).2.2.1.symm, rfl, ⟨rfl, h5⟩, h6, h7⟩, Or.inr ⟨(q.2 z).2.2.1, (q.2 z).2.2.2⟩⟩⟩
    · rw [if_neg k2, show md j = false from by simpa using k2]
      exact ⟨rfl, fun z => absurd z n30⟩
  rw [if_neg k1, if_neg k1]
  by_cases k3 : c = 123
  · rw [if_pos k3, if_pos k3]
    by_cases k4 : o = 8
    · rw [if_pos k4, if_pos k4]; exact ⟨rfl, fun z => absurd z n40⟩
    · rw [if_neg k4, if_neg k4]
      refine ⟨rfl, fun _ => ⟨⟨h1, rfl, rfl, rfl, ⟨rfl, h5⟩, fun i hi => ?_, h7⟩, Or.inl ⟨Nat.le_refl _, rfl⟩⟩⟩
      have hi : i < o + 1 := hi
      show upd sv o sp i = upd os o sp i ∧ sp9 (upd os o sp i)
      by_cases e : i = o
      · subst e; rw [pk_us, pk_us]; exact ⟨rfl, h5⟩
      · rw [pk_un e, pk_un e]; exact h6 i (by omega)
  rw [if_neg k3, if_neg k3]
  by_cases k5 : c = 125
  · rw [if_pos k5, if_pos k5]
    by_cases k4 : o = 0
    · rw [if_pos k4, if_pos k4]; exact ⟨rfl, fun z => absurd z n30⟩
    · rw [if_neg k4, if_neg k4]
      have q := h6 (o - 1) (by omega)
      exact ⟨rfl, fun _ => ⟨⟨h1, rfl, rfl, rfl, ⟨q.1.symm, q.2⟩, fun i hi => h6 i (by have hi : i < o - 1 := hi; omega), h7⟩, Or.inl ⟨Nat.le_refl _, rfl⟩⟩⟩
  rw [if_neg k5, if_neg k5]
  by_cases k6 : c = 61
  · rw [if_pos k6, if_pos k6]
    cases n with
    | zero =>
      rw [if_pos (show f = 200 from h1.1), if_pos (show tkC 0 m < 49 from by rw [tkC0]; decide)]
      exact ⟨rfl, fun z => absurd z n30⟩
    | succ n =>
      have hf : f + (n + 1) = 200 := h1.1
      obtain ⟨a1, a2, a3⟩ := h1.hd
      rw [if_neg (show ¬ f = 200 from by omega), show tkC (n + 1) m = m 0 from rfl, ← a1]
      by_cases k7 : c19 (m 0) = true
      · have w := (c19_iff _).mp k7
        rw [if_pos k7, if_neg w.1, if_pos w.2]
        exact ⟨rfl, fun _ => ⟨⟨h1.sh, rfl, rfl, rfl, ⟨rfl, c19_sp k7⟩, h6, h7⟩, Or.inl ⟨Nat.le_succ _, rfl⟩⟩⟩
      · rw [if_neg k7]
        by_cases w : m 0 < 49
        · rw [if_pos w]; exact ⟨rfl, fun z => absurd z n30⟩
        · rw [if_neg w, if_neg (fun w2 => k7 ((c19_iff _).mpr ⟨w, w2⟩))]; exact ⟨rfl, fun z => absurd z n30⟩
  rw [if_neg k6, if_neg k6]
  have L := lin_itm hc (by simpa using k1) k3 k5 k6
  by_cases k8 : cItm c = true
  · obtain ⟨u1, u2, u3⟩ := L.mp k8
    rw [if_pos k8, if_neg u1, if_neg u2, if_neg u3]
    by_cases k9 : tn = 120
    · rw [if_pos k9, if_pos k9]; exact ⟨rfl, fun z => absurd z n40⟩
    · rw [if_neg k9, if_neg k9]
      refine ⟨rfl, fun _ => ⟨⟨h1, rfl, rfl, rfl, ⟨rfl, h5⟩, h6, fun i hi => ?_⟩, Or.inl ⟨Nat.le_refl _, rfl⟩⟩⟩
      have hi : i < tn + 1 := hi
      show upd ci tn c i = upd C tn c i ∧ upd si tn (if cSpc c = true then sp else 0) i = upd S tn (if cSpc c = true then sp else 0) i ∧ cItm (upd C tn c i) = true ∧ sp9 (upd S tn (if cSpc c = true then sp else 0) i) ∧ (cSpc (upd C tn c i) = false → upd S tn (if cSpc c = true then sp else 0) i = 0)
      by_cases e : i = tn
      · subst e; simp only [pk_us]
        refine ⟨trivial, trivial, k8, ?_, fun q => by rw [if_neg (by rw [q]; decide)]⟩
        by_cases q : cSpc c = true
        · rw [if_pos q]; exact h5
        · rw [if_neg q]; exact ⟨by decide, by decide⟩
      · simp only [pk_un e]; exact h7 i (by omega)
  · rw [if_neg k8]
    by_cases u1 : c = 35
    · rw [if_pos u1]; exact ⟨rfl, fun z => absurd z n30⟩
    · rw [if_neg u1]
      by_cases u2 : c = 46
      · rw [if_pos u2]; exact ⟨rfl, fun z => absurd z n30⟩
      · rw [if_neg u2, if_pos (Classical.not_not.mp fun u3 => k8 (L.mpr ⟨u1, u2, u3⟩))]; exact ⟨rfl, fun z => absurd z n30⟩
theorem xp_mx {md : Nat → Bool} {mbd : Nat → Nat → Int32} {mn : Nat → Nat} {bo : Nat → Int32} (hM : BoR md mbd mn bo) : ∀ (r r' : Nat) (Z : xS) (Y : yS), RZ Z Y → Y.1.1 + 200 * (40 - Y.1.2.2.1) ≤ r → r < r' → Y.1.2.2.1 ≤ 40 →
    (xpF md mbd mn r Z).1 = (mxF md bo mn r' Y).1 ∧ ((xpF md mbd mn r Z).1 = 0 → (xpF md mbd mn r Z).2.1.2.2.1 = (mxF md bo mn r' Y).2.1.2.2.1 ∧ (xpF md mbd mn r Z).2.1.2.2.2.2 = (mxF md bo mn r' Y).2.1.2.2.2.2 ∧ ∀ i, i < (xpF md mbd mn r Z).2.1.2.2.2.2 → (mxF md bo mn r' Y).2.2.2.2.2.2.2.1 i = (xpF md mbd mn r Z).2.2.2.2.2.2.1 i ∧ (mxF md bo mn r' Y).2.2.2.2.2.2.2.2 i = (xpF md mbd mn r Z).2.2.2.2.2.2.2 i ∧ cItm ((xpF md mbd mn r Z).2.2.2.2.2.2.1 i) = true ∧ sp9 ((xpF md mbd mn r Z).2.2.2.2.2.2.2 i) ∧ (cSpc ((xpF md mbd mn r Z).2.2.2.2.2.2.1 i) = false → (xpF md mbd mn r Z).2.2.2.2.2.2.2 i = 0)) := by
  intro r
  induction r with
  | zero =>
    intro r' Z Y h hr hr' hcl
    obtain ⟨r', rfl⟩ : ∃ k, r' = k + 1 := ⟨r' - 1, by omega⟩
    obtain ⟨h1, h2, h3, h4, h5, h6, h7⟩ := h
    have hn : Y.1.1 = 0 := by omega
    have ht : tkC Y.1.1 Y.2.2.1 < 0 := by rw [hn, tkC0]; decide
    simp only [xpF, mxF]
    rw [if_pos ht, h2]
    exact ⟨rfl, fun _ => ⟨h3, h4, h7⟩⟩
  | succ r ih =>
    intro r' Z Y h hr hr' hcl
    obtain ⟨r', rfl⟩ : ∃ k, r' = k + 1 := ⟨r' - 1, by omega⟩
    obtain ⟨⟨f, o, cl, an, tn⟩, sp, l, ar, os, C, S⟩ := Z
    obtain ⟨⟨n, o', cl', gn, tn'⟩, sp', m, g, rr, sv, ci, si⟩ := Y
    obtain ⟨h1, h2, h3, h4, ⟨h5, h5'⟩, h6, h7⟩ := h
    simp only at h1 h2 h3 h4 h5 h5' h6 h7 hr hcl
    subst h2; subst h3; subst h4; subst h5
    simp only [xpF, mxF]
    cases n with
    | zero =>
      rw [if_pos (show f = 200 from h1.1), if_pos (show tkC 0 m < 0 from by rw [tkC0]; decide)]
      exact ⟨rfl, fun _ => ⟨rfl, rfl, h7⟩⟩
    | succ n =>
      have hf : f + (n + 1) = 200 := h1.1
      obtain ⟨a1, a2, a3⟩ := h1.hd
      have q := ob_my (an := an) (gn := gn) (ar := ar) (g := g) (rr := rr) hM a2 (show RZ ((f + 1, o, cl, an, tn), sp, l, ar, os, C, S) ((n, o, cl, gn, tn), sp, shF m n, g, rr, sv, ci, si) from ⟨h1.sh, rfl, rfl, rfl, ⟨rfl, h5'⟩, h6, h7⟩)
      have e1 : obZ md mbd mn ((f, o, cl, an, tn), sp, l, ar, os, C, S) = obF md mbd mn (m 0) (f + 1) o cl an tn sp l ar os C S := by rw [a1]; rfl
      have e2 : myZ md bo mn ((n + 1, o, cl, gn, tn), sp, m, g, rr, sv, ci, si) = myF md bo mn (m 0) n o cl gn tn sp (shF m n) g rr sv ci si := rfl
      rw [if_neg (show ¬ f = 200 from by omega), if_neg (show ¬ tkC (n + 1) m < 0 from Int32.not_lt.mpr a3), e1, e2]
      generalize obF md mbd mn (m 0) (f + 1) o cl an tn sp l ar os C S = X at q ⊢
      generalize myF md bo mn (m 0) n o cl gn tn sp (shF m n) g rr sv ci si = X' at q ⊢
      by_cases z : X.1 = 0
      · rw [if_pos z, if_pos (q.1 ▸ z)]
        obtain ⟨w1, w2⟩ := q.2 z
        have hle : X'.2.1.1 ≤ 200 := by have := w1.1.1; omega
        refine ih r' X.2 X'.2 w1 ?_ (by omega) ?_
        · rcases w2 with ⟨w3, w4⟩ | ⟨w3, w4⟩
          · rw [w4]; omega
          · rw [w3]; omega
        · rcases w2 with ⟨w3, w4⟩ | ⟨w3, w4⟩
          · rw [w4]; exact hcl
          · rw [w3]; omega
      · rw [if_neg z, if_neg (fun z' => z (q.1.trans z'))]
        exact ⟨q.1, fun z' => absurd z' z⟩
