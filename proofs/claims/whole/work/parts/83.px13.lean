/-! expansion, from its beginning -/
theorem xp_ok {md : Nat → Bool} {mbd : Nat → Nat → Int32} {mn : Nat → Nat} : ∀ (r : Nat) (Z : xS), okZ Z → okZ (xpF md mbd mn r Z).2
  | 0, Z, h => h
  | r + 1, Z, h => by
    simp only [xpF]
    by_cases c : Z.1.1 = 200
    · rw [if_pos c]; exact h
    · rw [if_neg c]
      have o : okZ (obZ md mbd mn Z).2 := by
        have h1 := h.1
        exact obF_ok (by omega) h.2.1 h.2.2.1 h.2.2.2.1 h.2.2.2.2
      by_cases z : (obZ md mbd mn Z).1 = 0
      · rw [if_pos z]; exact xp_ok r _ o
      · rw [if_neg z]; exact o
theorem my_ok {md : Nat → Bool} {bo : Nat → Int32} {mn : Nat → Nat} {c : Int32} {n o cl gn it : Nat} {sp : Int32} {l g rr sv ci si : Nat → Int32} (hn : n ≤ 200) (ho : o ≤ 8) (hcl : cl ≤ 40) (hgn : gn ≤ 200) (hit : it ≤ 120) : okY (myF md bo mn c n o cl gn it sp l g rr sv ci si).2 := by
  unfold myF okY
  by_cases k1 : mMac c = true
  · rw [if_pos k1]
    by_cases k2 : md (c - 65).toNatClampNeg = true
    · rw [if_pos k2]
      have q := mcF_ok (bd := fun i => bo ((c - 65).toNatClampNeg * 24 + i)) (bn := mn (c - 65).toNatClampNeg) (l := l) (g := g) (rr := rr) hn hcl hgn
      exact ⟨q.1, ho, q.2.1, q.2.2.1, hit⟩
    · rw [if_neg k2]; exact ⟨hn, ho, hcl, hgn, hit⟩
  rw [if_neg k1]
  by_cases k3 : c = 123
  · rw [if_pos k3]
    by_cases k4 : o = 8
    · rw [if_pos k4]; exact ⟨hn, ho, hcl, hgn, hit⟩
    · rw [if_neg k4]; exact ⟨hn, show o + 1 ≤ 8 by omega, hcl, hgn, hit⟩
  rw [if_neg k3]
  by_cases k5 : c = 125
  · rw [if_pos k5]
    by_cases k4 : o = 0
    · rw [if_pos k4]; exact ⟨hn, ho, hcl, hgn, hit⟩
    · rw [if_neg k4]; exact ⟨hn, show o - 1 ≤ 8 by omega, hcl, hgn, hit⟩
  rw [if_neg k5]
  have n1 : n - 1 ≤ 200 := by omega
  by_cases k6 : c = 61
  · rw [if_pos k6]
    by_cases k7 : tkC n l < 49
    · rw [if_pos k7]; exact ⟨n1, ho, hcl, hgn, hit⟩
    · rw [if_neg k7]
      by_cases k8 : tkC n l ≤ 57
      · rw [if_pos k8]; exact ⟨n1, ho, hcl, hgn, hit⟩
      · rw [if_neg k8]; exact ⟨n1, ho, hcl, hgn, hit⟩
  rw [if_neg k6]
  by_cases u1 : c = 35
  · rw [if_pos u1]; exact ⟨hn, ho, hcl, hgn, hit⟩
  rw [if_neg u1]
  by_cases u2 : c = 46
  · rw [if_pos u2]; exact ⟨hn, ho, hcl, hgn, hit⟩
  rw [if_neg u2]
  by_cases u3 : cDig c = true
  · rw [if_pos u3]; exact ⟨hn, ho, hcl, hgn, hit⟩
  rw [if_neg u3]
  by_cases u4 : it = 120
  · rw [if_pos u4]; exact ⟨hn, ho, hcl, hgn, hit⟩
  · rw [if_neg u4]; exact ⟨hn, ho, hcl, hgn, show it + 1 ≤ 120 by omega⟩
theorem mx_ok {md : Nat → Bool} {bo : Nat → Int32} {mn : Nat → Nat} : ∀ (r : Nat) (Y : yS), okY Y → okY (mxF md bo mn r Y).2
  | 0, Y, h => h
  | r + 1, Y, h => by
    simp only [mxF]
    by_cases c : tkC Y.1.1 Y.2.2.1 < 0
    · rw [if_pos c]; exact ⟨show Y.1.1 - 1 ≤ 200 by have := h.1; omega, h.2.1, h.2.2.1, h.2.2.2.1, h.2.2.2.2⟩
    · rw [if_neg c]
      have o : okY (myZ md bo mn Y).2 := my_ok (by have := h.1; omega) h.2.1 h.2.2.1 h.2.2.2.1 h.2.2.2.2
      by_cases z : (myZ md bo mn Y).1 = 0
      · rw [if_pos z]; exact mx_ok r _ o
      · rw [if_neg z]; exact o
theorem ex_rel {md : Nat → Bool} {mbd : Nat → Nat → Int32} {mn : Nat → Nat} {bo : Nat → Int32} (hM : BoR md mbd mn bo) {n an gn : Nat} {ln l ar os C S l0 f10 f11 f12 f13 ci si : Nat → Int32} (hn : n ≤ 60) (h : ∀ i, i < n → l0 i = ln i ∧ cLin (ln i) = true) (han : an ≤ 200) (hgn : gn ≤ 200) {Z : Int32 × xS} {Y : Int32 × yS} (hZ : xpF md mbd mn 8060 ((200 - n, 0, 0, an, 0), 4, wrB l (200 - n) ln n, ar, os, C, S) = Z) (hY : mxF md bo mn 8245 ((n, 0, 0, gn, 0), 4, cpI l0 n f10, f12, f11, f13, ci, si) = Y) :
    okZ Z.2 ∧ okY Y.2 ∧ Z.1 = Y.1 ∧ (Z.1 = 0 → Z.2.1.2.2.1 = Y.2.1.2.2.1 ∧ Z.2.1.2.2.2.2 = Y.2.1.2.2.2.2 ∧ ∀ i, i < Z.2.1.2.2.2.2 → Y.2.2.2.2.2.2.2.1 i = Z.2.2.2.2.2.2.1 i ∧ Y.2.2.2.2.2.2.2.2 i = Z.2.2.2.2.2.2.2 i ∧ cItm (Z.2.2.2.2.2.2.1 i) = true ∧ sp9 (Z.2.2.2.2.2.2.2 i) ∧ (cSpc (Z.2.2.2.2.2.2.1 i) = false → Z.2.2.2.2.2.2.2 i = 0)) := by
  have r0 : RZ ((200 - n, 0, 0, an, 0), 4, wrB l (200 - n) ln n, ar, os, C, S) ((n, 0, 0, gn, 0), 4, cpI l0 n f10, f12, f11, f13, ci, si) := by
    refine ⟨⟨by show 200 - n + n = 200; omega, fun i hi => ?_, fun i hi => ?_⟩, rfl, rfl, rfl, ⟨rfl, show sp9 4 from ⟨by decide, by decide⟩⟩, fun i hi => absurd hi (Nat.not_lt_zero _), fun i hi => absurd hi (Nat.not_lt_zero _)⟩
    · have hi : i < n := hi
      simp only [cpI, wrB]
      rw [if_pos hi, if_pos (by omega), show 200 - n + i - (200 - n) = i from by omega]; exact (h i hi).1
    · have hi : i < n := hi
      simp only [cpI]
      rw [if_pos hi, (h i hi).1]; exact (h i hi).2
  have x := xp_mx hM 8060 8245 _ _ r0 (show n + 200 * (40 - 0) ≤ 8060 by omega) (by omega) (show (0 : Nat) ≤ 40 by omega)
  have o1 := xp_ok (md := md) (mbd := mbd) (mn := mn) 8060 ((200 - n, 0, 0, an, 0), 4, wrB l (200 - n) ln n, ar, os, C, S) ⟨show 200 - n ≤ 200 by omega, show (0 : Nat) ≤ 8 by omega, show (0 : Nat) ≤ 40 by omega, han, show (0 : Nat) ≤ 120 by omega⟩
  have o2 := mx_ok (md := md) (bo := bo) (mn := mn) 8245 ((n, 0, 0, gn, 0), 4, cpI l0 n f10, f12, f11, f13, ci, si) ⟨show n ≤ 200 by omega, show (0 : Nat) ≤ 8 by omega, show (0 : Nat) ≤ 40 by omega, hgn, show (0 : Nat) ≤ 120 by omega⟩
  rw [hZ] at x o1
  rw [hY] at x o2
  exact ⟨o1, o2, x.1, x.2⟩
