/-! expansion: class and model -/
theorem i32_le {a b : Int32} : a ≤ b ↔ a.toInt ≤ b.toInt := Int32.le_iff_toInt_le
theorem i32_lt {a b : Int32} : a < b ↔ a.toInt < b.toInt := Int32.lt_iff_toInt_lt
theorem cLin_nn {c : Int32} (h : cLin c = true) : 0 ≤ c := by
  simp only [cLin, cItm, cWid, cSpc, cLet, cDig, cMac, Bool.or_eq_true, Bool.and_eq_true, decide_eq_true_eq] at h
  rcases h with (((((((((h | h) | (h | h) | h) | h) | h) | h) | h) | h) | h) | h)
  all_goals first
    | (subst h; decide)
    | exact Int32.le_trans (by decide) h.1
/-- right-aligned (class) and left-aligned (model) rest of the line -/
def LR (f : Nat) (l : Nat → Int32) (n : Nat) (m : Nat → Int32) : Prop := f + n = 200 ∧ (∀ i, i < n → m i = l (f + i)) ∧ ∀ i, i < n → cLin (m i) = true
theorem LR.sh {f : Nat} {l : Nat → Int32} {n : Nat} {m : Nat → Int32} (h : LR f l (n + 1) m) : LR (f + 1) l n (shF m n) := by
  refine ⟨by have := h.1; omega, fun i hi => ?_, fun i hi => ?_⟩
  · rw [show shF m n i = m (i + 1) from if_pos hi, h.2.1 (i + 1) (by omega), show f + (i + 1) = f + 1 + i from by omega]
  · rw [show shF m n i = m (i + 1) from if_pos hi]; exact h.2.2 (i + 1) (by omega)
theorem LR.hd {f : Nat} {l : Nat → Int32} {n : Nat} {m : Nat → Int32} (h : LR f l (n + 1) m) : m 0 = l f ∧ cLin (m 0) = true ∧ 0 ≤ m 0 := ⟨h.2.1 0 (by omega), h.2.2 0 (by omega), cLin_nn (h.2.2 0 (by omega))⟩
def AR (an : Nat) (ar g : Nat → Int32) : Prop := ∀ i, i < an → g i = ar i ∧ cLin (g i) = true
theorem AR.ad {an : Nat} {ar g : Nat → Int32} {x : Int32} (h : AR an ar g) (hx : cLin x = true) : AR (an + 1) (upd ar an x) (upd g an x) := by
  intro i hi
  by_cases e : i = an
  · subst e; exact ⟨by rw [pk_us, pk_us], by rw [pk_us]; exact hx⟩
  · rw [pk_un e, pk_un e]; exact h i (by omega)
theorem tg_mg : ∀ (n r k : Nat) (l m : Nat → Int32) (d an : Nat) (ar g : Nat → Int32), LR k l n m → n < r → AR an ar g →
    (tgF l n k d an ar).1 = (mgF r n m d an g).1 ∧ ((tgF l n k d an ar).1 = true → LR (tgF l n k d an ar).2.1 l (mgF r n m d an g).2.1 (mgF r n m d an g).2.2.1 ∧ (tgF l n k d an ar).2.2.1 = (mgF r n m d an g).2.2.2.1 ∧ AR (tgF l n k d an ar).2.2.1 (tgF l n k d an ar).2.2.2 (mgF r n m d an g).2.2.2.2)
  | 0, r + 1, k, l, m, d, an, ar, g, h, hr, ha => by
    simp [tgF, mgF]
  | n + 1, r + 1, k, l, m, d, an, ar, g, h, hr, ha => by
    obtain ⟨h1, h2, h3⟩ := h.hd
    have e1 : ∀ D, (if m 0 = 123 then d + 1 else if m 0 = 125 then d - 1 else d) = D → tgF l (n + 1) k d an ar = if D = 0 then (true, k + 1, an, ar) else tgF l n (k + 1) D (an + 1) (upd ar an (m 0)) := by
      intro D hD; subst hD; rw [h1]; rfl
    have e2 : ∀ D, (if m 0 = 123 then d + 1 else if m 0 = 125 then d - 1 else d) = D → mgF (r + 1) (n + 1) m d an g = if D = 0 then (true, n, shF m n, an, g) else mgF r n (shF m n) D (an + 1) (upd g an (m 0)) := by
      intro D hD; subst hD
      show (if n + 1 = 0 then _ else if 0 ≤ m 0 then _ else _) = _
      rw [if_neg (by omega), if_pos h3]; rfl
    rw [e1 _ rfl, e2 _ rfl]
    generalize (if m 0 = 123 then d + 1 else if m 0 = 125 then d - 1 else d) = D
    by_cases hD : D = 0
    · rw [if_pos hD, if_pos hD]; exact ⟨rfl, fun _ => ⟨h.sh, rfl, ha⟩⟩
    · rw [if_neg hD, if_neg hD]; exact tg_mg n r (k + 1) l (shF m n) D (an + 1) _ _ h.sh (by omega) (ha.ad h2)
theorem ta_ma {n f : Nat} {l m ar g : Nat → Int32} (h : LR f l n m) :
    (taF f l ar).1 = (maF n m g).1 ∧ ((taF f l ar).1 = true → LR (taF f l ar).2.1 l (maF n m g).2.1 (maF n m g).2.2.1 ∧ (taF f l ar).2.2.1 = (maF n m g).2.2.2.1 ∧ AR (taF f l ar).2.2.1 (taF f l ar).2.2.2 (maF n m g).2.2.2.2) := by
  cases n with
  | zero =>
    have hf : f = 200 := h.1
    subst hf; simp [taF, maF]
  | succ n =>
    obtain ⟨h1, h2, h3⟩ := h.hd
    have hf : f + (n + 1) = 200 := h.1
    unfold taF maF
    rw [if_neg (show ¬ f = 200 from by omega), if_neg (show ¬ n + 1 = 0 from by omega), if_neg (show ¬ m 0 < 0 from Int32.not_lt.mpr h3), ← h1]
    by_cases c1 : m 0 = 125
    · rw [if_pos c1, if_pos c1]; simp
    · rw [if_neg c1, if_neg c1]
      by_cases c2 : m 0 = 123
      · rw [if_pos c2, if_pos c2]
        have q := tg_mg n 201 (f + 1) l (shF m n) 1 0 ar g h.sh (by omega) (fun i hi => absurd hi (by omega))
        rw [show 200 - (f + 1) = n from by omega]
        refine ⟨q.1, fun ht => ?_⟩
        obtain ⟨a, b, c⟩ := q.2 ht
        refine ⟨?_, b, c⟩
        show LR (if (tgF l n (f + 1) 1 0 ar).1 = true then _ else _) _ _ _
        rw [if_pos ht]; exact a
      · rw [if_neg c2, if_neg c2]
        refine ⟨rfl, fun _ => ⟨h.sh, rfl, ?_⟩⟩
        exact AR.ad (an := 0) (fun i hi => absurd hi (by omega)) h2
