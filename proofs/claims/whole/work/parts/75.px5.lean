/-! levels and points -/
def od (x : Int32) : Bool := !decide (x - x / 2 * 2 = 0)
theorem sp9_c {x : Int32} (h : sp9 x) : x = 0 ∨ x = 1 ∨ x = 2 ∨ x = 3 ∨ x = 4 ∨ x = 5 ∨ x = 6 ∨ x = 7 ∨ x = 8 ∨ x = 9 := by
  obtain ⟨j, hj, rfl⟩ := nI_of2 (M := 9) (n := 9) rfl (Int32.not_lt.mpr h.1) h.2
  have : j = 0 ∨ j = 1 ∨ j = 2 ∨ j = 3 ∨ j = 4 ∨ j = 5 ∨ j = 6 ∨ j = 7 ∨ j = 8 ∨ j = 9 := by omega
  rcases this with rfl | rfl | rfl | rfl | rfl | rfl | rfl | rfl | rfl | rfl <;> decide
theorem od_9 {x : Int32} (h : sp9 x) : decide (x - x / 2 * 2 = 1) = od x := by
  rcases sp9_c h with rfl | rfl | rfl | rfl | rfl | rfl | rfl | rfl | rfl | rfl <;> decide
theorem sdF_iff (b e : Nat) (c sg : Nat → Int32) (A : Nat) : ∀ r k, sdF b e c sg A r k = true ↔ ∀ j, j < r → sgnI b e c (A + (k + j)) = sg (k + j)
  | 0, k => by simp [sdF]
  | r + 1, k => by
    simp only [sdF]
    by_cases h : sgnI b e c (A + k) = sg k
    · rw [if_pos h, sdF_iff b e c sg A r (k + 1)]
      constructor
      · intro q j hj
        cases j with
        | zero => exact h
        | succ j => have := q j (by omega); rwa [show k + 1 + j = k + (j + 1) from by omega] at this
      · intro q j hj
        have := q (j + 1) (by omega); rwa [show k + (j + 1) = k + 1 + j from by omega] at this
    · rw [if_neg h]
      exact ⟨fun q => absurd q (by decide), fun q => absurd (q 0 (by omega)) h⟩
theorem gsB_iff (ci : Nat → Int32) (b m o : Nat) (sg : Nat → Int32) : ∀ n, gsB ci b m o sg n = true ↔ ∀ k, k < n → sg k = soF ci b m (o + k)
  | 0 => by simp [gsB]
  | n + 1 => by
    simp only [gsB]
    by_cases h : sg n = soF ci b m (o + n)
    · rw [if_pos h, gsB_iff ci b m o sg n]
      constructor
      · intro q k hk
        by_cases e : k = n
        · subst e; exact h
        · exact q k (by omega)
      · exact fun q k hk => q k (by omega)
    · rw [if_neg h]
      exact ⟨fun q => absurd q (by decide), fun q => absurd (q n (by omega)) h⟩
theorem sd_gs {c ci sg sg' : Nat → Int32} {b m o n : Nat} (h1 : ∀ k, k < n → sg' k = sg k) (hc : ∀ k, k < b + m → ci k = c k) (ho : o + n ≤ m + 2) : (sdF b (b + m) c sg (b + o) n 0 = true) ↔ (gsB ci b m o sg' n = true) := by
  rw [sdF_iff, gsB_iff]
  have e : ∀ k, k < n → sgnI b (b + m) c (b + o + (0 + k)) = soF ci b m (o + k) := by
    intro k hk
    unfold sgnI soF
    by_cases z : o + k = 0
    · rw [if_neg (by omega), if_pos z]
    · rw [if_neg z]
      by_cases z2 : o + k = m + 1
      · rw [if_neg (by omega), if_pos z2]
      · rw [if_pos (by omega), if_neg z2, hc _ (by omega)]; congr 1; omega
  constructor
  · intro q k hk; rw [h1 k hk, ← e k hk, q k hk, Nat.zero_add]
  · intro q k hk; rw [e k hk, ← q k hk, h1 k hk, Nat.zero_add]
theorem rs_v {b e o t : Nat} {lv : Nat → Int32} (h1 : 2 ≤ t) (h2 : b + t + 2 ≤ e) : ∀ (r k : Nat) (f : Nat → Int32), rsF b e lv (b + o) r k f (b + t) = if o + k ≤ t + 1 ∧ t + 1 < o + k + r then mxI (f (b + t)) (lv (t + 1 - o)) else f (b + t)
  | 0, k, f => by rw [if_neg (by omega)]; rfl
  | r + 1, k, f => by
    simp only [rsF]
    rw [rs_v h1 h2 r (k + 1)]
    by_cases c : o + k = t + 1
    · rw [if_neg (show ¬ (o + (k + 1) ≤ t + 1 ∧ t + 1 < o + (k + 1) + r) by omega), if_pos (show b + 3 ≤ b + o + k ∧ b + o + k + 1 ≤ e by omega), if_pos (show o + k ≤ t + 1 ∧ t + 1 < o + k + (r + 1) by omega), show b + o + k - 1 = b + t from by omega, pk_us, show t + 1 - o = k from by omega]
    · have e1 : (if b + 3 ≤ b + o + k ∧ b + o + k + 1 ≤ e then upd f (b + o + k - 1) (mxI (f (b + o + k - 1)) (lv k)) else f) (b + t) = f (b + t) := by
        by_cases g : b + 3 ≤ b + o + k ∧ b + o + k + 1 ≤ e
        · rw [if_pos g, pk_un (by omega)]
        · rw [if_neg g]
      rw [e1]
      by_cases g : o + (k + 1) ≤ t + 1 ∧ t + 1 < o + (k + 1) + r
      · rw [if_pos g, if_pos (by omega)]
      · rw [if_neg g, if_neg (by omega)]
theorem rs_o {b e A q : Nat} {lv : Nat → Int32} (h : ¬ (b + 2 ≤ q ∧ q + 2 ≤ e)) : ∀ (r k : Nat) (f : Nat → Int32), rsF b e lv A r k f q = f q
  | 0, k, f => rfl
  | r + 1, k, f => by
    simp only [rsF]
    rw [rs_o h r (k + 1)]
    by_cases g : b + 3 ≤ A + k ∧ A + k + 1 ≤ e
    · rw [if_pos g, pk_un (by omega)]
    · rw [if_neg g]
theorem in_o {b e q n : Nat} {c sg lv : Nat → Int32} (h : ¬ (b + 2 ≤ q ∧ q + 2 ≤ e)) : ∀ (r A : Nat) (f : Nat → Int32), inF b e c sg lv n r A f q = f q
  | 0, A, f => rfl
  | r + 1, A, f => by
    simp only [inF]
    rw [in_o h r (A + 1)]
    split
    · exact rs_o h _ _ _
    · rfl
theorem ww_o {b e q : Nat} {c : Nat → Int32} {pn : Nat → Nat} {psg plv : Nat → Nat → Int32} (h : ¬ (b + 2 ≤ q ∧ q + 2 ≤ e)) (f : Nat → Int32) : ∀ p, wwF b e c pn psg plv p f q = f q
  | 0 => rfl
  | p + 1 => by
    simp only [wwF]
    rw [in_o h]; exact ww_o h f p
theorem in_v {c ci sg sg' lv lv' : Nat → Int32} {b m n t : Nat} {x : Int32} (h1 : ∀ k, k < n → sg' k = sg k) (h2 : ∀ k, k ≤ n → lv' k = lv k) (hc : ∀ k, k < b + m → ci k = c k) (ht : 2 ≤ t) (ht2 : t + 2 ≤ m) : ∀ (r o : Nat) (f : Nat → Int32), o + r + n ≤ m + 3 → f (b + t) = goF ci b m t sg' lv' n o x → inF b (b + m) c sg lv n r (b + o) f (b + t) = goF ci b m t sg' lv' n (o + r) x
  | 0, o, f, h, e => e
  | r + 1, o, f, h, e => by
    simp only [inF]
    rw [show o + (r + 1) = (o + 1) + r from by omega, show b + o + 1 = b + (o + 1) from by omega]
    refine in_v h1 h2 hc ht ht2 r (o + 1) _ (by omega) ?_
    have g := sd_gs (sg := sg) (sg' := sg') (o := o) (n := n) h1 hc (by omega)
    simp only [goF]
    by_cases s : sdF b (b + m) c sg (b + o) n 0 = true
    · rw [if_pos s, rs_v ht (by omega), e]
      have s' := g.mp s
      by_cases w : o ≤ t + 1 ∧ t + 1 - o ≤ n
      · rw [if_pos (show o + 0 ≤ t + 1 ∧ t + 1 < o + 0 + (n + 1) by omega), ← h2 _ w.2]
        unfold mxI
        by_cases z : goF ci b m t sg' lv' n o x < lv' (t + 1 - o)
        · rw [if_pos z, if_pos ⟨s', w.1, w.2, z⟩]
        · rw [if_neg z, if_neg (fun q => z q.2.2.2)]
      · rw [if_neg (by omega), if_neg (fun q => w ⟨q.2.1, q.2.2.1⟩)]
    · rw [if_neg s, e, if_neg (fun q => s (g.mpr q.1))]
def PtR (np : Nat) (pn : Nat → Nat) (psg plv : Nat → Nat → Int32) (sg lv : Nat → Int32) : Prop := ∀ p, p < np → 1 ≤ pn p ∧ pn p ≤ 5 ∧ (∀ k, k < pn p → sg (p * 5 + k) = psg p k) ∧ ∀ k, k ≤ pn p → lv (p * 6 + k) = plv p k ∧ sp9 (plv p k)
theorem ww_v {c ci sg lv : Nat → Int32} {pn : Nat → Nat} {psg plv : Nat → Nat → Int32} {np b m t : Nat} (hP : PtR np pn psg plv sg lv) (hc : ∀ k, k < b + m → ci k = c k) (ht : 2 ≤ t) (ht2 : t + 2 ≤ m) (f : Nat → Int32) (hf : f (b + t) = 0) : ∀ p, p ≤ np → wwF b (b + m) c pn psg plv p f (b + t) = gpF ci b m t sg lv pn p
  | 0, _ => hf
  | p + 1, h => by
    have ih := ww_v hP hc ht ht2 f hf p (by omega)
    obtain ⟨a1, a2, a3, a4⟩ := hP p (by omega)
    simp only [wwF, gpF]
    have q := in_v (c := c) (ci := ci) (sg := psg p) (sg' := fun k => sg (p * 5 + k)) (lv := plv p) (lv' := fun k => lv (p * 6 + k)) (b := b) (m := m) (n := pn p) (t := t) (x := gpF ci b m t sg lv pn p) a3 (fun k hk => (a4 k hk).1) hc ht ht2 (m + 3 - pn p) 0 (wwF b (b + m) c pn psg plv p f) (by omega) ih
    rw [Nat.zero_add, Nat.add_zero] at q
    rw [show b + m + 3 - (b + pn p) = m + 3 - pn p from by omega]; exact q
theorem go_9 {ci : Nat → Int32} {b m t : Nat} {sg lv : Nat → Int32} {n : Nat} (h : ∀ k, k ≤ n → sp9 (lv k)) : ∀ o x, sp9 x → sp9 (goF ci b m t sg lv n o x)
  | 0, x, hx => hx
  | o + 1, x, hx => by
    simp only [goF]
    split
    · rename_i q; exact h _ q.2.2.1
    · exact go_9 h o x hx
theorem gp_9 {ci sg lv : Nat → Int32} {pn : Nat → Nat} {psg plv : Nat → Nat → Int32} {np b m t : Nat} (hP : PtR np pn psg plv sg lv) : ∀ p, p ≤ np → sp9 (gpF ci b m t sg lv pn p)
  | 0, _ => show sp9 0 from ⟨by decide, by decide⟩
  | p + 1, h => by
    obtain ⟨a1, a2, a3, a4⟩ := hP p (by omega)
    simp only [gpF]
    exact go_9 (fun k hk => by have := a4 k hk; rw [this.1]; exact this.2) _ _ (gp_9 hP p (by omega))
def nP (P : Nat → Bool) : Nat → Nat → Nat
  | 0, _ => 0
  | r + 1, k => (if P k = true then 1 else 0) + nP P r (k + 1)
theorem nP_add (P : Nat → Bool) : ∀ r s k, nP P (r + s) k = nP P r k + nP P s (k + r)
  | 0, s, k => by simp [nP]
  | r + 1, s, k => by
    rw [show r + 1 + s = (r + s) + 1 from by omega]
    simp only [nP]
    rw [nP_add P r s (k + 1), show k + 1 + r = k + (r + 1) from by omega]; omega
theorem nP_cg {P Q : Nat → Bool} : ∀ r k i, (∀ j, j < r → P (k + j) = Q (i + j)) → nP P r k = nP Q r i
  | 0, _, _, _ => rfl
  | r + 1, k, i, h => by
    simp only [nP]
    rw [nP_cg r (k + 1) (i + 1) (fun j hj => by rw [show k + 1 + j = k + (j + 1) from by omega, show i + 1 + j = i + (j + 1) from by omega]; exact h (j + 1) (by omega)), show P k = Q i from h 0 (by omega)]
theorem nP_0 {P : Nat → Bool} : ∀ r k, (∀ j, j < r → P (k + j) = false) → nP P r k = 0
  | 0, _, _ => rfl
  | r + 1, k, h => by
    simp only [nP]
    rw [nP_0 r (k + 1) (fun j hj => by rw [show k + 1 + j = k + (j + 1) from by omega]; exact h (j + 1) (by omega)), show P k = false from h 0 (by omega)]; rfl
theorem hk_v (gr : Nat → Int32) (b : Nat) : ∀ (r k : Nat) (pt : Nat → Int32) (q : Nat), (∀ j, (hkF gr b r k pt q).1 j = if b + k ≤ j ∧ j < b + k + r ∧ od (gr (j - b)) = true then 1 else pt j) ∧ (hkF gr b r k pt q).2 = q + nP (fun t => od (gr t)) r k
  | 0, k, pt, q => ⟨fun j => by rw [if_neg (by omega)]; rfl, rfl⟩
  | r + 1, k, pt, q => by
    simp only [hkF, nP]
    by_cases z : gr k - gr k / 2 * 2 = 0
    · have z' : od (gr k) = false := by simp [od, z]
      obtain ⟨i1, i2⟩ := hk_v gr b r (k + 1) pt q
      rw [if_pos z]
      refine ⟨fun j => ?_, by rw [i2, if_neg (by rw [z']; decide)]; omega⟩
      rw [i1 j]
      by_cases e : j = b + k
      · subst e; rw [if_neg (by omega), if_neg (by rw [show b + k - b = k from by omega, z']; simp)]
      · by_cases w : b + (k + 1) ≤ j ∧ j < b + (k + 1) + r ∧ od (gr (j - b)) = true
        · rw [if_pos w, if_pos ⟨by omega, by omega, w.2.2⟩]
        · rw [if_neg w, if_neg (fun u => w ⟨by omega, by omega, u.2.2⟩)]
    · have z' : od (gr k) = true := by simp [od, z]
      obtain ⟨i1, i2⟩ := hk_v gr b r (k + 1) (upd pt (b + k) 1) (q + 1)
      rw [if_neg z]
      refine ⟨fun j => ?_, by rw [i2, if_pos z']; omega⟩
      rw [i1 j]
      by_cases e : j = b + k
      · subst e; rw [if_neg (by omega), pk_us, if_pos ⟨by omega, by omega, by rw [show b + k - b = k from by omega]; exact z'⟩]
      · rw [pk_un e]
        by_cases w : b + (k + 1) ≤ j ∧ j < b + (k + 1) + r ∧ od (gr (j - b)) = true
        · rw [if_pos w, if_pos ⟨by omega, by omega, w.2.2⟩]
        · rw [if_neg w, if_neg (fun u => w ⟨by omega, by omega, u.2.2⟩)]
theorem wd_le {ci : Nat → Int32} : ∀ r i, wdF ci r i ≤ r
  | 0, _ => Nat.le_refl _
  | r + 1, i => by
    simp only [wdF]
    split
    · have := wd_le (ci := ci) r (i + 1); omega
    · omega
theorem wg_word {n np : Nat} {c ci : Nat → Int32} {pn : Nat → Nat} {psg plv : Nat → Nat → Int32} (hc : ∀ k, k < n → ci k = c k) : ∀ (r i b : Nat) (f : Nat → Int32), i + r = n → wgF n c np pn psg plv (r + 1) i b f = wgF n c np pn psg plv (r - wdF ci r i) (i + wdF ci r i + 1) (i + wdF ci r i + 1) (wwF b (i + wdF ci r i) c pn psg plv np f)
  | 0, i, b, f, h => by
    have e : (decide (i < n) && cLet (c i)) = false := by simp; omega
    simp only [wgF, wdF, e]
    rfl
  | r + 1, i, b, f, h => by
    by_cases z : cLet (c i) = true
    · have ih := wg_word (np := np) (pn := pn) (psg := psg) (plv := plv) hc r (i + 1) b f (by omega)
      have e : (decide (i < n) && cLet (c i)) = true := by simp [z]; omega
      have e2 : wdF ci (r + 1) i = wdF ci r (i + 1) + 1 := by simp only [wdF]; rw [hc i (by omega), if_pos z]
      rw [e2, show r + 1 - (wdF ci r (i + 1) + 1) = r - wdF ci r (i + 1) from by omega, show i + (wdF ci r (i + 1) + 1) = i + 1 + wdF ci r (i + 1) from by omega, ← ih]
      conv => lhs; unfold wgF
      rw [if_pos e]
    · have e : (decide (i < n) && cLet (c i)) = false := by simp [z]
      have e2 : wdF ci (r + 1) i = 0 := by simp only [wdF]; rw [hc i (by omega), if_neg z]
      rw [e2]
      conv => lhs; unfold wgF
      rw [e, if_neg (by decide)]; rfl
theorem wg_hy {n np : Nat} {c ci sg lv : Nat → Int32} {pn : Nat → Nat} {psg plv : Nat → Nat → Int32} (hc : ∀ k, k < n → ci k = c k) (hP : PtR np pn psg plv sg lv) : ∀ (r b : Nat) (f pt : Nat → Int32) (q : Nat), n < b + r → b ≤ n + 1 → (∀ k, b ≤ k → k < n → f k = 0) → (∀ k, b ≤ k → k < n → pt k = 0) →
    (∀ k, b ≤ k → k < n → sp9 (wgF n c np pn psg plv (n + 1 - b) b b f k) ∧ ptL (wgF n c np pn psg plv (n + 1 - b) b b f) k = ptM (hyF n ci sg lv pn np r b pt q).1 k) ∧ (∀ k, k < b → wgF n c np pn psg plv (n + 1 - b) b b f k = f k ∧ (hyF n ci sg lv pn np r b pt q).1 k = pt k) ∧ (hyF n ci sg lv pn np r b pt q).2 = q + nP (ptM (hyF n ci sg lv pn np r b pt q).1) (n - b) b := by
  intro r
  induction r with
  | zero => 
    intro b f pt q h1 h2 h3 h4
    have : b = n + 1 := by omega
    subst this
    rw [Nat.sub_self]
    exact ⟨fun k hk1 hk2 => absurd hk1 (by omega), fun k hk => ⟨rfl, rfl⟩, by rw [show n - (n + 1) = 0 from by omega]; rfl⟩
  | succ r ih =>
    intro b f pt q h1 h2 h3 h4
    by_cases hb : b < n
    · have e0 : n + 1 - b = (n - b) + 1 := by omega
      have W := wg_word (np := np) (pn := pn) (psg := psg) (plv := plv) hc (n - b) b b f (by omega)
      have wl := wd_le (ci := ci) (n - b) b
      rw [e0, W]
      have e1 : hyF n ci sg lv pn np (r + 1) b pt q = hyF n ci sg lv pn np r (b + (wdF ci (n - b) b + 1)) (hkF (fun k => gpF ci b (wdF ci (n - b) b) k sg lv pn np) b (wdF ci (n - b) b - 1 - 2) 2 pt q).1 (hkF (fun k => gpF ci b (wdF ci (n - b) b) k sg lv pn np) b (wdF ci (n - b) b - 1 - 2) 2 pt q).2 := by
        show (if b < n then _ else _) = _
        rw [if_pos hb]
      rw [e1]
      generalize wdF ci (n - b) b = m at wl ⊢
      obtain ⟨v1, v2⟩ := hk_v (fun k => gpF ci b m k sg lv pn np) b (m - 1 - 2) 2 pt q
      revert v1 v2
      generalize hkF (fun k => gpF ci b m k sg lv pn np) b (m - 1 - 2) 2 pt q = H
      intro v1 v2
      have ww : ∀ k, b ≤ k → k < b + (m + 1) → k < n → sp9 (wwF b (b + m) c pn psg plv np f k) ∧ ptL (wwF b (b + m) c pn psg plv np f) k = ptM H.1 k := by
        intro k k1 k2 k3
        by_cases z : b + 2 ≤ k ∧ k + 2 ≤ b + m
        · have a := ww_v (c := c) (ci := ci) (b := b) (m := m) (t := k - b) hP (fun j hj => hc j (by omega)) (by omega) (by omega) f (by rw [show b + (k - b) = k from by omega]; exact h3 k k1 k3) np (Nat.le_refl _)
          rw [show b + (k - b) = k from by omega] at a
          have g9 := gp_9 (ci := ci) (b := b) (m := m) (t := k - b) hP np (Nat.le_refl _)
          refine ⟨by rw [a]; exact g9, ?_⟩
          unfold ptL ptM
          rw [a, od_9 g9, v1 k, h4 k k1 k3]
          by_cases o : od (gpF ci b m (k - b) sg lv pn np) = true
          · rw [if_pos ⟨by omega, by omega, o⟩, o]; decide
          · rw [if_neg (fun u => o u.2.2)]
            rw [show od (gpF ci b m (k - b) sg lv pn np) = false from by simpa using o]; decide
        · have a := ww_o (c := c) (pn := pn) (psg := psg) (plv := plv) z f np
          refine ⟨by rw [a, h3 k k1 k3]; exact ⟨by decide, by decide⟩, ?_⟩
          unfold ptL ptM
          rw [a, h3 k k1 k3, v1 k, if_neg (by omega), h4 k k1 k3]; decide
      have I := ih (b + (m + 1)) (wwF b (b + m) c pn psg plv np f) H.1 H.2 (by omega) (by omega) (fun k k1 k2 => by rw [ww_o (by omega)]; exact h3 k (by omega) k2) (fun k k1 k2 => by rw [v1 k, if_neg (by omega)]; exact h4 k (by omega) k2)
      rw [show n + 1 - (b + (m + 1)) = n - b - m from by omega, show b + (m + 1) = b + m + 1 from by omega] at I
      rw [show b + (m + 1) = b + m + 1 from by omega]
      obtain ⟨I1, I2, I3⟩ := I
      refine ⟨fun k k1 k2 => ?_, fun k k1 => ?_, ?_⟩
      · by_cases z : b + m + 1 ≤ k
        · exact I1 k z k2
        · have u := I2 k (by omega)
          have w := ww k k1 (by omega) k2
          refine ⟨by rw [u.1]; exact w.1, ?_⟩
          unfold ptL ptM at w ⊢
          rw [u.1, u.2]; exact w.2
      · have u := I2 k (by omega)
        rw [u.1, u.2, ww_o (by omega), v1 k, if_neg (by omega)]
        exact ⟨rfl, rfl⟩
      · rw [I3]
        generalize hyF n ci sg lv pn np r (b + m + 1) H.1 H.2 = Y at I2 ⊢
        rw [v2]
        have s1 : n - b = (m + (n - b - m)) := by omega
        have key : nP (ptM Y.1) (n - b) b = nP (fun t => od (gpF ci b m t sg lv pn np)) (m - 1 - 2) 2 + nP (ptM Y.1) (n - (b + m + 1)) (b + m + 1) := by
          have pv : ∀ k, b ≤ k → k < b + m + 1 → k < n → ptM Y.1 k = decide (b + 2 ≤ k ∧ k < b + 2 + (m - 1 - 2) ∧ od (gpF ci b m (k - b) sg lv pn np) = true) := by
            intro k k1 k2 k3
            unfold ptM
            rw [(I2 k k2).2, v1 k, h4 k k1 k3]
            by_cases w : b + 2 ≤ k ∧ k < b + 2 + (m - 1 - 2) ∧ od (gpF ci b m (k - b) sg lv pn np) = true
            · rw [if_pos w]; simp [w]
            · rw [if_neg w]; simp [w]
          by_cases m3 : 3 ≤ m
          · have f1 : nP (ptM Y.1) (n - b) b = nP (ptM Y.1) 2 b + (nP (ptM Y.1) (m - 1 - 2) (b + 2) + nP (ptM Y.1) (n - (b + m - 1)) (b + m - 1)) := by
              have a1 := nP_add (ptM Y.1) 2 (n - b - 2) b
              have a2 := nP_add (ptM Y.1) (m - 1 - 2) (n - (b + m - 1)) (b + 2)
              rw [show b + 2 + (m - 1 - 2) = b + m - 1 from by omega, show m - 1 - 2 + (n - (b + m - 1)) = n - b - 2 from by omega] at a2
              rw [show 2 + (n - b - 2) = n - b from by omega] at a1
              rw [a1, a2]
            have f2 : nP (ptM Y.1) 2 b = 0 := nP_0 2 b (fun j hj => by rw [pv _ (by omega) (by omega) (by omega)]; simp; intro; omega)
            have f3 : nP (ptM Y.1) (m - 1 - 2) (b + 2) = nP (fun t => od (gpF ci b m t sg lv pn np)) (m - 1 - 2) 2 := nP_cg _ _ _ (fun j hj => by
              rw [pv _ (by omega) (by omega) (by omega), show b + 2 + j - b = 2 + j from by omega]
              have : b + 2 ≤ b + 2 + j ∧ b + 2 + j < b + 2 + (m - 1 - 2) := by omega
              simp [this])
            have f4 : nP (ptM Y.1) (n - (b + m - 1)) (b + m - 1) = nP (ptM Y.1) (n - (b + m + 1)) (b + m + 1) := by
              have z : ∀ k, b + m - 1 ≤ k → k < b + m + 1 → k < n → ptM Y.1 k = false := fun k k1 k2 k3 => by
                rw [pv k (by omega) k2 k3]; simp; intro; omega
              by_cases g : b + m + 1 ≤ n
              · have a1 := nP_add (ptM Y.1) 2 (n - (b + m + 1)) (b + m - 1)
                rw [show 2 + (n - (b + m + 1)) = n - (b + m - 1) from by omega, show b + m - 1 + 2 = b + m + 1 from by omega] at a1
                rw [a1, nP_0 2 _ (fun j hj => z _ (by omega) (by omega) (by omega)), Nat.zero_add]
              · rw [nP_0 (n - (b + m - 1)) _ (fun j hj => z _ (by omega) (by omega) (by omega)), show n - (b + m + 1) = 0 from by omega]; rfl
            rw [f1, f2, f3, f4]; omega
          · rw [show m - 1 - 2 = 0 from by omega]
            have z : ∀ k, b ≤ k → k < b + m + 1 → k < n → ptM Y.1 k = false := fun k k1 k2 k3 => by
              rw [pv k k1 k2 k3]; simp; intro; omega
            show _ = 0 + _
            by_cases g : b + m + 1 ≤ n
            · have a1 := nP_add (ptM Y.1) (m + 1) (n - (b + m + 1)) b
              rw [show m + 1 + (n - (b + m + 1)) = n - b from by omega, show b + (m + 1) = b + m + 1 from by omega] at a1
              rw [a1, nP_0 (m + 1) _ (fun j hj => z _ (by omega) (by omega) (by omega))]
            · rw [nP_0 (n - b) _ (fun j hj => z _ (by omega) (by omega) (by omega)), show n - (b + m + 1) = 0 from by omega]; rfl
        rw [key]; omega
    · have e1 : hyF n ci sg lv pn np (r + 1) b pt q = (pt, q) := by
        show (if b < n then _ else _) = _
        rw [if_neg hb]
      rw [e1]
      refine ⟨fun k k1 k2 => absurd k1 (by omega), fun k k1 => ⟨?_, rfl⟩, by rw [show n - b = 0 from by omega]; rfl⟩
      by_cases e : b = n
      · subst e
        have W := wg_word (np := np) (pn := pn) (psg := psg) (plv := plv) hc 0 b b f (by omega)
        rw [show b + 1 - b = 0 + 1 from by omega, W]
        show wwF b (b + 0) c pn psg plv np f k = f k
        exact ww_o (by omega) f np
      · rw [show n + 1 - b = 0 from by omega]; rfl
