/-! breaks -/
theorem wd_let {ci : Nat → Int32} : ∀ r i j, j < wdF ci r i → cLet (ci (i + j)) = true
  | 0, i, j, h => absurd h (by simp [wdF])
  | r + 1, i, j, h => by
    simp only [wdF] at h
    by_cases z : cLet (ci i) = true
    · rw [if_pos z] at h
      cases j with
      | zero => exact z
      | succ j => rw [show i + (j + 1) = i + 1 + j from by omega]; exact wd_let r (i + 1) j (by omega)
    · rw [if_neg z] at h; omega
theorem hy_let {n np : Nat} {ci sg lv : Nat → Int32} {pn : Nat → Nat} : ∀ (r b : Nat) (pt : Nat → Int32) (q k : Nat), ¬ (hyF n ci sg lv pn np r b pt q).1 k = 0 → ¬ pt k = 0 ∨ cLet (ci k) = true
  | 0, b, pt, q, k, h => Or.inl h
  | r + 1, b, pt, q, k, h => by
    by_cases hb : b < n
    · have e1 : hyF n ci sg lv pn np (r + 1) b pt q = hyF n ci sg lv pn np r (b + (wdF ci (n - b) b + 1)) (hkF (fun k => gpF ci b (wdF ci (n - b) b) k sg lv pn np) b (wdF ci (n - b) b - 1 - 2) 2 pt q).1 (hkF (fun k => gpF ci b (wdF ci (n - b) b) k sg lv pn np) b (wdF ci (n - b) b - 1 - 2) 2 pt q).2 := by
        show (if b < n then _ else _) = _
        rw [if_pos hb]
      rw [e1] at h
      rcases hy_let r _ _ _ k h with u | u
      · rw [(hk_v _ b _ 2 pt q).1 k] at u
        by_cases w : b + 2 ≤ k ∧ k < b + 2 + (wdF ci (n - b) b - 1 - 2) ∧ od (gpF ci b (wdF ci (n - b) b) (k - b) sg lv pn np) = true
        · right
          have := wd_let (ci := ci) (n - b) b (k - b) (by omega)
          rwa [show b + (k - b) = k from by omega] at this
        · rw [if_neg w] at u; exact Or.inl u
      · exact Or.inr u
    · have e1 : hyF n ci sg lv pn np (r + 1) b pt q = (pt, q) := by
        show (if b < n then _ else _) = _
        rw [if_neg hb]
      rw [e1] at h; exact Or.inl h
/-- where the class and where the model let a line begin -/
def Gd (c : Nat → Int32) (tn gc gm : Nat) : Prop := (gc = gm ∧ (gm < tn → ¬ c gm = 32)) ∨ (gc = gm + 1 ∧ gm < tn ∧ c gm = 32 ∧ (gc < tn → ¬ c gc = 32))
def Bk (c : Nat → Int32) (tn k : Nat) (K : Int32) (e gc gm : Nat) : Prop := e ≤ gm ∧ gm ≤ k ∧ e ≤ tn ∧ gm ≤ tn ∧ (K = 3 → gm = e + 1) ∧ (K = 0 ∨ K = 1 ∨ K = 2 ∨ K = 3 ∨ K = 4) ∧ Gd c tn gc gm
def Br (c : Nat → Int32) (tn k N : Nat) (S S' : bS) (eN gC gM : Nat → Nat) : Prop :=
  S.1 = S'.1 ∧ S.1 ≤ 24 ∧ (S.2.1 0 = -1 ∧ S'.2.1 0 = 0 ∧ S.2.2.1 0 = 0 ∧ S.2.2.2 0 = 0 ∧ S'.2.2.2 0 = 0 ∧ eN 0 = 0 ∧ gC 0 = 0 ∧ gM 0 = 0) ∧
  (∀ j, 1 ≤ j → j ≤ S.1 → Bk c tn k (S.2.1 j) (eN j) (gC j) (gM j) ∧ S'.2.1 j = S.2.1 j ∧ S.2.2.1 j = nI (eN j) ∧ S'.2.2.1 j = nI (eN j) ∧ S.2.2.2 j = nI (gC j) ∧ S'.2.2.2 j = nI (gM j)) ∧
  (∀ i j, i < j → j ≤ S.1 → gM i ≤ eN j) ∧ (∀ q, q < k → c q = 124 → ∃ t, 1 ≤ t ∧ t ≤ S.1 ∧ S.2.1 t = 3 ∧ eN t = q) ∧ cnt2 S.2.1 S.1 = N
theorem cnt2_u {K : Nat → Int32} {x : Int32} {m : Nat} : ∀ n, n < m → cnt2 (upd K m x) n = cnt2 K n
  | 0, _ => rfl
  | n + 1, h => by
    simp only [cnt2]
    rw [cnt2_u n (by omega), pk_un (by omega)]
theorem Br.nop {c : Nat → Int32} {tn k N : Nat} {S S' : bS} {eN gC gM : Nat → Nat} (h : Br c tn k N S S' eN gC gM) (hc : ¬ c k = 124) : Br c tn (k + 1) N S S' eN gC gM := by
  obtain ⟨h1, h2, h3, h4, h5, h6, h7⟩ := h
  refine ⟨h1, h2, h3, fun j a b => ?_, h5, fun q hq hb => ?_, h7⟩
  · obtain ⟨⟨a1, a2, a3⟩, b2⟩ := h4 j a b
    exact ⟨⟨a1, by omega, a3⟩, b2⟩
  · by_cases e : q = k
    · subst e; exact absurd hb hc
    · exact h6 q (by omega) hb
theorem Br.ad {c : Nat → Int32} {tn k k2 N : Nat} {S S' : bS} {eN gC gM : Nat → Nat} (h : Br c tn k N S S' eN gC gM) {x : Int32} {e gc gm : Nat} (hn : ¬ S.1 = 24) (hk : k ≤ k2) (he : k ≤ e) (hb : Bk c tn k2 x e gc gm) (hq : ∀ q, q < k2 → c q = 124 → q < k ∨ (x = 3 ∧ e = q)) :
    Br c tn k2 (N + (if x = 2 then 1 else 0)) (S.1 + 1, upd S.2.1 (S.1 + 1) x, upd S.2.2.1 (S.1 + 1) (nI e), upd S.2.2.2 (S.1 + 1) (nI gc)) (S'.1 + 1, upd S'.2.1 (S'.1 + 1) x, upd S'.2.2.1 (S'.1 + 1) (nI e), upd S'.2.2.2 (S'.1 + 1) (nI gm)) (fun j => if j = S.1 + 1 then e else eN j) (fun j => if j = S.1 + 1 then gc else gC j) (fun j => if j = S.1 + 1 then gm else gM j) := by
  obtain ⟨h1, h2, ⟨z1, z2, z3, z4, z5, z6, z7, z8⟩, h4, h5, h6, h7⟩ := h
  have gk : ∀ i, i ≤ S.1 → gM i ≤ k := fun i hi => by
    by_cases e : i = 0
    · subst e; rw [z8]; omega
    · exact (h4 i (by omega) hi).1.2.1
  rw [← h1]
  refine ⟨rfl, by show S.1 + 1 ≤ 24; omega, ⟨?_, ?_, ?_, ?_, ?_, ?_, ?_, ?_⟩, fun j a b => ?_, fun i j a b => ?_, fun q a b => ?_, ?_⟩
  · simp only; rw [pk_un (by omega)]; exact z1
  · simp only; rw [pk_un (by omega)]; exact z2
  · simp only; rw [pk_un (by omega)]; exact z3
  · simp only; rw [pk_un (by omega)]; exact z4
  · simp only; rw [pk_un (by omega)]; exact z5
  · show (if 0 = S.1 + 1 then _ else _) = _; rw [if_neg (by omega)]; exact z6
  · show (if 0 = S.1 + 1 then _ else _) = _; rw [if_neg (by omega)]; exact z7
  · show (if 0 = S.1 + 1 then _ else _) = _; rw [if_neg (by omega)]; exact z8
  · have b : j ≤ S.1 + 1 := b
    simp only
    by_cases e : j = S.1 + 1
    · subst e; simp only [if_true, pk_us]; exact ⟨hb, trivial, trivial, trivial, trivial, trivial⟩
    · simp only [if_neg e, pk_un e]
      obtain ⟨⟨a1, a2, a3⟩, b2⟩ := h4 j a (by omega)
      exact ⟨⟨a1, by omega, a3⟩, b2⟩
  · have b : j ≤ S.1 + 1 := b
    show (if i = S.1 + 1 then _ else _) ≤ (if j = S.1 + 1 then _ else _)
    rw [if_neg (by omega)]
    by_cases e : j = S.1 + 1
    · rw [if_pos e]; have := gk i (by omega); omega
    · rw [if_neg e]; exact h5 i j a (by omega)
  · simp only
    rcases hq q a b with w | ⟨w1, w2⟩
    · obtain ⟨t, t1, t2, t3, t4⟩ := h6 q w b
      exact ⟨t, t1, by omega, by rw [pk_un (by omega)]; exact t3, by rw [if_neg (by omega)]; exact t4⟩
    · exact ⟨S.1 + 1, by omega, by omega, by rw [pk_us]; exact w1, by rw [if_pos rfl]; exact w2⟩
  · show cnt2 (upd S.2.1 (S.1 + 1) x) (S.1 + 1) = _
    simp only [cnt2]
    rw [cnt2_u _ (by omega), h7, pk_us]
theorem Br.bp {c : Nat → Int32} {tn k N : Nat} {S S' : bS} {eN gC gM : Nat → Nat} (h : Br c tn k N S S' eN gC gM) {pt pt' : Nat → Bool} (hp : pt k = pt' k) (hl : pt k = true → cLet (c k) = true) (hk : k < tn) :
    (bP pt k S).1 = (bP pt' k S').1 ∧ ((bP pt k S).1 = true → ∃ eN gC gM, Br c tn k (N + (if pt k = true then 1 else 0)) (bP pt k S).2 (bP pt' k S').2 eN gC gM) := by
  unfold bP
  rw [← hp]
  by_cases t : pt k = true
  · rw [if_pos t, if_pos t, if_pos t]
    unfold bA
    rw [← h.1]
    by_cases n : S.1 = 24
    · rw [if_pos n, if_pos n]; exact ⟨rfl, fun q => absurd q (by simp)⟩
    · rw [if_neg n, if_neg n]
      refine ⟨rfl, fun _ => ?_⟩
      have := h.ad (x := 2) (e := k) (gc := k) (gm := k) (k2 := k) n (Nat.le_refl _) (Nat.le_refl _) ⟨Nat.le_refl _, Nat.le_refl _, by omega, by omega, fun q => absurd q (by decide), Or.inr (Or.inr (Or.inl rfl)), Or.inl ⟨rfl, fun _ q => by have := hl t; rw [q] at this; revert this; decide⟩⟩ (fun q a _ => Or.inl a)
      rw [if_pos rfl, ← h.1] at this
      exact ⟨_, _, _, this⟩
  · rw [if_neg t, if_neg t, if_neg t]
    exact ⟨rfl, fun _ => ⟨eN, gC, gM, h⟩⟩
theorem Br.ba {c ci : Nat → Int32} {tn k N : Nat} {S S' : bS} {eN gC gM : Nat → Nat} (h : Br c tn k N S S' eN gC gM) (hT : TX tn c) (hk : k < tn) (hc : ci k = c k) :
    (bAt tn c k S).1 = (bAm tn ci k S').1 ∧ ((bAt tn c k S).1 = true → ∃ eN gC gM, Br c tn (k + 1) N (bAt tn c k S).2 (bAm tn ci k S').2 eN gC gM) := by
  have nx : (c k = 32 ∨ c k = 124) → Gd c tn (k + 1) (k + 1) := fun q => Or.inl ⟨rfl, fun w => hT.2 k w q⟩
  unfold bAt bAm
  rw [hc]
  by_cases c1 : c k = 32
  · rw [if_pos c1, if_pos c1]
    unfold bA
    rw [← h.1]
    by_cases n : S.1 = 24
    · rw [if_pos n, if_pos n]; exact ⟨rfl, fun q => absurd q (by simp)⟩
    · rw [if_neg n, if_neg n]
      refine ⟨rfl, fun _ => ?_⟩
      have := h.ad (x := 0) (e := k) (gc := k + 1) (gm := k + 1) (k2 := k + 1) n (by omega) (Nat.le_refl _) ⟨by omega, Nat.le_refl _, by omega, by omega, fun q => absurd q (by decide), Or.inl rfl, nx (Or.inl c1)⟩ (fun q a b => Or.inl (by
        by_cases e : q = k
        · subst e; rw [c1] at b; exact absurd b (by decide)
        · omega))
      rw [← h.1, if_neg (by decide)] at this
      exact ⟨_, _, _, this⟩
  rw [if_neg c1, if_neg c1]
  by_cases c2 : c k = 124
  · rw [if_pos c2, if_pos c2]
    unfold bA
    rw [← h.1]
    by_cases n : S.1 = 24
    · rw [if_pos n, if_pos n]; exact ⟨rfl, fun q => absurd q (by simp)⟩
    · rw [if_neg n, if_neg n]
      refine ⟨rfl, fun _ => ?_⟩
      have := h.ad (x := 3) (e := k) (gc := k + 1) (gm := k + 1) (k2 := k + 1) n (by omega) (Nat.le_refl _) ⟨by omega, Nat.le_refl _, by omega, by omega, fun q => rfl, Or.inr (Or.inr (Or.inr (Or.inl rfl))), nx (Or.inr c2)⟩ (fun q a b => by
        by_cases e : q = k
        · exact Or.inr ⟨rfl, e.symm⟩
        · left; omega)
      rw [← h.1, if_neg (by decide)] at this
      exact ⟨_, _, _, this⟩
  rw [if_neg c2, if_neg c2]
  by_cases c3 : c k = 45 ∧ k + 1 < tn
  · rw [if_pos c3, if_pos c3]
    unfold bA
    rw [← h.1]
    by_cases n : S.1 = 24
    · rw [if_pos n, if_pos n]; exact ⟨rfl, fun q => absurd q (by simp)⟩
    · rw [if_neg n, if_neg n]
      have bq : ∀ q, q < k + 1 → c q = 124 → q < k ∨ ((1 : Int32) = 3 ∧ k + 1 = q) := fun q a b => Or.inl (by
        by_cases e : q = k
        · subst e; exact absurd b c2
        · omega)
      refine ⟨rfl, fun _ => ?_⟩
      by_cases c4 : c (k + 1) = 32
      · have := h.ad (x := 1) (e := k + 1) (gc := k + 2) (gm := k + 1) (k2 := k + 1) n (by omega) (by omega) ⟨by omega, Nat.le_refl _, by omega, by omega, fun q => absurd q (by decide), Or.inr (Or.inl rfl), Or.inr ⟨rfl, c3.2, c4, fun w => hT.2 (k + 1) w (Or.inl c4)⟩⟩ bq
        rw [← h.1, if_neg (by decide)] at this
        exact ⟨_, _, _, by rw [if_pos c4]; exact this⟩
      · have := h.ad (x := 1) (e := k + 1) (gc := k + 1) (gm := k + 1) (k2 := k + 1) n (by omega) (by omega) ⟨by omega, Nat.le_refl _, by omega, by omega, fun q => absurd q (by decide), Or.inr (Or.inl rfl), Or.inl ⟨rfl, fun _ => c4⟩⟩ bq
        rw [← h.1, if_neg (by decide)] at this
        exact ⟨_, _, _, by rw [if_neg c4]; exact this⟩
  · rw [if_neg c3, if_neg c3]
    exact ⟨rfl, fun _ => ⟨eN, gC, gM, h.nop c2⟩⟩
theorem bk_mb {c ci : Nat → Int32} {tn : Nat} {pt pt' : Nat → Bool} (h0 : 0 < tn) (hT : TX tn c) (hc : ∀ k, k < tn → ci k = c k) (hp : ∀ k, k < tn → pt k = pt' k ∧ (pt k = true → cLet (c k) = true)) : ∀ (r k N : Nat) (S S' : bS) (eN gC gM : Nat → Nat), k + r = tn → Br c tn k N S S' eN gC gM →
    (bkF tn c pt r k S).1 = (mbF tn ci pt' r k S').1 ∧ ((bkF tn c pt r k S).1 = true → ∃ eN gC gM, Br c tn tn (N + nP pt r k) (bkF tn c pt r k S).2 (mbF tn ci pt' r k S').2 eN gC gM ∧ 0 < (bkF tn c pt r k S).2.1)
  | 0, k, N, S, S', eN, gC, gM, hk, h => by
    have e : k = tn := by omega
    subst e
    simp only [bkF, mbF]
    rw [if_neg (by omega)]
    unfold bA
    rw [← h.1]
    by_cases n : S.1 = 24
    · rw [if_pos n, if_pos n]; exact ⟨rfl, fun q => absurd q (by simp)⟩
    · rw [if_neg n, if_neg n]
      refine ⟨rfl, fun _ => ?_⟩
      have := h.ad (x := 4) (e := k) (gc := k) (gm := k) (k2 := k) n (Nat.le_refl _) (Nat.le_refl _) ⟨Nat.le_refl _, Nat.le_refl _, by omega, by omega, fun q => absurd q (by decide), Or.inr (Or.inr (Or.inr (Or.inr rfl))), Or.inl ⟨rfl, fun w => absurd w (by omega)⟩⟩ (fun q a _ => Or.inl a)
      rw [← h.1, if_neg (by decide)] at this
      exact ⟨_, _, _, this, Nat.succ_pos _⟩
  | r + 1, k, N, S, S', eN, gC, gM, hk, h => by
    simp only [bkF, mbF, nP]
    obtain ⟨a1, a2⟩ := h.bp (hp k (by omega)).1 (hp k (by omega)).2 (by omega)
    rw [← a1]
    by_cases t : (bP pt k S).1 = true
    · obtain ⟨eN, gC, gM, h'⟩ := a2 t
      obtain ⟨b1, b2⟩ := h'.ba hT (by omega) (hc k (by omega))
      rw [if_pos t, if_pos t, ← b1]
      by_cases t2 : (bAt tn c k (bP pt k S).2).1 = true
      · obtain ⟨eN, gC, gM, h2⟩ := b2 t2
        rw [if_pos t2, if_pos t2]
        have := bk_mb h0 hT hc hp r (k + 1) _ _ _ eN gC gM (by omega) h2
        rw [← Nat.add_assoc]; exact this
      · rw [if_neg t2, if_neg t2]; exact ⟨rfl, fun q => absurd q (by simp)⟩
    · rw [if_neg t, if_neg t]; exact ⟨rfl, fun q => absurd q (by simp)⟩
theorem Br.ib {c : Nat → Int32} {tn N : Nat} {S S' : bS} {eN gC gM : Nat → Nat} (h : Br c tn tn N S S' eN gC gM) {i j : Nat} (hi : i < j) (hj : j ≤ S.1) (hn : ∀ t, i < t → t < j → ¬ S.2.1 t = 3) : ∀ k, gM i ≤ k → k < eN j → ¬ c k = 124 := by
  intro k k1 k2 k3
  obtain ⟨h1, h2, ⟨z1, z2, z3, z4, z5, z6, z7, z8⟩, h4, h5, h6, h7⟩ := h
  have en := (h4 j (by omega) hj).1.2.2.1
  obtain ⟨t, t1, t2, t3, t4⟩ := h6 k (by omega) k3
  have g3 := (h4 t t1 t2).1.2.2.2.2.1 t3
  have tj : t < j := by
    apply Nat.lt_of_not_le; intro q
    by_cases e : t = j
    · subst e; omega
    · have a := h5 j t (by omega) t2
      have b := (h4 j (by omega) hj).1.1
      omega
  have ti : i < t := by
    apply Nat.lt_of_not_le; intro q
    by_cases e : t = i
    · subst e; omega
    · have a := h5 t i (by omega) (by omega)
      have b : eN i ≤ gM i := by exact (h4 i (by omega) (by omega)).1.1
      omega
  exact hn t ti tj t3
