/-! tidy (class) and clean (model) -/
theorem dgle (g : (Nat → Int32) → Nat → Nat → Bool) (c s : Nat → Int32) : ∀ k, (dGo g c s k).1 ≤ k
  | 0 => Nat.le_refl _
  | k + 1 => by
    have ih := dgle g c s k
    simp only [dGo]
    split
    · omega
    · show _ + 1 ≤ _; omega
theorem dghi (g : (Nat → Int32) → Nat → Nat → Bool) (c s : Nat → Int32) : ∀ k j, k ≤ j → (dGo g c s k).2.1 j = c j ∧ (dGo g c s k).2.2 j = s j
  | 0, j, _ => ⟨rfl, rfl⟩
  | k + 1, j, h => by
    have ih := dghi g c s k j (by omega)
    have le := dgle g c s k
    simp only [dGo]
    split
    · exact ih
    · show upd _ _ _ j = _ ∧ upd _ _ _ j = _
      rw [pk_un (by omega), pk_un (by omega)]; exact ih
theorem dgt {g : (Nat → Int32) → Nat → Nat → Bool} {c s : Nat → Int32} {k : Nat} (h : g (dGo g c s k).2.1 (dGo g c s k).1 k = true) : dGo g c s (k + 1) = dGo g c s k := by
  simp only [dGo]; rw [if_pos h]
theorem dgf {g : (Nat → Int32) → Nat → Nat → Bool} {c s : Nat → Int32} {k : Nat} (h : ¬ g (dGo g c s k).2.1 (dGo g c s k).1 k = true) : dGo g c s (k + 1) = ((dGo g c s k).1 + 1, upd (dGo g c s k).2.1 (dGo g c s k).1 (c k), upd (dGo g c s k).2.2 (dGo g c s k).1 (s k)) := by
  have e := dghi g c s k k (Nat.le_refl _)
  rw [← e.1, ← e.2]
  show (if _ then _ else _) = _
  rw [if_neg h]
theorem dg_cl {g : (Nat → Int32) → Nat → Nat → Bool} {g' : (Nat → Int32) → Nat → Bool} (hg : ∀ a b q k, b q = a k → (0 < q → b (q - 1) = a (q - 1)) → g' b q = g a q k) (c s : Nat → Int32) : ∀ (m k : Nat) (c2 s2 : Nat → Int32), (∀ j, j < (dGo g c s k).1 → c2 j = (dGo g c s k).2.1 j ∧ s2 j = (dGo g c s k).2.2 j) → (∀ j, j < m → c2 ((dGo g c s k).1 + j) = c (k + j) ∧ s2 ((dGo g c s k).1 + j) = s (k + j)) →
    (clF g' m (dGo g c s k).1 ((dGo g c s k).1 + m) c2 s2).1 = (dGo g c s (k + m)).1 ∧ ∀ j, j < (dGo g c s (k + m)).1 → (clF g' m (dGo g c s k).1 ((dGo g c s k).1 + m) c2 s2).2.1 j = (dGo g c s (k + m)).2.1 j ∧ (clF g' m (dGo g c s k).1 ((dGo g c s k).1 + m) c2 s2).2.2 j = (dGo g c s (k + m)).2.2 j
  | 0, k, c2, s2, h1, h2 => ⟨rfl, h1⟩
  | m + 1, k, c2, s2, h1, h2 => by
    have e0 := h2 0 (by omega)
    simp only [Nat.add_zero] at e0
    have hi := dghi g c s k k (Nat.le_refl _)
    have ec : g' c2 (dGo g c s k).1 = g (dGo g c s k).2.1 (dGo g c s k).1 k := hg _ _ _ _ (by rw [e0.1, hi.1]) (fun q => (h1 _ (by omega)).1)
    rw [show k + (m + 1) = (k + 1) + m from by omega]
    by_cases t : g (dGo g c s k).2.1 (dGo g c s k).1 k = true
    · have ih := dg_cl hg c s m (k + 1) (dsF c2 (dGo g c s k).1 ((dGo g c s k).1 + m)) (dsF s2 (dGo g c s k).1 ((dGo g c s k).1 + m))
      rw [dgt t] at ih
      simp only [clF]
      rw [ec, if_pos t]
      refine ih (fun j hj => ?_) (fun j hj => ?_)
      · simp only [dsF]; rw [if_neg (by omega), if_neg (by omega)]; exact h1 j hj
      · simp only [dsF]; rw [if_pos (by omega), if_pos (by omega), show (dGo g c s k).1 + j + 1 = (dGo g c s k).1 + (j + 1) from by omega, show k + 1 + j = k + (j + 1) from by omega]; exact h2 (j + 1) (by omega)
    · have ih := dg_cl hg c s m (k + 1) c2 s2
      have e3 := dgf t
      have e4 : (dGo g c s (k + 1)).1 = (dGo g c s k).1 + 1 := by rw [e3]
      have e5 : (dGo g c s (k + 1)).2.1 = upd (dGo g c s k).2.1 (dGo g c s k).1 (c k) := by rw [e3]
      have e6 : (dGo g c s (k + 1)).2.2 = upd (dGo g c s k).2.2 (dGo g c s k).1 (s k) := by rw [e3]
      simp only [clF]
      rw [ec, if_neg t]
      rw [e4, e5, e6] at ih
      rw [show (dGo g c s k).1 + (m + 1) = (dGo g c s k).1 + 1 + m from by omega]
      refine ih (fun j hj => ?_) (fun j hj => ?_)
      · by_cases e : j = (dGo g c s k).1
        · subst e; rw [pk_us, pk_us]; exact e0
        · rw [pk_un e, pk_un e]; exact h1 j (by omega)
      · rw [show (dGo g c s k).1 + 1 + j = (dGo g c s k).1 + (j + 1) from by omega, show k + 1 + j = k + (j + 1) from by omega]; exact h2 (j + 1) (by omega)
theorem dg_P {P : Int32 → Int32 → Prop} {g : (Nat → Int32) → Nat → Nat → Bool} {c s : Nat → Int32} {n : Nat} (hP : ∀ i, i < n → P (c i) (s i)) : ∀ k, k ≤ n → ∀ i, i < (dGo g c s k).1 → P ((dGo g c s k).2.1 i) ((dGo g c s k).2.2 i)
  | 0, _, i, hi => absurd hi (by simp [dGo])
  | k + 1, h, i, hi => by
    have ih := dg_P (g := g) hP k (by omega)
    by_cases t : g (dGo g c s k).2.1 (dGo g c s k).1 k = true
    · rw [dgt t] at hi ⊢; exact ih i hi
    · rw [dgf t] at hi ⊢
      simp only at hi ⊢
      by_cases e : i = (dGo g c s k).1
      · subst e; rw [pk_us, pk_us]; exact hP k (by omega)
      · rw [pk_un e, pk_un e]; exact ih i (by omega)
/-- the text's shape: no blank at the beginning, none behind a blank or a bar -/
def TX (n : Nat) (c : Nat → Int32) : Prop := (0 < n → ¬ c 0 = 32) ∧ ∀ k, k + 1 < n → (c k = 32 ∨ c k = 124) → ¬ c (k + 1) = 32
theorem TX.ap {q : Nat} {c : Nat → Int32} {x : Int32} (h : TX q c) (h0 : q = 0 → ¬ x = 32) (h1 : 0 < q → (c (q - 1) = 32 ∨ c (q - 1) = 124) → ¬ x = 32) : TX (q + 1) (upd c q x) := by
  refine ⟨fun _ => ?_, fun k hk => ?_⟩
  · by_cases e : 0 = q
    · subst e; rw [pk_us]; exact h0 rfl
    · rw [pk_un e]; exact h.1 (by omega)
  · rw [pk_un (show k ≠ q by omega)]
    by_cases e : k + 1 = q
    · rw [e, pk_us]; have := h1 (by omega); rwa [show q - 1 = k from by omega] at this
    · rw [pk_un e]; exact h.2 k (by omega)
theorem TX.le {n m : Nat} {c : Nat → Int32} (h : TX n c) (hm : m ≤ n) : TX m c := ⟨fun q => h.1 (by omega), fun k hk => h.2 k (by omega)⟩
theorem dg_A (c s : Nat → Int32) : ∀ k, TX (dGo gBb c s k).1 (dGo gBb c s k).2.1
  | 0 => ⟨fun q => absurd q (by simp [dGo]), fun k hk => absurd hk (by simp [dGo])⟩
  | k + 1 => by
    have ih := dg_A c s k
    by_cases t : gBb (dGo gBb c s k).2.1 (dGo gBb c s k).1 k = true
    · rw [dgt t]; exact ih
    · rw [dgf t]
      have hi := (dghi gBb c s k k (Nat.le_refl _)).1
      refine ih.ap (fun e q => ?_) (fun e w q => ?_)
      · apply t; simp only [gBb, Bool.and_eq_true, Bool.or_eq_true, decide_eq_true_eq]; exact ⟨by rw [hi]; exact q, Or.inl e⟩
      · apply t; simp only [gBb, Bool.and_eq_true, Bool.or_eq_true, decide_eq_true_eq]; exact ⟨by rw [hi]; exact q, Or.inr w⟩
theorem dg_TX {g : (Nat → Int32) → Nat → Nat → Bool} {c s : Nat → Int32} {n : Nat} (h : TX n c) (hg : ∀ a q k, k + 1 < n → (∀ j, k ≤ j → a j = c j) → g a q k = true → ¬ c (k + 1) = 32) : ∀ k, k ≤ n → TX (dGo g c s k).1 (dGo g c s k).2.1 ∧ (k < n → ((dGo g c s k).1 = 0 → ¬ c k = 32) ∧ (0 < (dGo g c s k).1 → ((dGo g c s k).2.1 ((dGo g c s k).1 - 1) = 32 ∨ (dGo g c s k).2.1 ((dGo g c s k).1 - 1) = 124) → ¬ c k = 32))
  | 0, _ => ⟨⟨fun q => absurd q (by simp [dGo]), fun k hk => absurd hk (by simp [dGo])⟩, fun q => ⟨fun _ => h.1 q, fun w => absurd w (by simp [dGo])⟩⟩
  | k + 1, hk => by
    obtain ⟨i1, i2⟩ := dg_TX (s := s) h hg k (by omega)
    obtain ⟨i2, i3⟩ := i2 (by omega)
    by_cases t : g (dGo g c s k).2.1 (dGo g c s k).1 k = true
    · rw [dgt t]
      refine ⟨i1, fun q => ?_⟩
      have := hg _ _ k q (fun j hj => (dghi g c s k j hj).1) t
      exact ⟨fun _ => this, fun _ _ => this⟩
    · rw [dgf t]
      refine ⟨i1.ap i2 i3, fun q => ⟨fun w => absurd w (Nat.succ_ne_zero _), fun _ => ?_⟩⟩
      show (upd _ _ _ ((dGo g c s k).1 + 1 - 1) = 32 ∨ upd _ _ _ ((dGo g c s k).1 + 1 - 1) = 124) → _
      rw [Nat.add_sub_cancel, pk_us]
      exact h.2 k q
theorem gf_o {n : Nat} {c s : Nat → Int32} (k : Nat) : gBf n (dGo (gBf n) c s k).2.1 (dGo (gBf n) c s k).1 k = gBf n c 0 k := by
  simp only [gBf]; rw [(dghi (gBf n) c s k k (Nat.le_refl _)).1, (dghi (gBf n) c s k (k + 1) (by omega)).1]
theorem kf_s {n : Nat} {c s : Nat → Int32} (k : Nat) : (dGo (gBf n) c s (k + 1)).1 = (dGo (gBf n) c s k).1 + (if gBf n c 0 k = true then 0 else 1) := by
  by_cases t : gBf n c 0 k = true
  · rw [dgt (by rw [gf_o]; exact t), if_pos t]; rfl
  · rw [dgf (by rw [gf_o]; exact t), if_neg t]
theorem kf_m {n : Nat} {c s : Nat → Int32} : ∀ (r k : Nat), (dGo (gBf n) c s k).1 ≤ (dGo (gBf n) c s (k + r)).1
  | 0, k => Nat.le_refl _
  | r + 1, k => by
    have := kf_m (n := n) (c := c) (s := s) r k
    have e := kf_s (n := n) (c := c) (s := s) (k + r)
    rw [show k + (r + 1) = k + r + 1 from by omega]; omega
theorem kf_l {n : Nat} {c s : Nat → Int32} {i j : Nat} (h : i ≤ j) : (dGo (gBf n) c s i).1 ≤ (dGo (gBf n) c s j).1 := by
  have := kf_m (n := n) (c := c) (s := s) (j - i) i
  rwa [show i + (j - i) = j from by omega] at this
theorem kf_v {n : Nat} {c s : Nat → Int32} : ∀ (k j : Nat), j < k → ¬ gBf n c 0 j = true → (dGo (gBf n) c s k).2.1 (dGo (gBf n) c s j).1 = c j ∧ (dGo (gBf n) c s k).2.2 (dGo (gBf n) c s j).1 = s j
  | 0, j, h, _ => absurd h (by omega)
  | k + 1, j, h, hj => by
    by_cases t : gBf n c 0 k = true
    · rw [dgt (k := k) (by rw [gf_o]; exact t)]
      exact kf_v k j (by by_cases e : j = k
                         · subst e; exact absurd t hj
                         · omega) hj
    · rw [dgf (k := k) (by rw [gf_o]; exact t)]
      simp only
      by_cases e : j = k
      · subst e; rw [pk_us, pk_us]; exact ⟨rfl, rfl⟩
      · have e1 := kf_s (n := n) (c := c) (s := s) j
        rw [if_neg hj] at e1
        have e2 := kf_l (n := n) (c := c) (s := s) (i := j + 1) (j := k) (by omega)
        rw [pk_un (by omega), pk_un (by omega)]; exact kf_v k j (by omega) hj
theorem kf_su {n : Nat} {c s : Nat → Int32} : ∀ (k i : Nat), i < (dGo (gBf n) c s k).1 → ∃ j, j < k ∧ ¬ gBf n c 0 j = true ∧ (dGo (gBf n) c s j).1 = i
  | 0, i, h => absurd h (by simp [dGo])
  | k + 1, i, h => by
    rw [kf_s] at h
    by_cases t : gBf n c 0 k = true
    · rw [if_pos t] at h
      obtain ⟨j, a, b⟩ := kf_su (n := n) (c := c) (s := s) k i (by omega)
      exact ⟨j, by omega, b⟩
    · rw [if_neg t] at h
      by_cases e : i = (dGo (gBf n) c s k).1
      · exact ⟨k, by omega, t, e.symm⟩
      · obtain ⟨j, a, b⟩ := kf_su (n := n) (c := c) (s := s) k i (by omega)
        exact ⟨j, by omega, b⟩
theorem cd_kf {n : Nat} {c s : Nat → Int32} (h : TX n c) : ∀ (i n2 : Nat) (c2 s2 : Nat → Int32), i ≤ n → n2 = i + ((dGo (gBf n) c s n).1 - (dGo (gBf n) c s i).1) → (∀ j, j < i → c2 j = c j ∧ s2 j = s j) → (∀ j, i ≤ j → j < n → ¬ gBf n c 0 j = true → c2 (i + ((dGo (gBf n) c s j).1 - (dGo (gBf n) c s i).1)) = c j ∧ s2 (i + ((dGo (gBf n) c s j).1 - (dGo (gBf n) c s i).1)) = s j) →
    (cdF i n2 c2 s2).1 = (dGo (gBf n) c s n).1 ∧ ∀ j, j < n → ¬ gBf n c 0 j = true → (cdF i n2 c2 s2).2.1 (dGo (gBf n) c s j).1 = c j ∧ (cdF i n2 c2 s2).2.2 (dGo (gBf n) c s j).1 = s j
  | 0, n2, c2, s2, _, e, _, h2 => by
    have z : (dGo (gBf n) c s 0).1 = 0 := rfl
    simp only [z, Nat.sub_zero, Nat.zero_add] at e h2
    exact ⟨e, fun j hj => h2 j (by omega) hj⟩
  | i + 1, n2, c2, s2, hi, e, h1, h2 => by
    have m1 := kf_s (n := n) (c := c) (s := s) i
    have ml := kf_l (n := n) (c := c) (s := s) (i := i + 1) (j := n) hi
    have cond : (c2 i = 32 ∧ (i + 1 = n2 ∨ c2 (i + 1) = 124)) ↔ gBf n c 0 i = true := by
      rw [(h1 i (by omega)).1]
      simp only [gBf, Bool.and_eq_true, Bool.or_eq_true, decide_eq_true_eq]
      by_cases c1 : c i = 32
      · by_cases c2' : i + 1 = n
        · have : n2 = i + 1 := by rw [e, ← c2']; omega
          simp [c1, c2', this]
        · have nb := h.2 i (by omega) (Or.inl c1)
          have ng : ¬ gBf n c 0 (i + 1) = true := by simp [gBf, nb]
          have w := h2 (i + 1) (by omega) (by omega) ng
          rw [Nat.sub_self, Nat.add_zero] at w
          have m2 := kf_s (n := n) (c := c) (s := s) (i + 1)
          rw [if_neg ng] at m2
          have m3 := kf_l (n := n) (c := c) (s := s) (i := i + 1 + 1) (j := n) (by omega)
          have : ¬ i + 1 = n2 := by omega
          simp [c1, c2', this, w.1]
      · simp [c1]
    simp only [cdF]
    by_cases t : gBf n c 0 i = true
    · rw [if_pos (cond.mpr t)]
      rw [if_pos t] at m1
      refine cd_kf h i (n2 - 1) _ _ (by omega) (by omega) (fun j hj => ?_) (fun j hj1 hj2 hj3 => ?_)
      · simp only [dsF]; rw [if_neg (by omega), if_neg (by omega)]; exact h1 j (by omega)
      · have q1 : i + 1 ≤ j := by
          by_cases e : i = j
          · subst e; exact absurd t hj3
          · omega
        have a1 := kf_s (n := n) (c := c) (s := s) j
        rw [if_neg hj3] at a1
        have a2 := kf_l (n := n) (c := c) (s := s) (i := j + 1) (j := n) (by omega)
        have a3 := kf_l (n := n) (c := c) (s := s) q1
        have w := h2 j q1 hj2 hj3
        simp only [dsF]
        rw [if_pos (by omega), if_pos (by omega)]
        rwa [show i + 1 + ((dGo (gBf n) c s j).1 - (dGo (gBf n) c s (i + 1)).1) = i + ((dGo (gBf n) c s j).1 - (dGo (gBf n) c s i).1) + 1 from by omega] at w
    · rw [if_neg (fun q => t (cond.mp q))]
      rw [if_neg t] at m1
      refine cd_kf h i n2 _ _ (by omega) (by omega) (fun j hj => h1 j (by omega)) (fun j hj1 hj2 hj3 => ?_)
      by_cases e : i = j
      · subst e; rw [Nat.sub_self, Nat.add_zero]; exact h1 i (by omega)
      · have a3 := kf_l (n := n) (c := c) (s := s) (i := i + 1) (j := j) (by omega)
        have w := h2 j (by omega) hj2 hj3
        rwa [show i + 1 + ((dGo (gBf n) c s j).1 - (dGo (gBf n) c s (i + 1)).1) = i + ((dGo (gBf n) c s j).1 - (dGo (gBf n) c s i).1) from by omega] at w
theorem dg_R (c s : Nat → Int32) : ∀ k j, j < (dGo gBr c s k).1 → (dGo gBr c s k).2.1 j = 124 → 0 < j ∧ ¬ (dGo gBr c s k).2.1 (j - 1) = 124
  | 0, j, hj => absurd hj (by simp [dGo])
  | k + 1, j, hj => by
    have ih := dg_R c s k
    by_cases t : gBr (dGo gBr c s k).2.1 (dGo gBr c s k).1 k = true
    · rw [dgt t] at hj ⊢; exact ih j hj
    · have hi := (dghi gBr c s k k (Nat.le_refl _)).1
      rw [dgf t] at hj ⊢
      simp only at hj ⊢
      simp only [gBr, hi, Bool.and_eq_true, Bool.or_eq_true, decide_eq_true_eq] at t
      by_cases e : j = (dGo gBr c s k).1
      · subst e; rw [pk_us]
        intro q
        have h0 : 0 < (dGo gBr c s k).1 := Nat.pos_of_ne_zero fun z => t ⟨q, Or.inl z⟩
        rw [pk_un (by omega)]
        exact ⟨h0, fun z => t ⟨q, Or.inr z⟩⟩
      · rw [pk_un e, pk_un (by omega)]; exact ih j (by omega)
theorem td_cn {P : Int32 → Int32 → Prop} {n : Nat} {c s c2 s2 : Nat → Int32} (h : ∀ i, i < n → c2 i = c i ∧ s2 i = s i) (hP : ∀ i, i < n → P (c i) (s i)) :
    cnN n c2 s2 = tdN c s n ∧ (∀ i, i < tdN c s n → (cnC n c2 s2).2.1 i = (tdC c s n).2.1 i ∧ (cnC n c2 s2).2.2 i = (tdC c s n).2.2 i) ∧ TX (tdN c s n) (tdC c s n).2.1 ∧ (∀ i, i < tdN c s n → P ((tdC c s n).2.1 i) ((tdC c s n).2.2 i)) ∧ tdN c s n ≤ n := by
  have a := dg_cl (g := gBb) (g' := k1B) (fun a b q k e1 e2 => by
    simp only [k1B, gBb]; rw [e1]
    by_cases q0 : q = 0
    · simp [q0]
    · rw [e2 (by omega)]) c s n 0 c2 s2 (fun j hj => absurd hj (by simp [dGo])) (fun j hj => by
      have e : (dGo gBb c s 0).1 = 0 := rfl
      rw [e, Nat.zero_add]; exact h j hj)
  rw [Nat.zero_add] at a
  have a' : (cnA n c2 s2).1 = (tdA c s n).1 ∧ ∀ j, j < (tdA c s n).1 → (cnA n c2 s2).2.1 j = (tdA c s n).2.1 j ∧ (cnA n c2 s2).2.2 j = (tdA c s n).2.2 j := by
    have e : (dGo gBb c s 0).1 = 0 := rfl
    rw [e, Nat.zero_add] at a; exact a
  have aT : TX (tdA c s n).1 (tdA c s n).2.1 := dg_A c s n
  have aP := dg_P (g := gBb) hP n (Nat.le_refl _)
  have aL : (tdA c s n).1 ≤ n := dgle gBb c s n
  have aP : ∀ i, i < (tdA c s n).1 → P ((tdA c s n).2.1 i) ((tdA c s n).2.2 i) := aP
  clear a
  have b := cd_kf (s := (tdA c s n).2.2) aT (tdA c s n).1 (cnA n c2 s2).1 (cnA n c2 s2).2.1 (cnA n c2 s2).2.2 (Nat.le_refl _) (by rw [a'.1]; omega) a'.2 (fun j h1 h2 => absurd h2 (by omega))
  have b0 : cnB n c2 s2 = cdF (tdA c s n).1 (cnA n c2 s2).1 (cnA n c2 s2).2.1 (cnA n c2 s2).2.2 := by unfold cnB; rw [a'.1]
  have b1 : (cnB n c2 s2).1 = (tdB c s n).1 := by rw [b0]; exact b.1
  have b2 : ∀ i, i < (tdB c s n).1 → (cnB n c2 s2).2.1 i = (tdB c s n).2.1 i ∧ (cnB n c2 s2).2.2 i = (tdB c s n).2.2 i := by
    intro i hi
    obtain ⟨j, j1, j2, j3⟩ := kf_su (n := (tdA c s n).1) (c := (tdA c s n).2.1) (s := (tdA c s n).2.2) _ i hi
    have q1 := b.2 j j1 j2
    have q2 := kf_v (n := (tdA c s n).1) (c := (tdA c s n).2.1) (s := (tdA c s n).2.2) (tdA c s n).1 j j1 j2
    rw [j3] at q1 q2
    rw [b0]
    exact ⟨q1.1.trans q2.1.symm, q1.2.trans q2.2.symm⟩
  have bT : TX (tdB c s n).1 (tdB c s n).2.1 := (dg_TX (s := (tdA c s n).2.2) aT (g := gBf (tdA c s n).1) (fun a q k hk ha hg => by
    simp only [gBf, Bool.and_eq_true, Bool.or_eq_true, decide_eq_true_eq] at hg
    rcases hg.2 with e | e
    · omega
    · rw [← ha (k + 1) (by omega), e]; decide) (tdA c s n).1 (Nat.le_refl _)).1
  have bP : ∀ i, i < (tdB c s n).1 → P ((tdB c s n).2.1 i) ((tdB c s n).2.2 i) := dg_P (g := gBf (tdA c s n).1) aP _ (Nat.le_refl _)
  have bL : (tdB c s n).1 ≤ (tdA c s n).1 := dgle _ _ _ _
  clear b
  have k := dg_cl (g := gBr) (g' := k3B) (fun a b q k e1 e2 => by
    simp only [k3B, gBr]; rw [e1]
    by_cases q0 : q = 0
    · simp [q0]
    · rw [e2 (by omega)]) (tdB c s n).2.1 (tdB c s n).2.2 (tdB c s n).1 0 (cnB n c2 s2).2.1 (cnB n c2 s2).2.2 (fun j hj => absurd hj (by simp [dGo])) (fun j hj => by
      have e : (dGo gBr (tdB c s n).2.1 (tdB c s n).2.2 0).1 = 0 := rfl
      rw [e, Nat.zero_add]; exact b2 j hj)
  rw [Nat.zero_add] at k
  have k' : (cnC n c2 s2).1 = (tdC c s n).1 ∧ ∀ j, j < (tdC c s n).1 → (cnC n c2 s2).2.1 j = (tdC c s n).2.1 j ∧ (cnC n c2 s2).2.2 j = (tdC c s n).2.2 j := by
    have e : (dGo gBr (tdB c s n).2.1 (tdB c s n).2.2 0).1 = 0 := rfl
    rw [e, Nat.zero_add] at k
    unfold cnC; rw [b1]; exact k
  have kT : TX (tdC c s n).1 (tdC c s n).2.1 := (dg_TX (s := (tdB c s n).2.2) bT (g := gBr) (fun a q k hk ha hg => by
    simp only [gBr, Bool.and_eq_true, Bool.or_eq_true, decide_eq_true_eq] at hg
    exact bT.2 k hk (Or.inr (by rw [← ha k (Nat.le_refl _)]; exact hg.1))) (tdB c s n).1 (Nat.le_refl _)).1
  have kP : ∀ i, i < (tdC c s n).1 → P ((tdC c s n).2.1 i) ((tdC c s n).2.2 i) := dg_P (g := gBr) bP _ (Nat.le_refl _)
  have kR : ∀ j, j < (tdC c s n).1 → (tdC c s n).2.1 j = 124 → 0 < j ∧ ¬ (tdC c s n).2.1 (j - 1) = 124 := dg_R _ _ _
  have kL : (tdC c s n).1 ≤ (tdB c s n).1 := dgle _ _ _ _
  have kN : tdN c s n ≤ (tdC c s n).1 := by unfold tdN; split <;> first | omega | (split <;> omega)
  refine ⟨?_, fun i hi => k'.2 i (by omega), kT.le kN, fun i hi => kP i (by omega), by omega⟩
  unfold cnN tdN
  rw [k'.1]
  have kq := k'.2
  revert kR kq
  generalize (tdC c s n).2.1 = x
  generalize (cnC n c2 s2).2.1 = y
  generalize (tdC c s n).1 = z
  intro kR kq
  match z with
  | 0 => simp [ctF]
  | 1 =>
    have e := (kq 0 (by omega)).1
    have : ¬ x 0 = 124 := fun q => absurd (kR 0 (by omega) q).1 (by omega)
    simp [ctF, e, this]
  | z + 2 =>
    have e1 := (kq (z + 1) (by omega)).1
    have e0 := (kq z (by omega)).1
    simp only [ctF, e1, e0]
    rw [if_neg (show ¬ z + 2 ≤ 0 from by omega), show z + 2 - 1 = z + 1 from by omega]
    by_cases q : x (z + 1) = 124
    · have w := (kR (z + 1) (by omega) q).2
      rw [show z + 1 - 1 = z from by omega] at w
      rw [if_pos q, if_pos q, if_neg w]
    · rw [if_neg q, if_neg q]
