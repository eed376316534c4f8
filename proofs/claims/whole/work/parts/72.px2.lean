theorem n40 : ¬ (-4 : Int32) = 0 := by decide
theorem n30 : ¬ (-3 : Int32) = 0 := by decide
theorem exL_ag {bd bd' : Nat → Int32} {an gn : Nat} : ∀ k, (∀ i, i < k → bd' i = bd i) → (∀ i, i < k → bd i = 35 → an = gn) → exL bd an k = exL bd' gn k
  | 0, _, _ => rfl
  | k + 1, h1, h2 => by
    have ih := exL_ag k (fun i hi => h1 i (by omega)) (fun i hi => h2 i (by omega))
    show exL bd an k + _ = exL bd' gn k + _
    rw [ih, h1 k (by omega)]
    by_cases c : bd k = 35
    · rw [h2 k (by omega) c]
    · rw [if_neg c, if_neg c]
theorem cntI_ag {bd bd' : Nat → Int32} {x : Int32} : ∀ k, (∀ i, i < k → bd' i = bd i) → cntI bd x k = cntI bd' x k
  | 0, _ => rfl
  | k + 1, h1 => by
    show cntI bd x k + _ = cntI bd' x k + _
    rw [cntI_ag k (fun i hi => h1 i (by omega)), h1 k (by omega)]
theorem cntI_z {bd : Nat → Int32} {x : Int32} : ∀ k, cntI bd x k ≤ 0 → ∀ i, i < k → ¬ bd i = x
  | 0, _, i, hi => absurd hi (by omega)
  | k + 1, h, i, hi => by
    have h' : cntI bd x k + (if bd k = x then 1 else 0) ≤ 0 := h
    by_cases e : i = k
    · subst e; intro q; rw [if_pos q] at h'; omega
    · exact cntI_z k (by omega) i (by omega)
theorem pi_rel {bd bd' ar g l l' : Nat → Int32} {an gn f : Nat} : ∀ k, (∀ i, i < k → bd' i = bd i ∧ cLin (bd i) = true) → (∀ i, i < k → bd i = 35 → an = gn ∧ AR an ar g) →
    (∀ i, i < exL bd an k → (piF bd' gn g 0 l' k).2 i = (piF bd an ar f l k).2 (f + i) ∧ cLin ((piF bd' gn g 0 l' k).2 i) = true) ∧ ∀ j, f + exL bd an k ≤ j → (piF bd an ar f l k).2 j = l j
  | 0, _, _ => ⟨fun i hi => absurd hi (by simp [exL]), fun j _ => rfl⟩
  | k + 1, h1, h2 => by
    have ih := pi_rel (l := l) (l' := l') (f := f) k (fun i hi => h1 i (by omega)) (fun i hi => h2 i (by omega))
    have e := exL_ag (bd := bd) (bd' := bd') (an := an) (gn := gn) k (fun i hi => (h1 i (by omega)).1) (fun i hi q => (h2 i (by omega) q).1)
    have p1 := piF_1 bd an ar f l k
    have p2 := piF_1 bd' gn g 0 l' k
    have u := h1 k (by omega)
    have x1 : exL bd an (k + 1) = exL bd an k + (if bd k = 35 then an else 1) := rfl
    by_cases c : bd k = 35
    · obtain ⟨ea, hA⟩ := h2 k (by omega) c
      have y1 : (piF bd an ar f l (k + 1)).2 = wrB (piF bd an ar f l k).2 (f + exL bd an k) ar an := by
        show (if bd k = 35 then _ else _ : Nat × (Nat → Int32)).2 = _
        rw [if_pos c, p1]
      have y2 : (piF bd' gn g 0 l' (k + 1)).2 = wrB (piF bd' gn g 0 l' k).2 (exL bd an k) g an := by
        show (if bd' k = 35 then _ else _ : Nat × (Nat → Int32)).2 = _
        rw [if_pos (u.1.trans c), p2, ← e, ← ea, Nat.zero_add]
      rw [x1, if_pos c, y1, y2]
      refine ⟨fun i hi => ?_, fun j hj => ?_⟩
      · by_cases q : i < exL bd an k
        · simp only [wrB]
          rw [if_neg (by omega), if_neg (by omega)]
          exact ih.1 i q
        · simp only [wrB]
          rw [if_pos (by omega), if_pos (by omega), show f + i - (f + exL bd an k) = i - exL bd an k from by omega]
          exact hA _ (by omega)
      · simp only [wrB]
        rw [if_neg (by omega)]; exact ih.2 j (by omega)
    · have y1 : (piF bd an ar f l (k + 1)).2 = upd (piF bd an ar f l k).2 (f + exL bd an k) (bd k) := by
        show (if bd k = 35 then _ else _ : Nat × (Nat → Int32)).2 = _
        rw [if_neg c, p1]
      have y2 : (piF bd' gn g 0 l' (k + 1)).2 = upd (piF bd' gn g 0 l' k).2 (exL bd an k) (bd k) := by
        show (if bd' k = 35 then _ else _ : Nat × (Nat → Int32)).2 = _
        rw [if_neg (by rw [u.1]; exact c), p2, ← e, Nat.zero_add, u.1]
      rw [x1, if_neg c, y1, y2]
      refine ⟨fun i hi => ?_, fun j hj => ?_⟩
      · by_cases q : i = exL bd an k
        · subst q; rw [pk_us, pk_us]; exact ⟨rfl, u.2⟩
        · rw [pk_un q, pk_un (by omega)]; exact ih.1 i (by omega)
      · rw [pk_un (by omega)]; exact ih.2 j (by omega)
theorem cm_mc2 {bd bd' l m ar g rr : Nat → Int32} {bn f n cl an gn : Nat} (h : LR f l n m) (h1 : ∀ i, i < bn → bd' i = bd i ∧ cLin (bd i) = true) (h2 : ∀ i, i < bn → bd i = 35 → an = gn ∧ AR an ar g) :
    (cm2 bd bn f cl l an ar).1 = (mc2 bd' bn n cl m gn g rr).1 ∧ ((cm2 bd bn f cl l an ar).1 = 0 → LR (cm2 bd bn f cl l an ar).2.1 (cm2 bd bn f cl l an ar).2.2.2.1 (mc2 bd' bn n cl m gn g rr).2.1 (mc2 bd' bn n cl m gn g rr).2.2.2.1 ∧ (cm2 bd bn f cl l an ar).2.2.1 = cl ∧ (mc2 bd' bn n cl m gn g rr).2.2.1 = cl) := by
  have e := exL_ag (bd := bd) (bd' := bd') (an := an) (gn := gn) bn (fun i hi => (h1 i (by omega)).1) (fun i hi q => (h2 i (by omega) q).1)
  have hf := h.1
  unfold cm2 mc2
  rw [← e]
  by_cases c : f < exL bd an bn
  · rw [if_pos c, if_neg (by omega)]; exact ⟨rfl, fun q => absurd q n40⟩
  · rw [if_neg c, if_pos (by omega)]
    refine ⟨rfl, fun _ => ⟨?_, rfl, rfl⟩⟩
    have q := pi_rel (bd := bd) (bd' := bd') (ar := ar) (g := g) (l := l) (l' := m) (f := f - exL bd an bn) bn h1 h2
    show LR (f - exL bd an bn) _ (n + (piF bd' gn g 0 m bn).1) (wrB (piF bd' gn g 0 m bn).2 (piF bd' gn g 0 m bn).1 (cpI m n rr) n)
    rw [piF_1, ← e, Nat.zero_add]
    refine ⟨by omega, fun i hi => ?_, fun i hi => ?_⟩
    · by_cases w : i < exL bd an bn
      · simp only [wrB]; rw [if_neg (by omega)]; exact (q.1 i w).1
      · simp only [wrB, cpI]; rw [if_pos (by omega), if_pos (by omega), q.2 _ (by omega), h.2.1 _ (by omega)]
        congr 1; omega
    · by_cases w : i < exL bd an bn
      · simp only [wrB]; rw [if_neg (by omega)]; exact (q.1 i w).2
      · simp only [wrB, cpI]; rw [if_pos (by omega), if_pos (by omega)]; exact h.2.2 _ (by omega)
theorem cm_mc {bd bd' l m ar g rr : Nat → Int32} {bn f n cl an gn : Nat} (h : LR f l n m) (h1 : ∀ i, i < bn → bd' i = bd i ∧ cLin (bd i) = true) :
    (cmF true bd bn f cl l an ar).1 = (mcF bd' bn n cl m gn g rr).1 ∧ ((cmF true bd bn f cl l an ar).1 = 0 → LR (cmF true bd bn f cl l an ar).2.1 (cmF true bd bn f cl l an ar).2.2.2.1 (mcF bd' bn n cl m gn g rr).2.1 (mcF bd' bn n cl m gn g rr).2.2.2.1 ∧ (cmF true bd bn f cl l an ar).2.2.1 = cl + 1 ∧ (mcF bd' bn n cl m gn g rr).2.2.1 = cl + 1 ∧ ¬ cl = 40) := by
  unfold cmF mcF
  rw [if_neg (by decide), ← cntI_ag (bd := bd) (bd' := bd') bn (fun i hi => (h1 i hi).1)]
  by_cases c1 : cl = 40
  · rw [if_pos c1, if_pos c1]; exact ⟨rfl, fun q => absurd q n40⟩
  · rw [if_neg c1, if_neg c1]
    by_cases c2 : cntI bd 35 bn ≤ 0
    · rw [if_pos c2, if_pos c2]
      have q := cm_mc2 (bd := bd) (bd' := bd') (ar := ar) (g := g) (rr := rr) (cl := cl + 1) (an := an) (gn := gn) h h1 (fun i hi e => absurd e (cntI_z bn c2 i hi))
      exact ⟨q.1, fun z => ⟨(q.2 z).1, (q.2 z).2.1, (q.2 z).2.2, c1⟩⟩
    · rw [if_neg c2, if_neg c2]
      have t := ta_ma (ar := ar) (g := g) h
      by_cases c3 : (taF f l ar).1 = true
      · rw [if_pos c3, if_pos (t.1 ▸ c3)]
        obtain ⟨t1, t2, t3⟩ := t.2 c3
        have q := cm_mc2 (bd := bd) (bd' := bd') (ar := (taF f l ar).2.2.2) (g := (maF n m g).2.2.2.2) (rr := rr) (cl := cl + 1) (an := (taF f l ar).2.2.1) (gn := (maF n m g).2.2.2.1) t1 h1 (fun i hi e => ⟨t2, t3⟩)
        exact ⟨q.1, fun z => ⟨(q.2 z).1, (q.2 z).2.1, (q.2 z).2.2, c1⟩⟩
      · rw [if_neg c3, if_neg (by rw [← t.1]; exact c3)]; exact ⟨rfl, fun q => absurd q n30⟩
