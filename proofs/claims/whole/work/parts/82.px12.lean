/-! patterns -/
theorem dig_sp {x : Int32} (h : cDig x = true) : sp9 (x - 48) := by
  simp only [cDig, Bool.and_eq_true, decide_eq_true_eq] at h
  obtain ⟨j, hj, rfl⟩ := nI_of (x := x) (by rw [Int32.not_lt]; exact Int32.le_trans (by decide) h.1)
  have h1 := (nI_leI (a := 48) (by decide) hj).mp h.1
  have h2 := (nI_leI (b := 57) hj (by decide)).mp h.2
  have : j = 48 ∨ j = 49 ∨ j = 50 ∨ j = 51 ∨ j = 52 ∨ j = 53 ∨ j = 54 ∨ j = 55 ∨ j = 56 ∨ j = 57 := by omega
  rcases this with rfl | rfl | rfl | rfl | rfl | rfl | rfl | rfl | rfl | rfl <;> exact ⟨by decide, by decide⟩
def SgR (np n : Nat) (sg lv sg' lv' : Nat → Int32) : Prop := (∀ i, i < n → sg' (np * 5 + i) = sg i) ∧ (∀ i, i ≤ n → lv' (np * 6 + i) = lv i ∧ sp9 (lv i)) ∧ ∀ i, n < i → i ≤ 5 → lv' (np * 6 + i) = 0
theorem edF_iff (sg : Nat → Int32) : ∀ r k, edF sg r k = true ↔ ∀ i, k ≤ i → i < k + r → ¬ sg i = 46
  | 0, k => by simp [edF]; intro i a b; omega
  | r + 1, k => by
    simp only [edF]
    by_cases h : sg k = 46
    · rw [if_pos h]; exact ⟨fun q => absurd q (by decide), fun q => absurd h (q k (Nat.le_refl _) (by omega))⟩
    · rw [if_neg h, edF_iff sg r (k + 1)]
      constructor
      · intro q t a b
        by_cases e : t = k
        · subst e; exact h
        · exact q t (by omega) (by omega)
      · exact fun q t a b => q t (by omega) (by omega)
theorem p1_ge (g : Nat → Int32) {r k q N : Nat} (h : p1F g r k q = some N) : q ≤ N := by have := p1F_nz g r k q N h; omega
theorem rd_p {g : Nat → Int32} {np : Nat} : ∀ (r k n : Nat) (sg lv sg' lv' : Nat → Int32) (b : Bool), (b = true ↔ 0 < k ∧ cDig (g (k - 1)) = true) → n ≤ 5 → SgR np n sg lv sg' lv' →
    (p1F g r k n = none → (rdF g r k n sg lv b).1 = false) ∧ ∀ N, p1F g r k n = some N → (5 < N → (rdF g r k n sg lv b).1 = false) ∧ (N ≤ 5 → (rdF g r k n sg lv b).2.1 = N ∧ (rdF g r k n sg lv b).1 = (decide (0 < N) && edF (rdF g r k n sg lv b).2.2.1 (N - 2) 1) ∧ SgR np N (rdF g r k n sg lv b).2.2.1 (rdF g r k n sg lv b).2.2.2 (p4F g np r k n lv' sg').2 (p4F g np r k n lv' sg').1 ∧ (∀ i, i < n → (rdF g r k n sg lv b).2.2.1 i = sg i) ∧ (p2F g N r k n = true ↔ ∀ i, n ≤ i → i < N → ¬ ((rdF g r k n sg lv b).2.2.1 i = 46 ∧ 0 < i ∧ i + 1 < N)))
  | 0, k, n, sg, lv, sg', lv', b, hb, hn, h => by
    refine ⟨fun q => absurd q (by simp [p1F]), fun N hN => ?_⟩
    have e : n = N := by simpa [p1F] using hN
    subst e
    refine ⟨fun q => by omega, fun _ => ⟨rfl, rfl, h, fun i _ => rfl, ?_⟩⟩
    simp only [p2F]
    exact ⟨fun _ i a b => by omega, fun _ => trivial⟩
  | r + 1, k, n, sg, lv, sg', lv', b, hb, hn, h => by
    by_cases c : cDig (g k) = true
    · have e4 : p4F g np (r + 1) k n lv' sg' = p4F g np r (k + 1) n (upd lv' (np * 6 + n) (g k - 48)) sg' := by simp only [p4F]; rw [if_pos c]
      have e2 : ∀ N, p2F g N (r + 1) k n = p2F g N r (k + 1) n := fun N => by simp only [p2F]; rw [if_pos c]
      by_cases b1 : b = true
      · have p1 : p1F g (r + 1) k n = none := by simp only [p1F]; rw [if_pos c, if_pos (hb.mp b1)]
        have rd : rdF g (r + 1) k n sg lv b = (false, n, sg, lv) := by simp only [rdF]; rw [if_pos c, if_pos b1]
        rw [p1, rd]
        exact ⟨fun _ => rfl, fun N q => absurd q (by simp)⟩
      · have p1 : p1F g (r + 1) k n = p1F g r (k + 1) n := by simp only [p1F]; rw [if_pos c, if_neg (fun q => b1 (hb.mpr q))]
        have rd : rdF g (r + 1) k n sg lv b = rdF g r (k + 1) n sg (upd lv n (g k - 48)) true := by simp only [rdF]; rw [if_pos c, if_neg b1]
        have ih := rd_p (g := g) (np := np) r (k + 1) n sg (upd lv n (g k - 48)) sg' (upd lv' (np * 6 + n) (g k - 48)) true ⟨fun _ => ⟨by omega, by rw [Nat.add_sub_cancel]; exact c⟩, fun _ => rfl⟩ hn ⟨h.1, fun i hi => by
          by_cases e : i = n
          · subst e; rw [pk_us, pk_us]; exact ⟨rfl, dig_sp c⟩
          · rw [pk_un e, pk_un (by omega)]; exact h.2.1 i hi, fun i a b => by rw [pk_un (by omega)]; exact h.2.2 i a b⟩
        rw [p1, rd, e4]
        refine ⟨ih.1, fun N hN => ?_⟩
        rw [e2]
        exact ih.2 N hN
    · by_cases d : cLet (g k) = true ∨ g k = 46
      · have e4 : p4F g np (r + 1) k n lv' sg' = p4F g np r (k + 1) (n + 1) lv' (upd sg' (np * 5 + n) (g k)) := by simp only [p4F]; rw [if_neg c]
        have p1 : p1F g (r + 1) k n = p1F g r (k + 1) (n + 1) := by simp only [p1F]; rw [if_neg c, if_pos d]
        have dd : (cLet (g k) || decide (g k = 46)) = true := by simpa using d
        by_cases n5 : n = 5
        · have rd : rdF g (r + 1) k n sg lv b = (false, n, sg, lv) := by simp only [rdF]; rw [if_neg c, if_pos (Or.inl n5)]
          rw [rd, p1]
          refine ⟨fun _ => rfl, fun N hN => ?_⟩
          have := p1_ge g hN
          exact ⟨fun _ => rfl, fun q => by omega⟩
        · have rd : rdF g (r + 1) k n sg lv b = rdF g r (k + 1) (n + 1) (upd sg n (g k)) (upd lv (n + 1) 0) false := by
            simp only [rdF]; rw [if_neg c, if_neg (by rw [dd]; simp [n5])]
          have ih := rd_p (g := g) (np := np) r (k + 1) (n + 1) (upd sg n (g k)) (upd lv (n + 1) 0) (upd sg' (np * 5 + n) (g k)) lv' false ⟨fun q => absurd q (by decide), fun q => absurd q.2 (by rw [Nat.add_sub_cancel]; exact c)⟩ (by omega) ⟨fun i hi => by
            by_cases e : i = n
            · subst e; rw [pk_us, pk_us]
            · rw [pk_un e, pk_un (by omega)]; exact h.1 i (by omega), fun i hi => by
            by_cases e : i = n + 1
            · subst e; rw [pk_us]; exact ⟨h.2.2 (n + 1) (by omega) (by omega), ⟨by decide, by decide⟩⟩
            · rw [pk_un e]; exact h.2.1 i (by omega), fun i a b => h.2.2 i (by omega) b⟩
          rw [p1, rd, e4]
          refine ⟨ih.1, fun N hN => ⟨(ih.2 N hN).1, fun h5 => ?_⟩⟩
          obtain ⟨i1, i2, i3, i4, i5⟩ := (ih.2 N hN).2 h5
          have nN := p1_ge g hN
          have sn := i4 n (by omega)
          rw [pk_us] at sn
          refine ⟨i1, i2, i3, fun i hi => by rw [i4 i (by omega), pk_un (by omega)], ?_⟩
          simp only [p2F]
          rw [if_neg c]
          by_cases w : g k = 46 ∧ 0 < n ∧ n + 1 < N
          · rw [if_pos w]
            refine ⟨fun q => absurd q (by decide), fun q => absurd ⟨by rw [sn]; exact w.1, w.2⟩ (q n (Nat.le_refl _) (by omega))⟩
          · rw [if_neg w, i5]
            constructor
            · intro q i a b
              by_cases e : i = n
              · subst e; rw [sn]; exact w
              · exact q i (by omega) b
            · exact fun q i a b => q i (by omega) b
      · have p1 : p1F g (r + 1) k n = none := by simp only [p1F]; rw [if_neg c, if_neg d]
        have dd : (cLet (g k) || decide (g k = 46)) = false := by
          rw [not_or] at d; simp [d.2, Bool.eq_false_iff.mpr d.1]
        have rd : rdF g (r + 1) k n sg lv b = (false, n, sg, lv) := by simp only [rdF]; rw [if_neg c, if_pos (Or.inr dd)]
        rw [p1, rd]
        exact ⟨fun _ => rfl, fun N q => absurd q (by simp)⟩
theorem rd_pat {g sg0 lv0 sg' lv' : Nat → Int32} {np m : Nat} :
    (patF g m = none → (rdF g m 0 0 sg0 (upd lv0 0 0) false).1 = false) ∧ ∀ n, patF g m = some n → (rdF g m 0 0 sg0 (upd lv0 0 0) false).1 = true ∧ (rdF g m 0 0 sg0 (upd lv0 0 0) false).2.1 = n ∧ 1 ≤ n ∧ n ≤ 5 ∧ SgR np n (rdF g m 0 0 sg0 (upd lv0 0 0) false).2.2.1 (rdF g m 0 0 sg0 (upd lv0 0 0) false).2.2.2 (p4F g np m 0 0 (cpO (fun _ => 0) (np * 6) 6 lv') sg').2 (p4F g np m 0 0 (cpO (fun _ => 0) (np * 6) 6 lv') sg').1 := by
  have z : ∀ i, i ≤ 5 → cpO (fun _ => 0) (np * 6) 6 lv' (np * 6 + i) = 0 := fun i hi => if_pos (by omega)
  have h := rd_p (g := g) (np := np) m 0 0 sg0 (upd lv0 0 0) sg' (cpO (fun _ => 0) (np * 6) 6 lv') false ⟨fun q => absurd q (by decide), fun q => absurd q.1 (by omega)⟩ (by omega) ⟨fun i hi => absurd hi (by omega), fun i hi => by
    have : i = 0 := by omega
    subst this
    rw [pk_us]; exact ⟨z 0 (by omega), by decide, by decide⟩, fun i a b => z i b⟩
  have key : ∀ N, p1F g m 0 0 = some N → N ≤ 5 → ((rdF g m 0 0 sg0 (upd lv0 0 0) false).1 = true ↔ 1 ≤ N ∧ p2F g N m 0 0 = true) := by
    intro N hN h5
    obtain ⟨i1, i2, i3, i4, i5⟩ := (h.2 N hN).2 h5
    rw [i2, i5, Bool.and_eq_true, decide_eq_true_eq, edF_iff]
    constructor
    · rintro ⟨a, b⟩
      refine ⟨a, fun i _ u w => b i w.2.1 (by omega) w.1⟩
    · rintro ⟨a, b⟩
      refine ⟨a, fun i u v w => b i (by omega) (by omega) ⟨w, by omega, by omega⟩⟩
  unfold patF
  cases q : p1F g m 0 0 with
  | none => exact ⟨fun _ => h.1 q, fun n w => absurd w (by simp)⟩
  | some N =>
    simp only
    by_cases w : 1 ≤ N ∧ N ≤ 5 ∧ p2F g N m 0 0 = true
    · rw [if_pos w]
      refine ⟨fun u => absurd u (by simp), fun n u => ?_⟩
      have e : N = n := by simpa using u
      subst e
      obtain ⟨i1, i2, i3, i4, i5⟩ := (h.2 N q).2 w.2.1
      exact ⟨(key N q w.2.1).mpr ⟨w.1, w.2.2⟩, i1, w.1, w.2.1, i3⟩
    · rw [if_neg w]
      refine ⟨fun _ => ?_, fun n u => absurd u (by simp)⟩
      by_cases h5 : N ≤ 5
      · cases v : (rdF g m 0 0 sg0 (upd lv0 0 0) false).1 with
        | false => rfl
        | true => have := (key N q h5).mp v; exact absurd ⟨this.1, h5, this.2⟩ w
      · exact (h.2 N q).1 (by omega)
/-- the model's other patterns are left as they were -/
theorem p4_o {g : Nat → Int32} {np : Nat} : ∀ (r k x : Nat) (lv sg : Nat → Int32), x + nzF g r k ≤ 5 → (∀ q, q < np * 6 → (p4F g np r k x lv sg).1 q = lv q) ∧ (∀ q, q < np * 5 → (p4F g np r k x lv sg).2 q = sg q)
  | 0, k, x, lv, sg, _ => ⟨fun _ _ => rfl, fun _ _ => rfl⟩
  | r + 1, k, x, lv, sg, h => by
    simp only [nzF] at h
    simp only [p4F]
    by_cases c : cDig (g k) = true
    · rw [if_pos c] at h
      rw [if_pos c]
      have ih := p4_o (g := g) (np := np) r (k + 1) x (upd lv (np * 6 + x) (g k - 48)) sg (by omega)
      exact ⟨fun q hq => by rw [ih.1 q hq, pk_un (by omega)], ih.2⟩
    · rw [if_neg c] at h
      rw [if_neg c]
      have ih := p4_o (g := g) (np := np) r (k + 1) (x + 1) lv (upd sg (np * 5 + x) (g k)) (by omega)
      exact ⟨ih.1, fun q hq => by rw [ih.2 q hq, pk_un (by omega)]⟩
theorem pat_nz {g : Nat → Int32} {m n : Nat} (h : patF g m = some n) : 0 + nzF g m 0 ≤ 5 := by
  unfold patF at h
  cases q : p1F g m 0 0 with
  | none => rw [q] at h; simp at h
  | some N =>
    rw [q] at h
    simp only at h
    by_cases w : 1 ≤ N ∧ N ≤ 5 ∧ p2F g N m 0 0 = true
    · have := p1F_nz g m 0 0 N q; omega
    · rw [if_neg w] at h; simp at h
