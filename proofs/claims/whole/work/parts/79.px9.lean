/-! the choice of lines -/
theorem lg_cmp_0 (x y : Int64) : lg_cmp x y = 0 ↔ x = y := by
  unfold lg_cmp
  by_cases h : x > y
  · rw [if_pos h]
    refine ⟨fun q => absurd q (by decide), fun q => ?_⟩
    rw [q] at h; exact absurd h (Int64.lt_irrefl)
  · rw [if_neg h]
    by_cases h2 : x = y
    · rw [if_pos h2]; exact ⟨fun _ => h2, fun _ => rfl⟩
    · rw [if_neg h2]; exact ⟨fun q => absurd q (by decide), fun q => absurd q h2⟩
def Chn (Q : Nat → Nat → Prop) (n : Nat) (x x' : Nat → Int32) : Nat → Nat → Prop
  | 0, j => j = n
  | m + 1, j => ∃ t, j < t ∧ t ≤ n ∧ x j = nI t ∧ x' j = nI t ∧ Q j t ∧ Chn Q n x x' m t
theorem Chn.cg {Q : Nat → Nat → Prop} {n : Nat} {x x' y y' : Nat → Int32} : ∀ m j, (∀ t, j ≤ t → y t = x t ∧ y' t = x' t) → Chn Q n x x' m j → Chn Q n y y' m j
  | 0, _, _, h => h
  | m + 1, j, e, h => by
    obtain ⟨t, a, b, c, d, k, f⟩ := h
    exact ⟨t, a, b, by rw [(e j (Nat.le_refl _)).1]; exact c, by rw [(e j (Nat.le_refl _)).2]; exact d, k, Chn.cg m t (fun q hq => e q (by omega)) f⟩
theorem Chn.le {Q : Nat → Nat → Prop} {n : Nat} {x x' : Nat → Int32} : ∀ m j, Chn Q n x x' m j → m + j ≤ n
  | 0, j, h => by have : j = n := h; omega
  | m + 1, j, h => by
    obtain ⟨t, a, b, c, d, k, f⟩ := h
    have := Chn.le m t f; omega
theorem Chn.pa {Q : Nat → Nat → Prop} {n : Nat} {x x' : Nat → Int32} : ∀ m j, Chn Q n x x' m j → ∃ P : Nat → Nat, P 0 = j ∧ P m = n ∧ ∀ i, i < m → x (P i) = nI (P (i + 1)) ∧ x' (P i) = nI (P (i + 1)) ∧ P i < P (i + 1) ∧ P (i + 1) ≤ n ∧ Q (P i) (P (i + 1))
  | 0, j, h => ⟨fun _ => j, rfl, h, fun i hi => absurd hi (by omega)⟩
  | m + 1, j, h => by
    obtain ⟨t, a, b, c, d, k, f⟩ := h
    obtain ⟨P, p0, pm, pi⟩ := Chn.pa m t f
    refine ⟨fun i => if i = 0 then j else P (i - 1), rfl, ?_, fun i hi => ?_⟩
    · show (if m + 1 = 0 then j else P (m + 1 - 1)) = n
      rw [if_neg (by omega), Nat.add_sub_cancel]; exact pm
    · simp only
      rw [if_neg (show ¬ i + 1 = 0 by omega), Nat.add_sub_cancel]
      by_cases e : i = 0
      · subst e; rw [if_pos rfl, p0]; exact ⟨c, d, a, b, k⟩
      · rw [if_neg e]
        have := pi (i - 1) (by omega)
        rwa [show i - 1 + 1 = i from by omega] at this
def Rc (Q : Nat → Nat → Prop) (n j : Nat) (C C' : cS) : Prop := (¬ j = n ∧ C.2.2 j = 0 ∧ C'.1 j = -1) ∨ ∃ x m : Nat, x ≤ 200000000 * (n - j) ∧ C.1 j = lN x ∧ C'.1 j = lN x ∧ C.2.1 j = nI m ∧ C'.2.1 j = nI m ∧ Chn Q n C.2.2 C'.2.2 m j
theorem Rc.cg {Q : Nat → Nat → Prop} {n j : Nat} {C C' D D' : cS} (h : Rc Q n j C C') (e : ∀ t, j ≤ t → D.1 t = C.1 t ∧ D.2.1 t = C.2.1 t ∧ D.2.2 t = C.2.2 t ∧ D'.1 t = C'.1 t ∧ D'.2.1 t = C'.2.1 t ∧ D'.2.2 t = C'.2.2 t) : Rc Q n j D D' := by
  obtain ⟨e1, e2, e3, e4, e5, e6⟩ := e j (Nat.le_refl _)
  rcases h with ⟨a, b, c⟩ | ⟨x, m, a, b, c, d, f, g⟩
  · exact Or.inl ⟨a, by rw [e3]; exact b, by rw [e4]; exact c⟩
  · exact Or.inr ⟨x, m, a, by rw [e1]; exact b, by rw [e4]; exact c, by rw [e2]; exact d, by rw [e5]; exact f, g.cg m j (fun t ht => ⟨(e t ht).2.2.1, (e t ht).2.2.2.2.2⟩)⟩
def Pair (bd pr : Int64) (me : mV → Bool × mV) (pr' : Int32 → Int64) : Prop := ((∀ V, (me V).1 = false) ∧ bd = -1) ∨ ∃ b p : Nat, p ≤ 200000000 ∧ (∀ V, (me V).1 = true ∧ (me V).2.2.2.2.2 = nI b) ∧ ¬ bd = -1 ∧ pr = lN p ∧ pr' (nI b) = lN p
def Rall (Q : Nat → Nat → Prop) (n i : Nat) (C C' : cS) : Prop := ∀ j, i ≤ j → j ≤ n → Rc Q n j C C'
theorem upL_s {f : Nat → Int64} {k : Nat} {x : Int64} : vp_updL f k x k = x := if_pos rfl
theorem upL_n {f : Nat → Int64} {k j : Nat} {x : Int64} (h : j ≠ k) : vp_updL f k x j = f j := if_neg h
theorem kb_sb {Q : Nat → Nat → Prop} {n i j : Nat} {C C' : cS} {p : Nat} (hn : n ≤ 24) (hi : i < j) (hj : j ≤ n) (hp : p ≤ 200000000) (h : Rall Q n i C C') {x m : Nat} (hx : x ≤ 200000000 * (n - j)) (h1 : C.1 j = lN x) (h2 : C'.1 j = lN x) (h3 : C.2.1 j = nI m) (h4 : C'.2.1 j = nI m) (hc : Chn Q n C.2.2 C'.2.2 m j) (hQ : Q i j) :
    Rall Q n i (kB i j (lN p) C) (sbF i j (lN p + C'.1 j) C') := by
  have bx : x + p ≤ 200000000 * (n - i) := by
    have : 200000000 * (n - j) + 200000000 ≤ 200000000 * (n - i) := by
      rw [← Nat.mul_succ]; exact Nat.mul_le_mul_left _ (by omega)
    omega
  have up : Rall Q n i (vp_updL C.1 i (C.1 j + lN p), upd C.2.1 i (C.2.1 j + 1), upd C.2.2 i (nI j)) (vp_updL C'.1 i (lN p + C'.1 j), upd C'.2.1 i (C'.2.1 j + 1), upd C'.2.2 i (nI j)) := by
    intro t t1 t2
    by_cases e : t = i
    · subst e
      right
      refine ⟨x + p, m + 1, bx, ?_, ?_, ?_, ?_, ?_⟩
      · show vp_updL _ _ _ t = _; rw [upL_s, h1, lN_add]
      · show vp_updL _ _ _ t = _; rw [upL_s, h2, lN_add, Nat.add_comm]
      · show upd _ _ _ t = _; rw [pk_us, h3, nI_1]
      · show upd _ _ _ t = _; rw [pk_us, h4, nI_1]
      · exact ⟨j, hi, hj, pk_us, pk_us, hQ, hc.cg m j (fun q hq => ⟨pk_un (by omega), pk_un (by omega)⟩)⟩
    · exact (h t t1 t2).cg (fun q hq => ⟨upL_n (by omega), pk_un (by omega), pk_un (by omega), upL_n (by omega), pk_un (by omega), pk_un (by omega)⟩)
  unfold kB sbF
  have dec : btI C i j (lN p) = btM C' i j (lN p + C'.1 j) := by
    rcases h i (Nat.le_refl _) (by omega) with ⟨a, b, c⟩ | ⟨xi, mi, a, b, c, d, f, g⟩
    · unfold btI btM
      rw [b, c]
      rw [decide_eq_true (show (0 : Int32) = 0 from rfl), decide_eq_true (show lg_cmp (-1) 0 < 0 from by decide), Bool.true_or, Bool.true_or]
    · have mp : ∃ t, i < t ∧ C.2.2 i = nI t ∧ t ≤ n := by
        cases mi with
        | zero => have : i = n := g; omega
        | succ mi => obtain ⟨t, t1, t2, t3, t4, _, t5⟩ := g; exact ⟨t, t1, t3, t2⟩
      obtain ⟨t, t1, t2, t3⟩ := mp
      have bi : 200000000 * (n - i) ≤ 200000000 * 24 := Nat.mul_le_mul_left _ (by omega)
      unfold btI btM
      rw [t2, b, c, h1, h2, h3, h4, d, f, lN_add, lN_add, Nat.add_comm p x]
      rw [decide_eq_false (nI_ne0 (n := t) (by omega) (by omega))]
      rw [decide_eq_false (show ¬ lg_cmp (lN xi) 0 < 0 from by rw [lg_cmp_lt]; show ¬ _ < lN 0; rw [pk_lLT (by omega) (by omega)]; omega)]
  rw [dec]
  by_cases q : btM C' i j (lN p + C'.1 j) = true
  · rw [if_pos q, if_pos q]; exact up
  · rw [if_neg q, if_neg q]; exact h
theorem si_f {me : Nat → mV → Bool × mV} {pr : Nat → Int32 → Int64} {i : Nat} : ∀ (r j : Nat) (X : cS × mV), (∀ q, j ≤ q → q < j + r → ∀ V, (me q V).1 = false) → (siF me pr i r j X).1 = X.1
  | 0, _, _, _ => rfl
  | r + 1, j, X, h => by
    simp only [siF]
    rw [si_f r (j + 1) _ (fun q a b => h q (by omega) (by omega))]
    split
    · rfl
    · rw [if_neg (by rw [h j (Nat.le_refl _) (by omega)]; decide)]
theorem fn_si {Q : Nat → Nat → Prop} {n i : Nat} (hn : n ≤ 24) {bd pr : Nat → Int64} {K : Nat → Int32} {me : Nat → mV → Bool × mV} {pr' : Nat → Int32 → Int64} (HO : ∀ j, i < j → j ≤ n → (∀ t, i < t → t < j → ¬ K t = 3) → Pair (bd j) (pr j) (me j) (pr' j)) (HC : ∀ j, i < j → j ≤ n → (∃ t, i < t ∧ t < j ∧ K t = 3) → ∀ V, (me j V).1 = false) (HQ : ∀ j, (∀ t, i < t → t < j → ¬ K t = 3) → (∀ V, (me j V).1 = true) → Q i j) :
    ∀ (r j : Nat) (op : Bool) (C : cS) (X : cS × mV), j + r = n + 1 → i < j → ((op = true ∧ ∀ t, i < t → t < j → ¬ K t = 3) ∨ (op = false ∧ ∃ t, i < t ∧ t < j ∧ K t = 3)) → Rall Q n i C X.1 → Rall Q n i (fnF n bd pr K i r j op C) (siF me pr' i r j X).1
  | 0, j, op, C, X, _, _, _, h => h
  | r + 1, j, op, C, X, hj, hi, ho, h => by
    rcases ho with ⟨o1, o2⟩ | ⟨o1, t, t1, t2, t3⟩
    · subst o1
      have P := HO j hi (by omega) o2
      have step : Rall Q n i (if (decide (j = n) || !decide (C.2.2 j = 0)) = true ∧ ¬ lg_cmp (bd j) (-1) = 0 then kB i j (pr j) C else C) (if lg_cmp (X.1.1 j) 0 < 0 then X else if (me j X.2).1 = true then (sbF i j (pr' j (me j X.2).2.2.2.2.2 + X.1.1 j) X.1, (me j X.2).2) else (X.1, (me j X.2).2)).1 := by
        rcases h j (by omega) (by omega) with ⟨a, b, c⟩ | ⟨x, m, a, b, c, d, f, g⟩
        · rw [if_neg (by rw [b, decide_eq_false a]; simp), c, if_pos (by decide)]; exact h
        · have bi : 200000000 * (n - j) ≤ 200000000 * 24 := Nat.mul_le_mul_left _ (by omega)
          rw [if_neg (show ¬ lg_cmp (X.1.1 j) 0 < 0 from by rw [c, lg_cmp_lt]; show ¬ _ < lN 0; rw [pk_lLT (by omega) (by omega)]; omega)]
          have rc : (decide (j = n) || !decide (C.2.2 j = 0)) = true := by
            cases m with
            | zero => have : j = n := g; simp [this]
            | succ m =>
              obtain ⟨t, t1, t2, t3, t4, _, t5⟩ := g
              rw [t3, decide_eq_false (nI_ne0 (n := t) (by omega) (by omega))]; simp
          rcases P with ⟨p1, p2⟩ | ⟨bb, p, p1, p2, p3, p4, p5⟩
          · rw [if_neg (show ¬ (_ ∧ ¬ lg_cmp (bd j) (-1) = 0) from fun q => q.2 ((lg_cmp_0 _ _).mpr p2)), if_neg (by rw [p1]; decide)]
            exact h
          · rw [if_pos ⟨rc, fun q => p3 ((lg_cmp_0 _ _).mp q)⟩, if_pos (p2 X.2).1, (p2 X.2).2, p4, p5]
            exact kb_sb hn hi (by omega) p1 h a b c d f g (HQ j o2 fun V => (p2 V).1)
      simp only [fnF, siF]
      rw [if_pos trivial]
      refine fn_si hn HO HC HQ r (j + 1) _ _ _ (by omega) (by omega) ?_ step
      by_cases k3 : K j = 3
      · right; exact ⟨by simp [k3], j, hi, by omega, k3⟩
      · left
        refine ⟨by simp [k3], fun t t1 t2 => ?_⟩
        by_cases e : t = j
        · subst e; exact k3
        · exact o2 t t1 (by omega)
    · subst o1
      have e : fnF n bd pr K i (r + 1) j false C = C := rfl
      rw [e, si_f (r + 1) j X (fun q a b => HC q (by omega) (by omega) ⟨t, t1, by omega, t3⟩)]
      exact h
theorem ch_sl {Q : Nat → Nat → Prop} {n : Nat} (hn : n ≤ 24) {bd pr : Nat → Nat → Int64} {K : Nat → Int32} {me : Nat → Nat → mV → Bool × mV} {pr' : Nat → Nat → Int32 → Int64} (HO : ∀ i j, i < j → j ≤ n → (∀ t, i < t → t < j → ¬ K t = 3) → Pair (bd i j) (pr i j) (me i j) (pr' i j)) (HC : ∀ i j, i < j → j ≤ n → (∃ t, i < t ∧ t < j ∧ K t = 3) → ∀ V, (me i j V).1 = false) (HQ : ∀ i j, (∀ t, i < t → t < j → ¬ K t = 3) → (∀ V, (me i j V).1 = true) → Q i j) :
    ∀ (k : Nat) (C : cS) (X : cS × mV), k ≤ n → Rall Q n k C X.1 → Rall Q n 0 (chF n bd pr K k C) (slF n me pr' k X).1
  | 0, C, X, _, h => h
  | k + 1, C, X, hk, h => by
    simp only [chF, slF]
    refine ch_sl hn HO HC HQ k _ _ (by omega) ?_
    refine fn_si hn (HO k) (HC k) (HQ k) (n - k) (k + 1) true _ _ (by omega) (by omega) (Or.inl ⟨rfl, fun t a b => absurd b (by omega)⟩) ?_
    intro t t1 t2
    by_cases e : t = k
    · subst e
      exact Or.inl ⟨by omega, pk_us, upL_s⟩
    · exact (h t (by omega) t2).cg (fun q hq => ⟨rfl, rfl, pk_un (by omega), upL_n (by omega), rfl, rfl⟩)
theorem ch_0 {Q : Nat → Nat → Prop} {n : Nat} (C : cS) (X : cS × mV) : Rall Q n n (vp_updL C.1 n 0, upd C.2.1 n 0, C.2.2) ((vp_updL X.1.1 n 0, upd X.1.2.1 n 0, X.1.2.2), X.2).1 := by
  intro j a b
  have : j = n := by omega
  subst this
  exact Or.inr ⟨0, 0, by omega, upL_s, upL_s, pk_us, pk_us, rfl⟩
