/-! badness and price -/
theorem nI_sub_lt {a b : Nat} (h : a ≤ b) : nI a - nI b = - nI (b - a) := by
  have e : nI b = nI a + nI (b - a) := by rw [nI_add, show a + (b - a) = b from by omega]
  have z : nI a + - nI a = 0 := by rw [← Int32.sub_eq_add_neg]; exact Int32.sub_self _
  rw [e, Int32.sub_eq_add_neg, Int32.neg_add, Int32.sub_eq_add_neg, ← Int32.add_assoc, z, Int32.zero_add]
theorem nI_sub_ge {a b : Nat} (h : b ≤ a) : nI a - nI b = nI (a - b) := by
  have e : nI a = nI (a - b) + nI b := by rw [nI_add, show a - b + b = a from by omega]
  rw [e, Int32.add_sub_cancel]
theorem nI_neg {k : Nat} (h : k < 2 ^ 31) : (- nI k).toInt = - (k : Int) := by
  rw [Int32.toInt_neg, nI_toInt h]
  apply Int.bmod_eq_of_le <;> omega
theorem nI_nl {k : Nat} (h : k < 2 ^ 31) : (- nI k).toInt64 = - lN k := by
  rw [Int32.toInt64_neg_of_ne, nI_l h]
  intro q
  have := nI_pos' (n := k) h
  rw [q] at this; revert this; decide
def lKd (k : Int32) : Prop := k = 0 ∨ k = 1 ∨ k = 2 ∨ k = 3 ∨ k = 4
def mR (kj p0 p1 nat st sh : Int32) (any : Bool) : Bool × Int32 := if any = true then mdD kj p0 p1 nat st sh else (false, 0)
theorem cube_D {D : Nat} (h : D ≤ 3000) : 100 * (D * D * D) < 2 ^ 62 := by
  have b1 : D * D ≤ 3000 * 3000 := Nat.mul_le_mul h h
  have b2 : D * D * D ≤ 3000 * 3000 * 3000 := Nat.mul_le_mul b1 h
  omega
theorem cube_X {x : Nat} (h : x ≤ 600) : x * x * x < 2 ^ 62 := by
  have b1 : x * x ≤ 600 * 600 := Nat.mul_le_mul h h
  have b2 : x * x * x ≤ 600 * 600 * 600 := Nat.mul_le_mul b1 h
  omega
theorem lN_div3 {D x : Nat} (h : D ≤ 3000) (hx : x ≤ 600) (h0 : 0 < x) : 100 * (lN D * lN D * lN D) / (lN x * lN x * lN x) = lN (100 * (D * D * D) / (x * x * x)) := by
  rw [lN_mul, lN_mul, lN_mul, lN_mul, show (100 : Int64) = lN 100 from rfl, lN_mul]
  exact pk_lDiv (by have := cube_D h; omega) (Nat.mul_pos (Nat.mul_pos h0 h0) h0) (by have := cube_X hx; omega)
theorem bd_md {P0 T N N1 N2 NL : Nat} {kj : Int32} (hP : P0 ≤ 400) (hT : T ≤ 10000) (hN : N ≤ 2500) (h1 : N1 ≤ 600) (h2 : N2 ≤ 360) (hL : NL ≤ 240) (hk : lKd kj) {lt ds : Int32} (hl : lt + ds = nI NL) {K : Nat → Int32} {j : Nat} (hK : K j = kj) :
    ((mR kj (nI P0) (nI T) (nI N) (nI N1) (nI N2) (decide (0 < NL))).1 = false ∧ bdI lt ds (nI P0 - nI N) (loI K (nI P0 - nI N) j) (nI N1) (nI N2) (nI T) = -1) ∨
    ∃ b, b ≤ 10000 ∧ mR kj (nI P0) (nI T) (nI N) (nI N1) (nI N2) (decide (0 < NL)) = (true, nI b) ∧ bdI lt ds (nI P0 - nI N) (loI K (nI P0 - nI N) j) (nI N1) (nI N2) (nI T) = lN b := by
  have n1 : ¬ lN 0 = (-1 : Int64) := by decide
  unfold bdI mR
  rw [hl]
  by_cases c0 : NL = 0
  · subst c0
    left
    rw [if_pos (show nI 0 = 0 from nI_0), if_neg (by decide)]
    exact ⟨rfl, rfl⟩
  have t0 : ¬ nI NL = 0 := nI_ne0 (by omega) (by omega)
  rw [if_neg t0, if_pos (show decide (0 < NL) = true from by simp; omega)]
  have tl : (nI T).toInt64 = lN T := nI_l (by omega)
  unfold mdD mdG
  rw [tl]
  rcases Nat.lt_trichotomy P0 N with c | c | c
  · -- the line is too long
    have hd : nI P0 - nI N = - nI (N - P0) := nI_sub_lt (by omega)
    rw [hd]
    have hD : N - P0 ≤ 3000 := by omega
    have hD0 : 0 < N - P0 := by omega
    generalize N - P0 = D at hD hD0
    have d0 : ¬ - nI D = 0 := by rw [← Int32.toInt_inj, nI_neg (by omega)]; show ¬ _ = (0 : Int); omega
    have dl : ¬ (0 : Int32) < - nI D := by rw [i32_lt, nI_neg (by omega)]; show ¬ (0 : Int) < _; omega
    have dn : ¬ (0 : Int32) ≤ - nI D := by rw [i32_le, nI_neg (by omega)]; show ¬ (0 : Int) ≤ _; omega
    have lo : loI K (- nI D) j = false := by unfold loI; rw [decide_eq_false dl]; rfl
    have ln : - -nI D = nI D := Int32.neg_neg
    have q1 : (- nI D).toInt64 = - lN D := nI_nl (by omega)
    have q2 : ¬ (0 < lg_cmp (- lN D) 0 ∧ kj < 3) := by
      rw [lg_cmp_gt]; rintro ⟨w, _⟩
      rw [Int64.lt_iff_toInt_lt, Int64.toInt_neg, pk_lT (by omega)] at w
      rw [Int.bmod_eq_of_le (by omega) (by omega)] at w
      have : (0 : Int64).toInt = 0 := rfl
      omega
    have q3 : lg_cmp (- lN D) 0 < 0 := by
      rw [lg_cmp_lt, Int64.lt_iff_toInt_lt, Int64.toInt_neg, pk_lT (by omega), Int.bmod_eq_of_le (by omega) (by omega)]
      show _ < (0 : Int); omega
    rw [if_neg d0, lo, if_neg (show ¬ false = true from by decide), if_neg dl, q1, if_neg q2, if_pos q3, Int64.neg_neg, nI_l (show N2 < 2 ^ 31 by omega), ln]
    by_cases e0 : N2 = 0
    · subst e0
      left
      rw [if_pos (show nI 0 = 0 from nI_0), if_pos (by rw [lg_cmp_gt, lN_lt (by omega) (by omega)]; exact hD0)]
      exact ⟨rfl, rfl⟩
    rw [if_neg (nI_ne0 (by omega) (by omega))]
    by_cases e1 : D ≤ N2
    · rw [if_pos (nI_le e1 (by omega)), if_neg (by rw [lg_cmp_gt, lN_lt (by omega) (by omega)]; omega)]
      have ab : abI (- nI D) = nI D := by unfold abI; rw [if_neg dn, ln]
      have v2 : -100 * -lN D * -lN D * -lN D / (lN N2 * lN N2 * lN N2) = lN (100 * (D * D * D) / (N2 * N2 * N2)) := by
        rw [← lN_div3 hD (by omega) (by omega)]
        congr 1
        simp only [Int64.neg_mul, Int64.mul_neg, Int64.neg_neg, Int64.mul_assoc]
      rw [ab, nI_l (show D < 2 ^ 31 by omega), lN_div3 hD (by omega) (by omega), v2]
      have vb : 100 * (D * D * D) / (N2 * N2 * N2) ≤ 100 := by
        have m1 : D * D ≤ N2 * N2 := Nat.mul_le_mul e1 e1
        have m2 : D * D * D ≤ N2 * N2 * N2 := Nat.mul_le_mul m1 e1
        apply Nat.div_le_of_le_mul
        rw [Nat.mul_comm (N2 * N2 * N2)]; exact Nat.mul_le_mul_left _ m2
      generalize 100 * (D * D * D) / (N2 * N2 * N2) = v at vb
      rw [lN_i]
      by_cases e2 : v ≤ T
      · right
        refine ⟨v, by omega, ?_, ?_⟩
        · rw [decide_eq_true (nI_le e2 (by omega))]
        · rw [if_neg (by rw [lg_cmp_gt, lN_lt (by omega) (by omega)]; omega)]
      · left
        refine ⟨?_, ?_⟩
        · exact decide_eq_false (nI_ge (by omega) (by omega))
        · rw [if_pos (by rw [lg_cmp_gt, lN_lt (by omega) (by omega)]; omega)]
    · left
      rw [if_neg (nI_ge (by omega) (by omega)), if_pos (by rw [lg_cmp_gt, lN_lt (by omega) (by omega)]; omega)]
      exact ⟨rfl, rfl⟩
  · subst c
    right
    refine ⟨0, by omega, ?_, ?_⟩
    · rw [Int32.sub_self]
      rw [if_neg (fun q => absurd q.1 (by decide)), if_neg (show ¬ lg_cmp (0 : Int32).toInt64 0 < 0 from by decide), decide_eq_true (nI_pos' (by omega)), nI_0]
    · rw [Int32.sub_self, if_pos rfl]; rfl
  · have hd : nI P0 - nI N = nI (P0 - N) := nI_sub_ge (by omega)
    rw [hd]
    have hD : P0 - N ≤ 3000 := by omega
    have hD0 : 0 < P0 - N := by omega
    generalize P0 - N = D at hD hD0
    have d0 : ¬ nI D = 0 := nI_ne0 hD0 (by omega)
    have dl : (0 : Int32) < nI D := by have := nI_lt hD0 (show D < 2 ^ 31 by omega); rwa [nI_0] at this
    rw [if_neg d0, nI_l (show D < 2 ^ 31 by omega), if_pos dl]
    have g0 : 0 < lg_cmp (lN D) 0 := by rw [lg_cmp_gt]; show lN 0 < _; rw [lN_lt (by omega) (by omega)]; exact hD0
    have g1 : ¬ lg_cmp (lN D) 0 < 0 := by rw [lg_cmp_lt]; show ¬ _ < lN 0; rw [lN_lt (by omega) (by omega)]; omega
    by_cases lo : kj = 3 ∨ kj = 4
    · have e1 : loI K (nI D) j = true := by unfold loI; rw [hK, decide_eq_true dl]; simpa using lo
      have e2 : ¬ kj < 3 := by rcases lo with rfl | rfl <;> decide
      right
      refine ⟨0, by omega, ?_, ?_⟩
      · rw [if_neg (fun q => e2 q.2), if_neg g1, decide_eq_true (nI_pos' (by omega)), nI_0]
      · rw [e1, if_pos rfl]; rfl
    · have e1 : ¬ loI K (nI D) j = true := by unfold loI; rw [hK, decide_eq_true dl]; simpa using lo
      have e2 : kj < 3 := by
        rcases hk with rfl | rfl | rfl | rfl | rfl
        · decide
        · decide
        · decide
        · exact absurd (Or.inl rfl) lo
        · exact absurd (Or.inr rfl) lo
      rw [if_neg e1, if_pos ⟨g0, e2⟩]
      by_cases e0 : N1 = 0
      · subst e0
        left
        rw [if_pos (show nI 0 = 0 from nI_0), if_pos (show nI 0 = 0 from nI_0)]
        exact ⟨rfl, rfl⟩
      have e0' := nI_ne0 (n := N1) (by omega) (by omega)
      have dn : - nI D ≤ nI N1 := by rw [i32_le, nI_neg (by omega), nI_toInt (by omega)]; omega
      rw [if_neg e0', if_neg e0', if_pos dn]
      have ab : abI (nI D) = nI D := by unfold abI; rw [if_pos (nI_pos' (by omega))]
      have v1 : 100 * lN D * lN D * lN D / (lN N1 * lN N1 * lN N1) = lN (100 * (D * D * D) / (N1 * N1 * N1)) := by
        rw [← lN_div3 hD (by omega) (by omega)]
        congr 1
        simp only [Int64.mul_assoc]
      rw [ab, nI_l (show D < 2 ^ 31 by omega), nI_l (show N1 < 2 ^ 31 by omega), lN_div3 hD (by omega) (by omega), v1]
      have vb : 100 * (D * D * D) / (N1 * N1 * N1) < 2 ^ 62 := Nat.lt_of_le_of_lt (Nat.div_le_self _ _) (cube_D hD)
      generalize 100 * (D * D * D) / (N1 * N1 * N1) = v at vb
      by_cases e3 : T < v
      · left
        rw [if_pos (by rw [lg_cmp_gt, pk_lLT (by omega) (by omega)]; exact e3), if_pos (by rw [lg_cmp_gt, pk_lLT (by omega) (by omega)]; exact e3)]
        exact ⟨rfl, rfl⟩
      · right
        rw [if_neg (by rw [lg_cmp_gt, pk_lLT (by omega) (by omega)]; exact e3), if_neg (by rw [lg_cmp_gt, pk_lLT (by omega) (by omega)]; exact e3)]
        exact ⟨v, by omega, by rw [lN_i, decide_eq_true (nI_le (by omega) (by omega))], rfl⟩
/-- the price of a line, as a number -/
def prN (A2 A3 A4 : Nat) (k2 i2 : Bool) (b : Nat) : Nat := (A2 + b) * (A2 + b) + (if k2 = true then A3 * A3 + (if i2 = true then A4 else 0) else 0)
theorem pr_c {PP K : Nat → Int32} {A2 A3 A4 b i j : Nat} (h2 : PP 2 = nI A2) (h3 : PP 3 = nI A3) (h4 : PP 4 = nI A4) (b2 : A2 ≤ 100) (b3 : A3 ≤ 200) (b4 : A4 ≤ 10000) : prI PP K i j (lN b) = lN (prN A2 A3 A4 (decide (K j = 2)) (decide (K i = 2)) b) := by
  unfold prI prN
  rw [h2, h3, h4, nI_l (by omega), nI_l (by omega), nI_l (by omega), lN_add, lN_mul, lN_mul, lN_add, lN_add]
  by_cases c : K j = 2
  · rw [if_pos c, if_pos (decide_eq_true c)]
    by_cases d : K i = 2
    · rw [if_pos d, if_pos (decide_eq_true d), Nat.add_assoc]
    · rw [if_neg d, if_neg (by simpa using d), Nat.add_zero]
  · rw [if_neg c, if_neg (by simpa using c), Nat.add_zero]
theorem pr_m {PP K K' : Nat → Int32} {A2 A3 A4 b i j : Nat} (h2 : PP 2 = nI A2) (h3 : PP 3 = nI A3) (h4 : PP 4 = nI A4) (b2 : A2 ≤ 100) (b3 : A3 ≤ 200) (b4 : A4 ≤ 10000) (hb : b ≤ 10000) (h0 : K 0 = -1) (hi : 1 ≤ i → K' i = K i) (hj : K' j = K j) : pmF PP K' i j (nI b) = lN (prN A2 A3 A4 (decide (K j = 2)) (decide (K i = 2)) b) := by
  unfold pmF prN
  rw [h2, h3, h4, nI_add, nI_l (by omega), nI_l (by omega), lN_mul, hj]
  by_cases c : K j = 2
  · rw [if_pos c, if_pos (decide_eq_true c)]
    by_cases d : i = 0
    · subst d
      rw [if_pos rfl, if_neg (by rw [h0]; decide)]
      show lN _ + (lN _ * lN _ + lN 0) = _
      rw [lN_mul, lN_add, lN_add]
    · rw [if_neg d, hi (by omega)]
      by_cases f : K i = 2
      · rw [if_pos f, if_pos (decide_eq_true f), nI_l (by omega), lN_mul, lN_add, lN_add]
      · rw [if_neg f, if_neg (by simpa using f)]
        show lN _ + (lN _ * lN _ + lN 0) = _
        rw [lN_mul, lN_add, lN_add]
  · rw [if_neg c, if_neg (by simpa using c)]
    show lN _ + lN 0 = _
    rw [lN_add]
theorem prN_le {A2 A3 A4 b : Nat} {k i : Bool} (b2 : A2 ≤ 100) (b3 : A3 ≤ 200) (b4 : A4 ≤ 10000) (hb : b ≤ 10000) : prN A2 A3 A4 k i b ≤ 200000000 := by
  unfold prN
  have m1 : (A2 + b) * (A2 + b) ≤ 10100 * 10100 := Nat.mul_le_mul (by omega) (by omega)
  have m2 : A3 * A3 ≤ 200 * 200 := Nat.mul_le_mul b3 b3
  split <;> (try split) <;> omega
