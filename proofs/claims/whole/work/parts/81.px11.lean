/-! the lines that are shown -/
theorem ps_v {it sz sp : Nat → Int32} {d : Int32} {Z T : Nat → Nat} : ∀ (r k a b : Nat), (∀ i, i < r → sz (k + i) = nI (Z (k + i)) ∧ (if cSpc (it (k + i)) = true then (if 0 < d then (sp (k + i) + 1) / 2 else sp (k + i) / 3) else 0) = nI (T (k + i))) →
    psF it sz sp d r k (nI a, nI b) = (nI (a + sumN Z r k), nI (b + sumN T r k))
  | 0, k, a, b, _ => rfl
  | r + 1, k, a, b, h => by
    obtain ⟨z1, z2⟩ := h 0 (by omega)
    simp only [Nat.add_zero] at z1 z2
    have ih := ps_v (it := it) (sz := sz) (sp := sp) (d := d) (Z := Z) (T := T) r (k + 1) (a + Z k) (b + T k) (fun i hi => by
      rw [show k + 1 + i = k + (i + 1) from by omega]; exact h (i + 1) (by omega))
    rw [show sumN Z (r + 1) k = Z k + sumN Z r (k + 1) from rfl, show sumN T (r + 1) k = T k + sumN T r (k + 1) from rfl, ← Nat.add_assoc, ← Nat.add_assoc, ← ih]
    simp only [psF]
    rw [z1, nI_add]
    by_cases c : cSpc (it k) = true
    · rw [if_pos c] at z2
      rw [if_pos c, z2, nI_add]
    · rw [if_neg c] at z2
      rw [if_neg c, ← nI_add b, ← z2, Int32.add_zero]
theorem lt_np (it : Nat → Int32) : ∀ r k, ltF it r k = nP (fun i => cLet (it i)) r k
  | 0, _ => rfl
  | r + 1, k => by simp only [ltF, nP]; rw [lt_np it r (k + 1)]
theorem i32_msb (x : Int32) : x < 0 ↔ x.toBitVec.msb = true := by
  rw [Int32.lt_iff_toInt_lt, BitVec.msb_eq_toInt]
  rw [decide_eq_true_eq]; exact Iff.rfl
theorem fd_e {x w : Int32} (hw : 0 ≤ w) (r : Int32) : (if x < 0 then (if x - x / w * w = 0 then r + x / w else r + x / w - 1) else r + x / w) = r + fdI x w := by
  have nw : w.toBitVec.msb = false := by
    cases q : w.toBitVec.msb with
    | false => rfl
    | true => exact absurd ((i32_msb w).mpr q) (Int32.not_lt.mpr hw)
  have xs : (x ^^^ w) < 0 ↔ x < 0 := by
    rw [i32_msb, i32_msb, Int32.toBitVec_xor, BitVec.msb_xor, nw, Bool.xor_false]
  unfold fdI
  by_cases c : x < 0
  · rw [if_pos c, if_pos (xs.mpr c)]
    by_cases e : x / w * w = x
    · rw [if_pos e, if_pos (by rw [e]; exact Int32.sub_self _)]
    · rw [if_neg e, if_neg (fun q => e (by
        have := congrArg (· + x / w * w) q
        simp only [Int32.sub_add_cancel, Int32.zero_add] at this
        exact this.symm)), Int32.sub_eq_add_neg, Int32.sub_eq_add_neg, Int32.add_assoc]
  · rw [if_neg c, if_neg (fun q => c (xs.mp q))]
def CubeOk (ST SH : Nat → Int32) (e g : Nat) : Prop := ∀ x : Int32, (x = ST e - ST g ∨ x = SH e - SH g) → ¬ x = 0 → ¬ x.toInt64 * x.toInt64 * x.toInt64 = 0
/-- line i, as both sides show it -/
def LineR (dw : Int32) (K E B W ST SH L DD PP X C : Nat → Int32) (F : Nat → Nat → Int32) (i : Nat) : Prop := ∃ x0 x1 e g : Nat,
  (X i = nI x0 ∧ X (i + 1) = nI x1 ∧ x0 < 25 ∧ x1 < 25 ∧ E x1 = nI e ∧ B x0 = nI g ∧ e ≤ 120 ∧ g ≤ e ∧ CubeOk ST SH e g) ∧
  (F 38 i = nI g ∧ F 39 i = nI e ∧ F 40 i = K x1 ∧ F 41 i = nI x1 ∧ F 42 i = naI W K dw x1 e g ∧ F 43 i = dfI W K PP dw x1 e g ∧ F 44 i = (bdI (L e - L g) (DD e - DD g) (dfI W K PP dw x1 e g) (loI K (dfI W K PP dw x1 e g) x1) (ST e - ST g) (SH e - SH g) (PP 1)).toInt32 ∧ nI (ltF (F 19) (e - g) g) = L e - L g) ∧
  (∀ k, coI K C x1 e g k = chI (F 19) (K x1) e g k) ∧
  (¬ F 43 i = 0 → ¬ (0 < F 43 i ∧ 3 ≤ F 40 i) → ¬ (if 0 < F 43 i then F 45 i else F 46 i) = 0) ∧
  ∀ k, k < lenN K x1 e g → plI W ST SH K PP dw x1 e g k = pmI (F 40 i) (F 43 i) (F 45 i) (F 46 i) (psF (F 19) (F 20) (F 21) (F 43 i) k g (0, 0))
section
variable {tn N : Nat} {c s ci si wo wt PP PP' W9 S9 H9 L9 D9 : Nat → Int32} {S S' : bS} {eN gC gM : Nat → Nat} {P0 P1 A2 A3 A4 : Nat}
theorem feas_g (h : Br c tn tn N S S' eN gC gM) (hT : TX tn c) {i j : Nat} (hi : i < j) (hj : j ≤ S.1) (hf : ∀ V, (meF wt PP' ci si S'.2.1 i j (eN j) (gM i) V).1 = true) : gC i ≤ eN j := by
  rcases h.ge hT hi hj with q | ⟨e1, e2, e3, e4⟩
  · exact q
  · have := hf (0, 0, 0, 0, 0)
    unfold meF at this
    rw [e2, Nat.sub_self] at this
    have z : fsF ci 0 (eN j) = eN j := rfl
    simp only [z, Nat.sub_self] at this
    split at this
    · rw [if_neg (by simp [msF])] at this; exact absurd this (by simp)
    · exact absurd this (by simp)
theorem line_r (h : Br c tn tn N S S' eN gC gM) (hT : TX tn c) (htn : tn ≤ 120) (hI : ItR tn c s ci si wo wt) (hP : PrR PP P0 P1 A2 A3 A4) (hP' : PrR PP' P0 P1 A2 A3 A4) {x0 x1 t : Nat} {X : Nat → Int32} {F : Nat → Nat → Int32} (hi : x0 < x1) (hj : x1 ≤ S.1) (ho : ∀ t, x0 < t → t < x1 → ¬ S.2.1 t = 3) (hf : ∀ V, (meF wt PP' ci si S'.2.1 x0 x1 (eN x1) (gM x0) V).1 = true)
    (hX0 : X t = nI x0) (hX1 : X (t + 1) = nI x1) {V V2 : mV} (hV : (meF wt PP' ci si S'.2.1 x0 x1 (eN x1) (gM x0) V).2 = V2)
    (f38 : F 38 t = V2.1) (f39 : F 39 t = S'.2.2.1 x1) (f40 : F 40 t = S'.2.1 x1) (f41 : F 41 t = nI x1) (f42 : F 42 t = V2.2.1) (f43 : F 43 t = PP' 0 - V2.2.1) (f44 : F 44 t = V2.2.2.2.2) (f45 : F 45 t = V2.2.2.1) (f46 : F 46 t = V2.2.2.2.1)
    (f19 : ∀ k, k < tn → F 19 k = ci k) (f20 : ∀ k, k < tn → F 20 k = szI wt ci si k) (f21 : ∀ k, k < tn → F 21 k = si k) :
    LineR (wo 26) S.2.1 S.2.2.1 S.2.2.2 (smI (wdI wo c s) W9 tn) (smI (stI s) S9 tn) (smI (shI s) H9 tn) (smI (leI c) L9 tn) (smI (daI c) D9 tn) PP X c F t := by
  have g := feas_g h hT hi hj hf
  obtain ⟨p0, p1, p2, p3, p4, q0, q1, q2, q3, q4⟩ := id hP
  obtain ⟨r0, r1, r2, r3, r4, _⟩ := id hP'
  have hj4 := h.2.2.2.1 x1 (by omega) hj
  have en := hj4.1.2.2.1
  obtain ⟨NW, N1, N2, NL, a, A, ha, hd, hm, hfs⟩ := ln_num h hT htn hI hi hj ho g
  have em := me_v (wt := wt) (ci := ci) (si := si) h hP' hi hj ho hm hfs
  have bd := bd_md (P0 := P0) (T := P1) (N := NW + a) (N1 := N1) (N2 := N2) (NL := NL) (kj := S.2.1 x1) (K := S.2.1) (j := x1) q0 q1 (by have := A.bw; omega) A.b1 A.b2 A.bl hj4.1.2.2.2.2.2.1 (A.l L9 D9) rfl
  have gd := h.gd hT (i := x0) (by omega)
  have nb : ∀ k, gC x0 ≤ k → k < eN x1 → ¬ c k = 124 := fun k a b => h.ib hi hj ho k (by
    rcases gd.2.2 with ⟨u, v⟩ | ⟨u, v⟩ <;> omega) b
  have K' : ∀ k, gC x0 ≤ k → k < eN x1 → _ := fun k a b => it_k hI (k := k) (by omega) (nb k a b)
  have hV2 := hV
  rw [em V] at hV2
  have hfv := hf V
  rw [em V] at hfv
  rcases bd with ⟨b1, b2⟩ | ⟨b, b1, b2, b3⟩
  · exact absurd hfv (by simp only [b1]; decide)
  have m1 : (mR (S.2.1 x1) (nI P0) (nI P1) (nI (NW + a)) (nI N1) (nI N2) (decide (0 < NL))) = (true, nI b) := b2
  rw [m1] at hV2
  subst hV2
  simp only at f38 f42 f43 f44 f45 f46
  have en_ : naI (smI (wdI wo c s) W9 tn) S.2.1 (wo 26) x1 (eN x1) (gC x0) = nI (NW + a) := by unfold naI; rw [A.w, hd, nI_add]
  have ed : dfI (smI (wdI wo c s) W9 tn) S.2.1 PP (wo 26) x1 (eN x1) (gC x0) = nI P0 - nI (NW + a) := by unfold dfI; rw [en_, p0]
  have e43 : F 43 t = nI P0 - nI (NW + a) := by rw [f43, r0]
  have e40 : F 40 t = S.2.1 x1 := by rw [f40, hj4.2.1]
  have bb : b ≤ 10000 := b1
  -- the room to stretch or to shrink is there
  have room : ¬ (nI P0 - nI (NW + a) = 0) → loI S.2.1 (nI P0 - nI (NW + a)) x1 = false → ¬ (if 0 < nI P0 - nI (NW + a) then nI N1 else nI N2) = 0 := by
    intro w1 w2 w3
    have : (lN b) = (-1 : Int64) := by
      rw [← b3]
      unfold bdI
      rw [if_neg w1, w2, if_pos w3]
      split
      · rfl
      · rw [if_neg (by decide)]
    have := (pk_lT (n := b) (by omega)).symm.trans (congrArg Int64.toInt this)
    have e : (-1 : Int64).toInt = -1 := rfl
    omega
  refine ⟨x0, x1, eN x1, gC x0, ⟨hX0, hX1, by have := h.2.1; omega, by have := h.2.1; omega, hj4.2.2.1, ?_, by omega, g, ?_⟩, ⟨f38, by rw [f39, hj4.2.2.2.1], e40, f41, by rw [f42, en_], by rw [e43, ed], ?_, ?_⟩, fun k => ?_, ?_, fun k hk => ?_⟩
  · by_cases e : x0 = 0
    · subst e; obtain ⟨z1, z2, z3, z4, z5, z6, z7, z8⟩ := h.2.2.1; rw [z4, z7]; rfl
    · exact (h.2.2.2.1 x0 (by omega) (by omega)).2.2.2.2.1
  · exact fun x hx hx0 => (ln_ok (s := s) (S9 := S9) (H9 := H9) h hT htn hI).2.2.2 x0 x1 hi hj x hx hx0
  · rw [f44, ed, A.st, A.sh, p1, b3, lN_i]
  · rw [sm_d (Z := fun k => if cLet (c k) = true then 1 else 0) g en (fun i _ _ => by unfold leI; cases cLet (c i) <;> rfl), lt_np, nP_sum (fun k => cLet (c k))]
    congr 1
    exact nP_cg _ _ _ (fun j hj => by
      show cLet (F 19 _) = cLet (c _)
      rw [f19 _ (by omega), (hI.1 _ (by omega)).1])
  · unfold coI chI lenN chN
    by_cases k1 : (eN x1 - gC x0) + (if S.2.1 x1 = 2 then 1 else 0) ≤ k
    · rw [if_pos k1, if_pos k1]
    · rw [if_neg k1, if_neg k1]
      have k2 : k < (eN x1 - gC x0) + 1 := by split at k1 <;> omega
      by_cases k3 : eN x1 - gC x0 ≤ k
      · rw [if_pos k3, if_pos (show gC x0 + k = eN x1 by omega)]
      · rw [if_neg k3, if_neg (show ¬ gC x0 + k = eN x1 by omega), f19 _ (by omega), (hI.1 _ (by omega)).1]
  · rw [e43, e40, f45, f46]
    intro w1 w2
    refine room w1 ?_
    unfold loI
    cases hdd : decide (0 < nI P0 - nI (NW + a)) with
    | false => rfl
    | true =>
      have w3 : ¬ 3 ≤ S.2.1 x1 := fun q => w2 ⟨by simpa using hdd, q⟩
      have : ¬ S.2.1 x1 = 3 ∧ ¬ S.2.1 x1 = 4 := ⟨fun q => w3 (by rw [q]; decide), fun q => w3 (by rw [q]; decide)⟩
      simp [this.1, this.2]
  · have k2 : gC x0 + k ≤ eN x1 := by
      unfold lenN at hk
      split at hk <;> omega
    have hz : ∀ i, i < k → F 20 (gC x0 + i) = nI (vN (wdI wo c s (gC x0 + i))) := fun i hi => by
      obtain ⟨k1, k2, k3, k4, k5, k6, k7, k8, k9, k10, k11⟩ := K' (gC x0 + i) (by omega) (by omega)
      rw [f20 _ (by omega), k3]; exact k1
    have wk : smI (wdI wo c s) W9 tn (gC x0 + k) - smI (wdI wo c s) W9 tn (gC x0) = nI (sumN (fun k => vN (wdI wo c s k)) k (gC x0)) := by
      have := sm_d (F := W9) (f := wdI wo c s) (Z := fun k => vN (wdI wo c s k)) (n := tn) (g := gC x0) (e := gC x0 + k) (by omega) (by omega) (fun i a b => (K' i a (by omega)).1)
      rw [show gC x0 + k - gC x0 = k from by omega] at this; exact this
    have sk : smI (stI s) S9 tn (gC x0 + k) - smI (stI s) S9 tn (gC x0) = nI (sumN (fun k => vN (stI s k)) k (gC x0)) := by
      have := sm_d (F := S9) (f := stI s) (Z := fun k => vN (stI s k)) (n := tn) (g := gC x0) (e := gC x0 + k) (by omega) (by omega) (fun i a b => (K' i a (by omega)).2.2.2.1)
      rw [show gC x0 + k - gC x0 = k from by omega] at this; exact this
    have hk' : smI (shI s) H9 tn (gC x0 + k) - smI (shI s) H9 tn (gC x0) = nI (sumN (fun k => vN (shI s k)) k (gC x0)) := by
      have := sm_d (F := H9) (f := shI s) (Z := fun k => vN (shI s k)) (n := tn) (g := gC x0) (e := gC x0 + k) (by omega) (by omega) (fun i a b => (K' i a (by omega)).2.2.2.2.2.2.1)
      rw [show gC x0 + k - gC x0 = k from by omega] at this; exact this
    unfold plI
    rw [ed, e43, e40, f45, f46, A.st, A.sh, wk, sk, hk']
    generalize hD : nI P0 - nI (NW + a) = D at room ⊢
    have ps : psF (F 19) (F 20) (F 21) D k (gC x0) (0, 0) = (nI (sumN (fun k => vN (wdI wo c s k)) k (gC x0)), if 0 < D then nI (sumN (fun k => vN (stI s k)) k (gC x0)) else nI (sumN (fun k => vN (shI s k)) k (gC x0))) := by
      have := ps_v (it := F 19) (sz := F 20) (sp := F 21) (d := D) (Z := fun k => vN (wdI wo c s k)) (T := fun i => if 0 < D then vN (stI s i) else vN (shI s i)) k (gC x0) 0 0 (fun i hi => ⟨hz i hi, by
        obtain ⟨k1, k2, k3, k4, k5, k6, k7, k8, k9, k10, k11⟩ := K' (gC x0 + i) (by omega) (by omega)
        rw [f19 _ (by omega), f21 _ (by omega)]
        by_cases z : 0 < D
        · rw [if_pos z, if_pos z, k6]; exact k4
        · rw [if_neg z, if_neg z, k9]; exact k7⟩)
      rw [nI_0, Nat.zero_add, Nat.zero_add] at this
      rw [this]
      by_cases z : 0 < D
      · simp only [if_pos z]
      · simp only [if_neg z]
    rw [ps]
    generalize sumN (fun k => vN (wdI wo c s k)) k (gC x0) = ZW
    generalize sumN (fun k => vN (stI s k)) k (gC x0) = Z1
    generalize sumN (fun k => vN (shI s k)) k (gC x0) = Z2
    unfold pmI
    simp only
    have b1' := A.b1
    have b2' := A.b2
    have w0 : 0 ≤ (if 0 < D then nI N1 else nI N2) := by split <;> exact nI_pos' (by omega)
    by_cases d0 : D = 0
    · rw [if_pos d0]
      have nl : loI S.2.1 D x1 = false := by unfold loI; rw [d0]; rfl
      by_cases w : (if 0 < D then nI N1 else nI N2) = 0
      · rw [if_pos w]
      · rw [if_neg w, nl, if_neg (by decide), d0, Int32.zero_mul]
        have f0 := fd_e (x := 0) w0 (nI ZW)
        rw [d0] at f0
        rw [← f0, if_neg (by decide)]
        have z0 : ∀ w : Int32, (0 : Int32) / w = 0 := fun w => Int32.zero_div
        rw [z0, Int32.add_zero]
    · rw [if_neg d0]
      by_cases lo : loI S.2.1 D x1 = true
      · have lo' : 0 < D ∧ 3 ≤ S.2.1 x1 := by
          unfold loI at lo
          simp only [Bool.and_eq_true, Bool.or_eq_true, decide_eq_true_eq] at lo
          refine ⟨lo.1, ?_⟩
          rcases lo.2 with q | q <;> (rw [q]; decide)
        rw [if_pos lo', if_pos lo, ite_self]
      · have lf : loI S.2.1 D x1 = false := by simpa using lo
        have nk : ¬ (0 < D ∧ 3 ≤ S.2.1 x1) := by
          rintro ⟨u1, u2⟩
          apply lo
          unfold loI
          rw [decide_eq_true u1]
          rcases hj4.1.2.2.2.2.2.1 with q | q | q | q | q
          · rw [q] at u2; exact absurd u2 (by decide)
          · rw [q] at u2; exact absurd u2 (by decide)
          · rw [q] at u2; exact absurd u2 (by decide)
          · rw [q]; decide
          · rw [q]; decide
        rw [if_neg (room d0 lf), if_neg lo, if_neg nk]
        exact (fd_e w0 (nI ZW)).symm
end
