theorem arrV_gh {c : ClassId} {n : Nat} {f g : Nat → Value} (h : ∀ j, j < n → f j = g j) : arrV c n f = arrV c n g := by
  unfold arrV
  rw [show (fun j : Fin n => f j.val) = (fun j : Fin n => g j.val) from funext (fun j => h j.1 j.2)]
/-- what an array's function says beyond its length is nobody's -/
theorem go_gh {G : gG} {k : gY} {d pc : Nat} {lv : gL} {st : List Value} {M : gM} {a n t : Nat} {f f' : Nat → Option Nat} (hr : gRd M a = some (aQ G t n f)) (hf : ∀ j, j < n → f j = f' j) : Go G k d (pc, lv, st, M) (pc, lv, st, gWr M a (aQ G t n f')) := by
  refine ⟨⟨Nat.le_refl _, Nat.le_refl _⟩, ?_⟩
  intro p l e R s m args below meth c u0 Q hK h3 h4 h5 h6 hX H locs ls hR hS hl
  refine hX H locs ls (hR.set hr ?_ rfl (fun q _ => rfl)) hS hl
  have h1 : H[a]? = some (vp_cell (G.2.1 t) (n, .inr (.inr (.inr (.inr f))))) := hR.at hr
  show H[a]? = some (vp_cell (G.2.1 t) (n, .inr (.inr (.inr (.inr f')))))
  rw [h1, vp_cell_q, vp_cell_q]
  exact congrArg some (arrV_gh (fun j hj => by rw [hf j hj]))
theorem g_Exp_init (G : gG) (M0 : gM) (p u : Nat) : ∀ (r k : Nat) (M : gM), k + r = 4 → (gRd M (p + 5) = some (.inr (2, [.ref (p + 6), .ref (p + 7), .int 0, .ref (p + 8), .ref (p + 10), .int 0, .int 0, .int 0])) ∧ gRd M (p + 6) = some (aQ G 3 4 (fun j => if j < k then some (p + 11 + 3 * j) else none)) ∧ M.2 = (p + 11 + 3 * k, u + 28 * k) ∧ (∀ j, j < k → gRd M (p + 11 + 3 * j) = some (.inr (1, [.ref (p + 12 + 3 * j), .int 0])) ∧ gRd M (p + 12 + 3 * j) = some (.inr (0, [.ref (p + 13 + 3 * j), .int (nI 0)])) ∧ gRd M (p + 13 + 3 * j) = some (aI G 24 (fun _ => 0))) ∧ (∀ q, q < p + 11 → q ≠ (p + 6) → gRd M q = gRd M0 q)) → ∃ M2 : gM, Go G m_Exp_init 3 (45, [(0, .ref (p + 5)), (1, .int (nI k))], [], M) (69, [(0, .ref (p + 5)), (1, .int (nI 4))], [], M2) ∧ (gRd M2 (p + 5) = some (.inr (2, [.ref (p + 6), .ref (p + 7), .int 0, .ref (p + 8), .ref (p + 10), .int 0, .int 0, .int 0])) ∧ gRd M2 (p + 6) = some (aQ G 3 4 (fun j => if j < 4 then some (p + 11 + 3 * j) else none)) ∧ M2.2 = (p + 11 + 3 * 4, u + 28 * 4) ∧ (∀ j, j < 4 → gRd M2 (p + 11 + 3 * j) = some (.inr (1, [.ref (p + 12 + 3 * j), .int 0])) ∧ gRd M2 (p + 12 + 3 * j) = some (.inr (0, [.ref (p + 13 + 3 * j), .int (nI 0)])) ∧ gRd M2 (p + 13 + 3 * j) = some (aI G 24 (fun _ => 0))) ∧ (∀ q, q < p + 11 → q ≠ (p + 6) → gRd M2 q = gRd M0 q)) := by
  intro r
  induction r with
  | zero =>
    intro k M hk hv
    have ek : k = 4 := by omega
    subst ek
    refine ⟨M, ?_, hv⟩
    refine Go.trp 46 (go_iload_n d_Exp_init_45 rfl 1 rfl) rfl ?_
    refine Go.trp 47 (go_iconst (v := 4) d_Exp_init_46 (by decide)) rfl ?_
    refine Go.trp 69 (go_icmp_ge_t 69 d_Exp_init_47 (by decide) (by decide)) rfl ?_
    exact Go.rf
  | succ r ih =>
    intro k M hk hv
    obtain ⟨x1, x2, x3, x4, x5⟩ := hv
    have hb : M.2.1 = p + 11 + 3 * k := by rw [x3]
    have hu : M.2.2 = u + 28 * k := by rw [x3]
    have eQ : va_up (fun j => if j < k then some (p + 11 + 3 * j) else none) k (some (p + 11 + 3 * k)) = (fun j => if j < k + 1 then some (p + 11 + 3 * j) else none) := by funext j; simp only [va_up]; by_cases e1 : j = k; (subst e1; rw [if_pos rfl, if_pos (by omega)]); by_cases e2 : j < k; (rw [if_neg e1, if_pos e2, if_pos (by omega)]); (rw [if_neg e1, if_neg e2, if_neg (by omega)])
    have hv2 : gRd (gWr (gWr (gWr (gWr (gXt M 3 28) (p + 11 + 3 * k) (.inr (1, [.ref (p + 11 + 3 * k + 1), .int 0]))) (p + 11 + 3 * k + 1) (.inr (0, [.ref (p + 11 + 3 * k + 2), .int (nI 0)]))) (p + 11 + 3 * k + 2) (aI G 24 (fun _ => 0))) (p + 6) (aQ G 3 4 (fun j => if j < (k + 1) then some (p + 11 + 3 * j) else none))) (p + 5) = some (.inr (2, [.ref (p + 6), .ref (p + 7), .int 0, .ref (p + 8), .ref (p + 10), .int 0, .int 0, .int 0])) ∧ gRd (gWr (gWr (gWr (gWr (gXt M 3 28) (p + 11 + 3 * k) (.inr (1, [.ref (p + 11 + 3 * k + 1), .int 0]))) (p + 11 + 3 * k + 1) (.inr (0, [.ref (p + 11 + 3 * k + 2), .int (nI 0)]))) (p + 11 + 3 * k + 2) (aI G 24 (fun _ => 0))) (p + 6) (aQ G 3 4 (fun j => if j < (k + 1) then some (p + 11 + 3 * j) else none))) (p + 6) = some (aQ G 3 4 (fun j => if j < (k + 1) then some (p + 11 + 3 * j) else none)) ∧ (gWr (gWr (gWr (gWr (gXt M 3 28) (p + 11 + 3 * k) (.inr (1, [.ref (p + 11 + 3 * k + 1), .int 0]))) (p + 11 + 3 * k + 1) (.inr (0, [.ref (p + 11 + 3 * k + 2), .int (nI 0)]))) (p + 11 + 3 * k + 2) (aI G 24 (fun _ => 0))) (p + 6) (aQ G 3 4 (fun j => if j < (k + 1) then some (p + 11 + 3 * j) else none))).2 = (p + 11 + 3 * ((k + 1)), u + 28 * ((k + 1))) ∧ (∀ j, j < ((k + 1)) → gRd (gWr (gWr (gWr (gWr (gXt M 3 28) (p + 11 + 3 * k) (.inr (1, [.ref (p + 11 + 3 * k + 1), .int 0]))) (p + 11 + 3 * k + 1) (.inr (0, [.ref (p + 11 + 3 * k + 2), .int (nI 0)]))) (p + 11 + 3 * k + 2) (aI G 24 (fun _ => 0))) (p + 6) (aQ G 3 4 (fun j => if j < (k + 1) then some (p + 11 + 3 * j) else none))) (p + 11 + 3 * j) = some (.inr (1, [.ref (p + 12 + 3 * j), .int 0])) ∧ gRd (gWr (gWr (gWr (gWr (gXt M 3 28) (p + 11 + 3 * k) (.inr (1, [.ref (p + 11 + 3 * k + 1), .int 0]))) (p + 11 + 3 * k + 1) (.inr (0, [.ref (p + 11 + 3 * k + 2), .int (nI 0)]))) (p + 11 + 3 * k + 2) (aI G 24 (fun _ => 0))) (p + 6) (aQ G 3 4 (fun j => if j < (k + 1) then some (p + 11 + 3 * j) else none))) (p + 12 + 3 * j) = some (.inr (0, [.ref (p + 13 + 3 * j), .int (nI 0)])) ∧ gRd (gWr (gWr (gWr (gWr (gXt M 3 28) (p + 11 + 3 * k) (.inr (1, [.ref (p + 11 + 3 * k + 1), .int 0]))) (p + 11 + 3 * k + 1) (.inr (0, [.ref (p + 11 + 3 * k + 2), .int (nI 0)]))) (p + 11 + 3 * k + 2) (aI G 24 (fun _ => 0))) (p + 6) (aQ G 3 4 (fun j => if j < (k + 1) then some (p + 11 + 3 * j) else none))) (p + 13 + 3 * j) = some (aI G 24 (fun _ => 0))) ∧ (∀ q, q < p + 11 → q ≠ (p + 6) → gRd (gWr (gWr (gWr (gWr (gXt M 3 28) (p + 11 + 3 * k) (.inr (1, [.ref (p + 11 + 3 * k + 1), .int 0]))) (p + 11 + 3 * k + 1) (.inr (0, [.ref (p + 11 + 3 * k + 2), .int (nI 0)]))) (p + 11 + 3 * k + 2) (aI G 24 (fun _ => 0))) (p + 6) (aQ G 3 4 (fun j => if j < (k + 1) then some (p + 11 + 3 * j) else none))) q = gRd M0 q) := by
      refine ⟨((gRd_n _ _ (by omega)).trans ((gRd_n _ _ (by omega)).trans ((gRd_n _ _ (by omega)).trans ((gRd_n _ _ (by omega)).trans (x1))))), (gRd_s _ _ _), by show (M.2.1 + 3, M.2.2 + 28) = _; rw [hb, hu]; rfl, fun j hj => ?_, fun q h1 h2 => ?_⟩
      · by_cases e1 : j = k
        · subst e1
          exact ⟨(by simp only [show p + 12 + 3 * j = p + 11 + 3 * j + 1 from by omega, show p + 13 + 3 * j = p + 11 + 3 * j + 2 from by omega]; exact ((gRd_n _ _ (by omega)).trans ((gRd_n _ _ (by omega)).trans ((gRd_n _ _ (by omega)).trans (gRd_s _ _ _))))), (by simp only [show p + 12 + 3 * j = p + 11 + 3 * j + 1 from by omega, show p + 13 + 3 * j = p + 11 + 3 * j + 2 from by omega]; exact ((gRd_n _ _ (by omega)).trans ((gRd_n _ _ (by omega)).trans (gRd_s _ _ _)))), (by simp only [show p + 12 + 3 * j = p + 11 + 3 * j + 1 from by omega, show p + 13 + 3 * j = p + 11 + 3 * j + 2 from by omega]; exact ((gRd_n _ _ (by omega)).trans (gRd_s _ _ _)))⟩
        · have x6 := x4 j (by omega)
          exact ⟨(gRd_n _ _ (by omega)).trans ((gRd_n _ _ (by omega)).trans ((gRd_n _ _ (by omega)).trans ((gRd_n _ _ (by omega)).trans (x6.1)))), (gRd_n _ _ (by omega)).trans ((gRd_n _ _ (by omega)).trans ((gRd_n _ _ (by omega)).trans ((gRd_n _ _ (by omega)).trans (x6.2.1)))), (gRd_n _ _ (by omega)).trans ((gRd_n _ _ (by omega)).trans ((gRd_n _ _ (by omega)).trans ((gRd_n _ _ (by omega)).trans (x6.2.2))))⟩
      · rw [gRd_n _ _ (by omega), gRd_n _ _ (by omega), gRd_n _ _ (by omega), gRd_n _ _ (by omega)]; exact x5 q h1 h2
    obtain ⟨M2, g2, v2⟩ := ih (k + 1) (gWr (gWr (gWr (gWr (gXt M 3 28) (p + 11 + 3 * k) (.inr (1, [.ref (p + 11 + 3 * k + 1), .int 0]))) (p + 11 + 3 * k + 1) (.inr (0, [.ref (p + 11 + 3 * k + 2), .int (nI 0)]))) (p + 11 + 3 * k + 2) (aI G 24 (fun _ => 0))) (p + 6) (aQ G 3 4 (fun j => if j < (k + 1) then some (p + 11 + 3 * j) else none))) (by omega) hv2
    refine ⟨M2, ?_, v2⟩
    refine Go.trp 46 (go_iload_n d_Exp_init_45 rfl 1 rfl) rfl ?_
    refine Go.trp 47 (go_iconst (v := 4) d_Exp_init_46 (by decide)) rfl ?_
    refine Go.trp 50 (go_icmp_ge_f 69 d_Exp_init_47 (by decide) (show ¬ nI 4 ≤ nI k from nI_ge (by omega) (by decide))) rfl ?_
    refine Go.trp 51 (go_aload_n d_Exp_init_50 rfl 0 rfl) rfl ?_
    refine Go.trp 54 (go_get f_Exp_11 d_Exp_init_51 (x1) rfl) rfl ?_
    refine Go.trp 55 (go_iload_n d_Exp_init_54 rfl 1 rfl) rfl ?_
    refine Go.trp 58 (go_new (ci := 1) (fs := [.null, .int 0]) rfl l_Mac t_Mac t_Mac_ok cl_Exp_9 ins_Mac ini_Mac (fun j hj => match j, hj with | 0, _ => rfl | 1, _ => rfl) d_Exp_init_55) rfl ?_
    refine (go_al (a := p + 11 + 3 * k) (M' := (gWr (gXt M 1 2) (p + 11 + 3 * k) (.inr (1, [.null, .int 0])))) (show M.2.1 + 0 = p + 11 + 3 * k from by omega) ((gNw_at (M := M) (show M.2.1 + 0 = p + 11 + 3 * k from by omega)).trans rfl)).tr ?_
    refine Go.trp 59 (go_dup d_Exp_init_58 rfl) rfl ?_
    refine Go.trp 62 (go_callI [] c0_Mac_init rfl rfl im_Mac_init lk_Exp_33 d_Exp_init_59 (e_Mac_init G (gWr (gXt M 1 2) (p + 11 + 3 * k) (.inr (1, [.null, .int 0]))) (p + 11 + 3 * k) (p + 11 + 3 * k + 1) (gRd_s _ _ _) (show M.2.1 + 1 = p + 11 + 3 * k + 1 from by omega) (by omega)) (by decide) rfl rfl (Nat.le_of_ble_eq_true rfl)) rfl ?_
    refine (go_m (M' := (gWr (gWr (gWr (gWr (gXt M 3 28) (p + 11 + 3 * k) (.inr (1, [.null, .int 0]))) (p + 11 + 3 * k) (.inr (1, [.ref (p + 11 + 3 * k + 1), .int 0]))) (p + 11 + 3 * k + 1) (.inr (0, [.ref (p + 11 + 3 * k + 2), .int (nI 0)]))) (p + 11 + 3 * k + 2) (aI G 24 (fun _ => 0)))) rfl).tr ?_
    refine (go_m (M' := (gWr (gWr (gWr (gXt M 3 28) (p + 11 + 3 * k) (.inr (1, [.ref (p + 11 + 3 * k + 1), .int 0]))) (p + 11 + 3 * k + 1) (.inr (0, [.ref (p + 11 + 3 * k + 2), .int (nI 0)]))) (p + 11 + 3 * k + 2) (aI G 24 (fun _ => 0)))) (congrArg (fun mZ => gWr mZ (p + 11 + 3 * k + 2) (aI G 24 (fun _ => 0))) (congrArg (fun mZ => gWr mZ (p + 11 + 3 * k + 1) (.inr (0, [.ref (p + 11 + 3 * k + 2), .int (nI 0)]))) (gWr_wr (gXt M 3 28) (p + 11 + 3 * k) (.inr (1, [.null, .int 0])) (.inr (1, [.ref (p + 11 + 3 * k + 1), .int 0])))))).tr ?_
    refine Go.trp 63 (go_aast (j := k) (r := (R_Mac, F_Mac, 2)) rfl rfl d_Exp_init_62 ((gRd_n _ _ (by omega)).trans ((gRd_n _ _ (by omega)).trans ((gRd_n _ _ (by omega)).trans (x2)))) ((gRd_n _ _ (by omega)).trans ((gRd_n _ _ (by omega)).trans (gRd_s _ _ _))) rfl (by omega) (by decide)) rfl ?_
    refine Go.trp 66 (go_inc1 (n0 := 1) (x := k) [(1, .int (nI (k + 1))), (0, .ref (p + 5))] d_Exp_init_63 rfl (by decide) rfl) rfl ?_
    refine (go_pick [1, 0] [(0, .ref (p + 5)), (1, .int (nI (k + 1)))] rfl).tr ?_
    refine Go.trp 45 (go_goto 45 d_Exp_init_66 (by decide)) rfl ?_
    refine (go_m (M' := (gWr (gWr (gWr (gWr (gXt M 3 28) (p + 11 + 3 * k) (.inr (1, [.ref (p + 11 + 3 * k + 1), .int 0]))) (p + 11 + 3 * k + 1) (.inr (0, [.ref (p + 11 + 3 * k + 2), .int (nI 0)]))) (p + 11 + 3 * k + 2) (aI G 24 (fun _ => 0))) (p + 6) (aQ G 3 4 (fun j => if j < (k + 1) then some (p + 11 + 3 * j) else none)))) (by rw [eQ])).tr ?_
    exact g2
theorem g_Hyp_init (G : gG) (M0 : gM) (p u : Nat) : ∀ (r k : Nat) (M : gM), k + r = 20 → (gRd M (p + 23) = some (.inr (5, [.ref (p + 24), .int 0, .ref (p + 25)])) ∧ gRd M (p + 24) = some (aQ G 4 20 (fun j => if j < k then some (p + 26 + 3 * j) else none)) ∧ M.2 = (p + 26 + 3 * k, u + 14 * k) ∧ (∀ j, j < k → gRd M (p + 26 + 3 * j) = some (.inr (4, [.ref (p + 27 + 3 * j), .ref (p + 28 + 3 * j), .int (nI 0)])) ∧ gRd M (p + 27 + 3 * j) = some (aI G 5 (fun _ => 0)) ∧ gRd M (p + 28 + 3 * j) = some (aI G 6 (fun _ => 0))) ∧ (∀ q, q < p + 26 → q ≠ (p + 24) → gRd M q = gRd M0 q)) → ∃ M2 : gM, Go G m_Hyp_init 2 (28, [(0, .ref (p + 23)), (1, .int (nI k))], [], M) (53, [(0, .ref (p + 23)), (1, .int (nI 20))], [], M2) ∧ (gRd M2 (p + 23) = some (.inr (5, [.ref (p + 24), .int 0, .ref (p + 25)])) ∧ gRd M2 (p + 24) = some (aQ G 4 20 (fun j => if j < 20 then some (p + 26 + 3 * j) else none)) ∧ M2.2 = (p + 26 + 3 * 20, u + 14 * 20) ∧ (∀ j, j < 20 → gRd M2 (p + 26 + 3 * j) = some (.inr (4, [.ref (p + 27 + 3 * j), .ref (p + 28 + 3 * j), .int (nI 0)])) ∧ gRd M2 (p + 27 + 3 * j) = some (aI G 5 (fun _ => 0)) ∧ gRd M2 (p + 28 + 3 * j) = some (aI G 6 (fun _ => 0))) ∧ (∀ q, q < p + 26 → q ≠ (p + 24) → gRd M2 q = gRd M0 q)) := by
  intro r
  induction r with
  | zero =>
    intro k M hk hv
    have ek : k = 20 := by omega
    subst ek
    refine ⟨M, ?_, hv⟩
    refine Go.trp 29 (go_iload_n d_Hyp_init_28 rfl 1 rfl) rfl ?_
    refine Go.trp 31 (go_bipush (v := 20) d_Hyp_init_29 (by decide)) rfl ?_
    refine Go.trp 53 (go_icmp_ge_t 53 d_Hyp_init_31 (by decide) (by decide)) rfl ?_
    exact Go.rf
  | succ r ih =>
    intro k M hk hv
    obtain ⟨x1, x2, x3, x4, x5⟩ := hv
    have hb : M.2.1 = p + 26 + 3 * k := by rw [x3]
    have hu : M.2.2 = u + 14 * k := by rw [x3]
    have eQ : va_up (fun j => if j < k then some (p + 26 + 3 * j) else none) k (some (p + 26 + 3 * k)) = (fun j => if j < k + 1 then some (p + 26 + 3 * j) else none) := by funext j; simp only [va_up]; by_cases e1 : j = k; (subst e1; rw [if_pos rfl, if_pos (by omega)]); by_cases e2 : j < k; (rw [if_neg e1, if_pos e2, if_pos (by omega)]); (rw [if_neg e1, if_neg e2, if_neg (by omega)])
    have hv2 : gRd (gWr (gWr (gWr (gWr (gXt M 3 14) (p + 26 + 3 * k) (.inr (4, [.ref (p + 26 + 3 * k + 1), .ref (p + 26 + 3 * k + 2), .int (nI 0)]))) (p + 26 + 3 * k + 1) (aI G 5 (fun _ => 0))) (p + 26 + 3 * k + 2) (aI G 6 (fun _ => 0))) (p + 24) (aQ G 4 20 (fun j => if j < (k + 1) then some (p + 26 + 3 * j) else none))) (p + 23) = some (.inr (5, [.ref (p + 24), .int 0, .ref (p + 25)])) ∧ gRd (gWr (gWr (gWr (gWr (gXt M 3 14) (p + 26 + 3 * k) (.inr (4, [.ref (p + 26 + 3 * k + 1), .ref (p + 26 + 3 * k + 2), .int (nI 0)]))) (p + 26 + 3 * k + 1) (aI G 5 (fun _ => 0))) (p + 26 + 3 * k + 2) (aI G 6 (fun _ => 0))) (p + 24) (aQ G 4 20 (fun j => if j < (k + 1) then some (p + 26 + 3 * j) else none))) (p + 24) = some (aQ G 4 20 (fun j => if j < (k + 1) then some (p + 26 + 3 * j) else none)) ∧ (gWr (gWr (gWr (gWr (gXt M 3 14) (p + 26 + 3 * k) (.inr (4, [.ref (p + 26 + 3 * k + 1), .ref (p + 26 + 3 * k + 2), .int (nI 0)]))) (p + 26 + 3 * k + 1) (aI G 5 (fun _ => 0))) (p + 26 + 3 * k + 2) (aI G 6 (fun _ => 0))) (p + 24) (aQ G 4 20 (fun j => if j < (k + 1) then some (p + 26 + 3 * j) else none))).2 = (p + 26 + 3 * ((k + 1)), u + 14 * ((k + 1))) ∧ (∀ j, j < ((k + 1)) → gRd (gWr (gWr (gWr (gWr (gXt M 3 14) (p + 26 + 3 * k) (.inr (4, [.ref (p + 26 + 3 * k + 1), .ref (p + 26 + 3 * k + 2), .int (nI 0)]))) (p + 26 + 3 * k + 1) (aI G 5 (fun _ => 0))) (p + 26 + 3 * k + 2) (aI G 6 (fun _ => 0))) (p + 24) (aQ G 4 20 (fun j => if j < (k + 1) then some (p + 26 + 3 * j) else none))) (p + 26 + 3 * j) = some (.inr (4, [.ref (p + 27 + 3 * j), .ref (p + 28 + 3 * j), .int (nI 0)])) ∧ gRd (gWr (gWr (gWr (gWr (gXt M 3 14) (p + 26 + 3 * k) (.inr (4, [.ref (p + 26 + 3 * k + 1), .ref (p + 26 + 3 * k + 2), .int (nI 0)]))) (p + 26 + 3 * k + 1) (aI G 5 (fun _ => 0))) (p + 26 + 3 * k + 2) (aI G 6 (fun _ => 0))) (p + 24) (aQ G 4 20 (fun j => if j < (k + 1) then some (p + 26 + 3 * j) else none))) (p + 27 + 3 * j) = some (aI G 5 (fun _ => 0)) ∧ gRd (gWr (gWr (gWr (gWr (gXt M 3 14) (p + 26 + 3 * k) (.inr (4, [.ref (p + 26 + 3 * k + 1), .ref (p + 26 + 3 * k + 2), .int (nI 0)]))) (p + 26 + 3 * k + 1) (aI G 5 (fun _ => 0))) (p + 26 + 3 * k + 2) (aI G 6 (fun _ => 0))) (p + 24) (aQ G 4 20 (fun j => if j < (k + 1) then some (p + 26 + 3 * j) else none))) (p + 28 + 3 * j) = some (aI G 6 (fun _ => 0))) ∧ (∀ q, q < p + 26 → q ≠ (p + 24) → gRd (gWr (gWr (gWr (gWr (gXt M 3 14) (p + 26 + 3 * k) (.inr (4, [.ref (p + 26 + 3 * k + 1), .ref (p + 26 + 3 * k + 2), .int (nI 0)]))) (p + 26 + 3 * k + 1) (aI G 5 (fun _ => 0))) (p + 26 + 3 * k + 2) (aI G 6 (fun _ => 0))) (p + 24) (aQ G 4 20 (fun j => if j < (k + 1) then some (p + 26 + 3 * j) else none))) q = gRd M0 q) := by
      refine ⟨((gRd_n _ _ (by omega)).trans ((gRd_n _ _ (by omega)).trans ((gRd_n _ _ (by omega)).trans ((gRd_n _ _ (by omega)).trans (x1))))), (gRd_s _ _ _), by show (M.2.1 + 3, M.2.2 + 14) = _; rw [hb, hu]; rfl, fun j hj => ?_, fun q h1 h2 => ?_⟩
      · by_cases e1 : j = k
        · subst e1
          exact ⟨(by simp only [show p + 27 + 3 * j = p + 26 + 3 * j + 1 from by omega, show p + 28 + 3 * j = p + 26 + 3 * j + 2 from by omega]; exact ((gRd_n _ _ (by omega)).trans ((gRd_n _ _ (by omega)).trans ((gRd_n _ _ (by omega)).trans (gRd_s _ _ _))))), (by simp only [show p + 27 + 3 * j = p + 26 + 3 * j + 1 from by omega, show p + 28 + 3 * j = p + 26 + 3 * j + 2 from by omega]; exact ((gRd_n _ _ (by omega)).trans ((gRd_n _ _ (by omega)).trans (gRd_s _ _ _)))), (by simp only [show p + 27 + 3 * j = p + 26 + 3 * j + 1 from by omega, show p + 28 + 3 * j = p + 26 + 3 * j + 2 from by omega]; exact ((gRd_n _ _ (by omega)).trans (gRd_s _ _ _)))⟩
        · have x6 := x4 j (by omega)
          exact ⟨(gRd_n _ _ (by omega)).trans ((gRd_n _ _ (by omega)).trans ((gRd_n _ _ (by omega)).trans ((gRd_n _ _ (by omega)).trans (x6.1)))), (gRd_n _ _ (by omega)).trans ((gRd_n _ _ (by omega)).trans ((gRd_n _ _ (by omega)).trans ((gRd_n _ _ (by omega)).trans (x6.2.1)))), (gRd_n _ _ (by omega)).trans ((gRd_n _ _ (by omega)).trans ((gRd_n _ _ (by omega)).trans ((gRd_n _ _ (by omega)).trans (x6.2.2))))⟩
      · rw [gRd_n _ _ (by omega), gRd_n _ _ (by omega), gRd_n _ _ (by omega), gRd_n _ _ (by omega)]; exact x5 q h1 h2
    obtain ⟨M2, g2, v2⟩ := ih (k + 1) (gWr (gWr (gWr (gWr (gXt M 3 14) (p + 26 + 3 * k) (.inr (4, [.ref (p + 26 + 3 * k + 1), .ref (p + 26 + 3 * k + 2), .int (nI 0)]))) (p + 26 + 3 * k + 1) (aI G 5 (fun _ => 0))) (p + 26 + 3 * k + 2) (aI G 6 (fun _ => 0))) (p + 24) (aQ G 4 20 (fun j => if j < (k + 1) then some (p + 26 + 3 * j) else none))) (by omega) hv2
    refine ⟨M2, ?_, v2⟩
    refine Go.trp 29 (go_iload_n d_Hyp_init_28 rfl 1 rfl) rfl ?_
    refine Go.trp 31 (go_bipush (v := 20) d_Hyp_init_29 (by decide)) rfl ?_
    refine Go.trp 34 (go_icmp_ge_f 53 d_Hyp_init_31 (by decide) (show ¬ nI 20 ≤ nI k from nI_ge (by omega) (by decide))) rfl ?_
    refine Go.trp 35 (go_aload_n d_Hyp_init_34 rfl 0 rfl) rfl ?_
    refine Go.trp 38 (go_get f_Hyp_11 d_Hyp_init_35 (x1) rfl) rfl ?_
    refine Go.trp 39 (go_iload_n d_Hyp_init_38 rfl 1 rfl) rfl ?_
    refine Go.trp 42 (go_new (ci := 4) (fs := [.null, .null, .int 0]) rfl l_Pat t_Pat t_Pat_ok cl_Hyp_9 ins_Pat ini_Pat (fun j hj => match j, hj with | 0, _ => rfl | 1, _ => rfl | 2, _ => rfl) d_Hyp_init_39) rfl ?_
    refine (go_al (a := p + 26 + 3 * k) (M' := (gWr (gXt M 1 3) (p + 26 + 3 * k) (.inr (4, [.null, .null, .int 0])))) (show M.2.1 + 0 = p + 26 + 3 * k from by omega) ((gNw_at (M := M) (show M.2.1 + 0 = p + 26 + 3 * k from by omega)).trans rfl)).tr ?_
    refine Go.trp 43 (go_dup d_Hyp_init_42 rfl) rfl ?_
    refine Go.trp 46 (go_callI [] c0_Pat_init rfl rfl im_Pat_init lk_Hyp_25 d_Hyp_init_43 (e_Pat_init G (gWr (gXt M 1 3) (p + 26 + 3 * k) (.inr (4, [.null, .null, .int 0]))) (p + 26 + 3 * k) (p + 26 + 3 * k + 1) (gRd_s _ _ _) (show M.2.1 + 1 = p + 26 + 3 * k + 1 from by omega) (by omega)) (by decide) rfl rfl (Nat.le_of_ble_eq_true rfl)) rfl ?_
    refine (go_m (M' := (gWr (gWr (gWr (gWr (gXt M 3 14) (p + 26 + 3 * k) (.inr (4, [.null, .null, .int 0]))) (p + 26 + 3 * k) (.inr (4, [.ref (p + 26 + 3 * k + 1), .ref (p + 26 + 3 * k + 2), .int (nI 0)]))) (p + 26 + 3 * k + 1) (aI G 5 (fun _ => 0))) (p + 26 + 3 * k + 2) (aI G 6 (fun _ => 0)))) rfl).tr ?_
    refine (go_m (M' := (gWr (gWr (gWr (gXt M 3 14) (p + 26 + 3 * k) (.inr (4, [.ref (p + 26 + 3 * k + 1), .ref (p + 26 + 3 * k + 2), .int (nI 0)]))) (p + 26 + 3 * k + 1) (aI G 5 (fun _ => 0))) (p + 26 + 3 * k + 2) (aI G 6 (fun _ => 0)))) (congrArg (fun mZ => gWr mZ (p + 26 + 3 * k + 2) (aI G 6 (fun _ => 0))) (congrArg (fun mZ => gWr mZ (p + 26 + 3 * k + 1) (aI G 5 (fun _ => 0))) (gWr_wr (gXt M 3 14) (p + 26 + 3 * k) (.inr (4, [.null, .null, .int 0])) (.inr (4, [.ref (p + 26 + 3 * k + 1), .ref (p + 26 + 3 * k + 2), .int (nI 0)])))))).tr ?_
    refine Go.trp 47 (go_aast (j := k) (r := (R_Pat, F_Pat, 3)) rfl rfl d_Hyp_init_46 ((gRd_n _ _ (by omega)).trans ((gRd_n _ _ (by omega)).trans ((gRd_n _ _ (by omega)).trans (x2)))) ((gRd_n _ _ (by omega)).trans ((gRd_n _ _ (by omega)).trans (gRd_s _ _ _))) rfl (by omega) (by decide)) rfl ?_
    refine Go.trp 50 (go_inc1 (n0 := 1) (x := k) [(1, .int (nI (k + 1))), (0, .ref (p + 23))] d_Hyp_init_47 rfl (by decide) rfl) rfl ?_
    refine (go_pick [1, 0] [(0, .ref (p + 23)), (1, .int (nI (k + 1)))] rfl).tr ?_
    refine Go.trp 28 (go_goto 28 d_Hyp_init_50 (by decide)) rfl ?_
    refine (go_m (M' := (gWr (gWr (gWr (gWr (gXt M 3 14) (p + 26 + 3 * k) (.inr (4, [.ref (p + 26 + 3 * k + 1), .ref (p + 26 + 3 * k + 2), .int (nI 0)]))) (p + 26 + 3 * k + 1) (aI G 5 (fun _ => 0))) (p + 26 + 3 * k + 2) (aI G 6 (fun _ => 0))) (p + 24) (aQ G 4 20 (fun j => if j < (k + 1) then some (p + 26 + 3 * j) else none)))) (by rw [eQ])).tr ?_
    exact g2
