def inF (b e : Nat) (c sg lv : Nat → Int32) (n : Nat) : Nat → Nat → (Nat → Int32) → Nat → Int32
  | 0, _, f => f
  | r + 1, A, f => inF b e c sg lv n r (A + 1) (if sdF b e c sg A n 0 = true then rsF b e lv A (n + 1) 0 f else f)
theorem g_Hyp_ww1 (G : gG) (M : gM) (h hp hl z ps pl n t tc ts tn : Nat) (hs : Int32) (sg lv c s : Nat → Int32) (b e : Nat) (x4 : Int32) (y1 : gRd M h = some (.inr (5, [.ref hp, .int hs, .ref hl]))) (p1 : gRd M z = some (.inr (4, [.ref ps, .ref pl, .int (nI n)]))) (p2 : gRd M ps = some (aI G 5 sg)) (p3 : gRd M pl = some (aI G 6 lv)) (hn1 : 1 ≤ n) (hn : n ≤ 5) (t1 : gRd M t = some (.inr (3, [.ref tc, .ref ts, .int (nI tn)]))) (t2 : gRd M tc = some (aI G 120 c)) (htn : tn ≤ 120) (z1 : h ≠ hl) (z2 : z ≠ hl) (z3 : ps ≠ hl) (z4 : pl ≠ hl) (z5 : t ≠ hl) (z6 : tc ≠ hl) (he : e ≤ tn) (hbe : b ≤ e) : ∀ (r A : Nat) (f : Nat → Int32), r = e + 3 - (A + n) → A ≤ 130 → Go G m_Hyp_weighWord 2 (26, [(0, .ref h), (1, .ref t), (2, .int (nI b)), (3, .int (nI e)), (4, .int x4), (5, .ref z), (6, .int (nI A - 1))], [], (gWr M hl (aI G 121 f))) (69, [(0, .ref h), (1, .ref t), (2, .int (nI b)), (3, .int (nI e)), (4, .int x4), (5, .ref z)], [], (gWr M hl (aI G 121 (inF b e c sg lv n r A f)))) := by
  intro r
  induction r with
  | zero =>
    intro A f hr hA
    refine Go.trp 28 (go_iload d_Hyp_weighWord_26 6 rfl) rfl ?_
    refine Go.trp 30 (go_aload d_Hyp_weighWord_28 5 rfl) rfl ?_
    refine Go.trp 33 (go_get f_Hyp_45 d_Hyp_weighWord_30 ((gRd_n _ _ z2).trans (p1)) rfl) rfl ?_
    refine Go.trp 34 (go_iadd d_Hyp_weighWord_33) rfl ?_
    refine (go_v (y := nI (A + n) - 1) (pm_add A n)).tr ?_
    refine Go.trp 35 (go_iconst (v := 1) d_Hyp_weighWord_34 (by decide)) rfl ?_
    refine Go.trp 36 (go_isub d_Hyp_weighWord_35) rfl ?_
    refine Go.trp 37 (go_iload_n d_Hyp_weighWord_36 rfl 3 rfl) rfl ?_
    refine Go.trp 69 (go_icmp_gt_t 69 d_Hyp_weighWord_37 (by decide) ((pm_g (by omega) (by omega) (by omega) hn1).mpr (by omega))) rfl ?_
    refine (go_pick [0, 1, 2, 3, 4, 5] [(0, .ref h), (1, .ref t), (2, .int (nI b)), (3, .int (nI e)), (4, .int x4), (5, .ref z)] rfl).tr ?_
    exact Go.rf
  | succ r ih =>
    intro A f hr hA
    refine Go.trp 28 (go_iload d_Hyp_weighWord_26 6 rfl) rfl ?_
    refine Go.trp 30 (go_aload d_Hyp_weighWord_28 5 rfl) rfl ?_
    refine Go.trp 33 (go_get f_Hyp_45 d_Hyp_weighWord_30 ((gRd_n _ _ z2).trans (p1)) rfl) rfl ?_
    refine Go.trp 34 (go_iadd d_Hyp_weighWord_33) rfl ?_
    refine (go_v (y := nI (A + n) - 1) (pm_add A n)).tr ?_
    refine Go.trp 35 (go_iconst (v := 1) d_Hyp_weighWord_34 (by decide)) rfl ?_
    refine Go.trp 36 (go_isub d_Hyp_weighWord_35) rfl ?_
    refine Go.trp 37 (go_iload_n d_Hyp_weighWord_36 rfl 3 rfl) rfl ?_
    refine Go.trp 40 (go_icmp_gt_f 69 d_Hyp_weighWord_37 (by decide) (fun q => absurd ((pm_g (by omega) (by omega) (by omega) hn1).mp q) (by omega))) rfl ?_
    refine Go.trp 42 (go_aload d_Hyp_weighWord_40 5 rfl) rfl ?_
    refine Go.trp 43 (go_aload_n d_Hyp_weighWord_42 rfl 1 rfl) rfl ?_
    refine Go.trp 45 (go_iload d_Hyp_weighWord_43 6 rfl) rfl ?_
    refine Go.trp 46 (go_iload_n d_Hyp_weighWord_45 rfl 2 rfl) rfl ?_
    refine Go.trp 47 (go_iload_n d_Hyp_weighWord_46 rfl 3 rfl) rfl ?_
    refine Go.trp 50 (go_callS [.ref z, .ref t, .int (nI A - 1), .int (nI b), .int (nI e)] [.int (bI (sdF b e c sg A n 0))] c0_Hyp_stands sm_Hyp_stands lk_Hyp_46 d_Hyp_weighWord_47 (e_Hyp_stands G _ z ps pl n t tc ts tn sg lv c s A b e ((gRd_n _ _ z2).trans (p1)) ((gRd_n _ _ z3).trans (p2)) ((gRd_n _ _ z4).trans (p3)) hn ((gRd_n _ _ z5).trans (t1)) ((gRd_n _ _ z6).trans (t2)) htn he hbe (by omega)) (by decide) rfl rfl (Nat.le_of_ble_eq_true rfl) rfl) rfl ?_
    by_cases c1 : (bI (sdF b e c sg A n 0)) = 0
    · have c1x : (sdF b e c sg A n 0) = false := bI_0.mp c1
      refine Go.trp 63 (go_if_eq_t 63 d_Hyp_weighWord_50 (by decide) (c1)) rfl ?_
      refine Go.trp 66 (go_iinc (n0 := 6) (v := nI (A + 1) - 1) [(6, .int (nI (A + 1) - 1)), (0, .ref h), (1, .ref t), (2, .int (nI b)), (3, .int (nI e)), (4, .int x4), (5, .ref z)] d_Hyp_weighWord_63 rfl (by rw [ofInt1]; exact pm_i A) (by decide) rfl) rfl ?_
      refine (go_pick [1, 2, 3, 4, 5, 6, 0] [(0, .ref h), (1, .ref t), (2, .int (nI b)), (3, .int (nI e)), (4, .int x4), (5, .ref z), (6, .int (nI (A + 1) - 1))] rfl).tr ?_
      refine Go.trp 26 (go_goto 26 d_Hyp_weighWord_66 (by decide)) rfl ?_
      rw [show (inF b e c sg lv n (r + 1) A f) = (inF b e c sg lv n r (A + 1) f) from by rw [inF, if_neg (fun q => by rw [‹sdF b e c sg A n 0 = false›] at q; cases q)]]
      exact ih (A + 1) _ (by omega) (by omega)
    · have c1x : (sdF b e c sg A n 0) = true := bI_n0.mp c1
      refine Go.trp 53 (go_if_eq_f 63 d_Hyp_weighWord_50 (by decide) (c1)) rfl ?_
      refine Go.trp 54 (go_aload_n d_Hyp_weighWord_53 rfl 0 rfl) rfl ?_
      refine Go.trp 56 (go_aload d_Hyp_weighWord_54 5 rfl) rfl ?_
      refine Go.trp 58 (go_iload d_Hyp_weighWord_56 6 rfl) rfl ?_
      refine Go.trp 59 (go_iload_n d_Hyp_weighWord_58 rfl 2 rfl) rfl ?_
      refine Go.trp 60 (go_iload_n d_Hyp_weighWord_59 rfl 3 rfl) rfl ?_
      refine Go.trp 63 (go_callV [.ref z, .int (nI A - 1), .int (nI b), .int (nI e)] [] c0_Hyp_raise im_Hyp_raise se_Hyp_raise lk_Hyp_50 d_Hyp_weighWord_60 rfl rfl ((gRd_n _ _ z1).trans (y1)) (e_Hyp_raise G M h hp hl z ps pl n hs sg lv A b e f y1 p1 p3 hn z1 z2 z4 (by omega) hbe (by omega)) (by decide) rfl rfl (Nat.le_of_ble_eq_true rfl) rfl) rfl ?_
      refine Go.trp 66 (go_iinc (n0 := 6) (v := nI (A + 1) - 1) [(6, .int (nI (A + 1) - 1)), (0, .ref h), (1, .ref t), (2, .int (nI b)), (3, .int (nI e)), (4, .int x4), (5, .ref z)] d_Hyp_weighWord_63 rfl (by rw [ofInt1]; exact pm_i A) (by decide) rfl) rfl ?_
      refine (go_pick [1, 2, 3, 4, 5, 6, 0] [(0, .ref h), (1, .ref t), (2, .int (nI b)), (3, .int (nI e)), (4, .int x4), (5, .ref z), (6, .int (nI (A + 1) - 1))] rfl).tr ?_
      refine Go.trp 26 (go_goto 26 d_Hyp_weighWord_66 (by decide)) rfl ?_
      rw [show (inF b e c sg lv n (r + 1) A f) = (inF b e c sg lv n r (A + 1) (rsF b e lv A (n + 1) 0 f)) from by rw [inF, if_pos (by assumption)]]
      exact ih (A + 1) _ (by omega) (by omega)
/-- the patterns of a hyphenator: m of them in the cells pa, pas, pal -/
def PatsAt (G : gG) (M : gM) (hl m : Nat) (pf : Nat → Option Nat) (pa pas pal pn : Nat → Nat) (psg plv : Nat → Nat → Int32) : Prop := m ≤ 20 ∧ ∀ p, p < m → pf p = some (pa p) ∧ gRd M (pa p) = some (.inr (4, [.ref (pas p), .ref (pal p), .int (nI (pn p))])) ∧ gRd M (pas p) = some (aI G 5 (psg p)) ∧ gRd M (pal p) = some (aI G 6 (plv p)) ∧ 1 ≤ pn p ∧ pn p ≤ 5 ∧ pa p ≠ hl ∧ pas p ≠ hl ∧ pal p ≠ hl
def wwF (b e : Nat) (c : Nat → Int32) (pn : Nat → Nat) (psg plv : Nat → Nat → Int32) : Nat → (Nat → Int32) → Nat → Int32
  | 0, f => f
  | p + 1, f => inF b e c (psg p) (plv p) (pn p) (e + 3 - (b + pn p)) b (wwF b e c pn psg plv p f)
theorem g_Hyp_ww2 (G : gG) (M : gM) (h hp hl m t tc ts tn : Nat) (pf : Nat → Option Nat) (pa pas pal pn : Nat → Nat) (psg plv : Nat → Nat → Int32) (c s : Nat → Int32) (b e : Nat) (f : Nat → Int32) (y1 : gRd M h = some (.inr (5, [.ref hp, .int (nI m), .ref hl]))) (y2 : gRd M hp = some (aQ G 4 20 pf)) (hp9 : PatsAt G M hl m pf pa pas pal pn psg plv) (t1 : gRd M t = some (.inr (3, [.ref tc, .ref ts, .int (nI tn)]))) (t2 : gRd M tc = some (aI G 120 c)) (htn : tn ≤ 120) (z1 : h ≠ hl) (z0 : hp ≠ hl) (z5 : t ≠ hl) (z6 : tc ≠ hl) (he : e ≤ tn) (hbe : b ≤ e) : ∀ r k : Nat, k + r = m → Go G m_Hyp_weighWord 2 (3, [(0, .ref h), (1, .ref t), (2, .int (nI b)), (3, .int (nI e)), (4, .int (nI k))], [], (gWr M hl (aI G 121 (wwF b e c pn psg plv k f)))) (75, [(0, .ref h), (1, .ref t), (2, .int (nI b)), (3, .int (nI e)), (4, .int (nI m))], [], (gWr M hl (aI G 121 (wwF b e c pn psg plv m f)))) := by
  have hm := hp9.1
  intro r
  induction r with
  | zero =>
    intro k hk
    rw [show k = m from by omega]
    refine Go.trp 5 (go_iload d_Hyp_weighWord_3 4 rfl) rfl ?_
    refine Go.trp 6 (go_aload_n d_Hyp_weighWord_5 rfl 0 rfl) rfl ?_
    refine Go.trp 9 (go_get f_Hyp_17 d_Hyp_weighWord_6 ((gRd_n _ _ z1).trans (y1)) rfl) rfl ?_
    refine Go.trp 75 (go_icmp_ge_t 75 d_Hyp_weighWord_9 (by decide) (nI_le (Nat.le_refl m) (by omega))) rfl ?_
    exact Go.rf
  | succ r ih =>
    intro k hk
    obtain ⟨q0, q1, q2, q3, q4, q5, q6, q7, q8⟩ := hp9.2 k (by omega)
    refine Go.trp 5 (go_iload d_Hyp_weighWord_3 4 rfl) rfl ?_
    refine Go.trp 6 (go_aload_n d_Hyp_weighWord_5 rfl 0 rfl) rfl ?_
    refine Go.trp 9 (go_get f_Hyp_17 d_Hyp_weighWord_6 ((gRd_n _ _ z1).trans (y1)) rfl) rfl ?_
    refine Go.trp 12 (go_icmp_ge_f 75 d_Hyp_weighWord_9 (by decide) (nI_ge (by omega) (by omega))) rfl ?_
    refine Go.trp 13 (go_aload_n d_Hyp_weighWord_12 rfl 0 rfl) rfl ?_
    refine Go.trp 16 (go_get f_Hyp_11 d_Hyp_weighWord_13 ((gRd_n _ _ z1).trans (y1)) rfl) rfl ?_
    refine Go.trp 18 (go_iload d_Hyp_weighWord_16 4 rfl) rfl ?_
    refine Go.trp 19 (go_aald (j := k) (C := "ParagraphSetter$Pattern") rfl d_Hyp_weighWord_18 ((gRd_n _ _ z0).trans (y2)) (rfl) (by omega) (by decide)) rfl ?_
    refine (go_rf (y := pa k) (q0)).tr ?_
    refine Go.trp 21 (go_astore [(5, .ref (pa k)), (0, .ref h), (1, .ref t), (2, .int (nI b)), (3, .int (nI e)), (4, .int (nI k))] d_Hyp_weighWord_19 (by decide) rfl) rfl ?_
    refine (go_pick [1, 2, 3, 4, 5, 0] [(0, .ref h), (1, .ref t), (2, .int (nI b)), (3, .int (nI e)), (4, .int (nI k)), (5, .ref (pa k))] rfl).tr ?_
    refine Go.trp 22 (go_iload_n d_Hyp_weighWord_21 rfl 2 rfl) rfl ?_
    refine Go.trp 23 (go_iconst (v := 1) d_Hyp_weighWord_22 (by decide)) rfl ?_
    refine Go.trp 24 (go_isub d_Hyp_weighWord_23) rfl ?_
    refine (go_v (y := nI b - 1) (rfl)).tr ?_
    refine Go.trp 26 (go_istore [(6, .int (nI b - 1)), (0, .ref h), (1, .ref t), (2, .int (nI b)), (3, .int (nI e)), (4, .int (nI k)), (5, .ref (pa k))] d_Hyp_weighWord_24 (by decide) rfl) rfl ?_
    refine (go_pick [1, 2, 3, 4, 5, 6, 0] [(0, .ref h), (1, .ref t), (2, .int (nI b)), (3, .int (nI e)), (4, .int (nI k)), (5, .ref (pa k)), (6, .int (nI b - 1))] rfl).tr ?_
    refine (g_Hyp_ww1 G M h hp hl (pa k) (pas k) (pal k) (pn k) t tc ts tn (nI m) (psg k) (plv k) c s b e (nI k) y1 q1 q2 q3 q4 q5 t1 t2 htn z1 q6 q7 q8 z5 z6 he hbe _ b (wwF b e c pn psg plv k f) rfl (by omega)).tr ?_
    refine Go.trp 72 (go_inc1 (n0 := 4) (x := k) [(4, .int (nI (k + 1))), (0, .ref h), (1, .ref t), (2, .int (nI b)), (3, .int (nI e)), (5, .ref (pa k))] d_Hyp_weighWord_69 rfl (by decide) rfl) rfl ?_
    refine (go_pick [1, 2, 3, 4, 0, 5] [(0, .ref h), (1, .ref t), (2, .int (nI b)), (3, .int (nI e)), (4, .int (nI (k + 1))), (5, .ref (pa k))] rfl).tr ?_
    refine Go.trp 3 (go_goto 3 d_Hyp_weighWord_72 (by decide)) rfl ?_
    refine (go_pick [0, 1, 2, 3, 4] [(0, .ref h), (1, .ref t), (2, .int (nI b)), (3, .int (nI e)), (4, .int (nI (k + 1)))] rfl).tr ?_
    exact ih (k + 1) (by omega)
theorem e_Hyp_weighWord (G : gG) (M : gM) (h hp hl m t tc ts tn : Nat) (pf : Nat → Option Nat) (pa pas pal pn : Nat → Nat) (psg plv : Nat → Nat → Int32) (c s : Nat → Int32) (b e : Nat) (f : Nat → Int32) (y1 : gRd M h = some (.inr (5, [.ref hp, .int (nI m), .ref hl]))) (y2 : gRd M hp = some (aQ G 4 20 pf)) (hp9 : PatsAt G M hl m pf pa pas pal pn psg plv) (t1 : gRd M t = some (.inr (3, [.ref tc, .ref ts, .int (nI tn)]))) (t2 : gRd M tc = some (aI G 120 c)) (htn : tn ≤ 120) (z1 : h ≠ hl) (z0 : hp ≠ hl) (z5 : t ≠ hl) (z6 : tc ≠ hl) (he : e ≤ tn) (hbe : b ≤ e) : Ev G 2 m_Hyp_weighWord [.ref h, .ref t, .int (nI b), .int (nI e)] (gWr M hl (aI G 121 f)) none (gWr M hl (aI G 121 (wwF b e c pn psg plv m f))) := by
  refine Ev.of (Nat.le_of_ble_eq_true rfl) ?_
  show EvF G 2 m_Hyp_weighWord (0, [(0, .ref h), (1, .ref t), (2, .int (nI b)), (3, .int (nI e))], [], (gWr M hl (aI G 121 f))) _ _
  refine EvF.gop 1 (go_iconst (v := nI 0) d_Hyp_weighWord_0 (rfl)) rfl ?_
  refine EvF.gop 3 (go_istore [(4, .int (nI 0)), (0, .ref h), (1, .ref t), (2, .int (nI b)), (3, .int (nI e))] d_Hyp_weighWord_1 (by decide) rfl) rfl ?_
  refine EvF.go (go_pick [1, 2, 3, 4, 0] [(0, .ref h), (1, .ref t), (2, .int (nI b)), (3, .int (nI e)), (4, .int (nI 0))] rfl) ?_
  refine EvF.go (g_Hyp_ww2 G M h hp hl m t tc ts tn pf pa pas pal pn psg plv c s b e f y1 y2 hp9 t1 t2 htn z1 z0 z5 z6 he hbe m 0 (by omega)) ?_
  exact EvF.rv d_Hyp_weighWord_75 rfl rfl
def wgF (tn : Nat) (c : Nat → Int32) (m : Nat) (pn : Nat → Nat) (psg plv : Nat → Nat → Int32) : Nat → Nat → Nat → (Nat → Int32) → Nat → Int32
  | 0, _, _, f => f
  | r + 1, k, b, f => if (decide (k < tn) && cLet (c k)) = true then wgF tn c m pn psg plv r (k + 1) b f else wgF tn c m pn psg plv r (k + 1) (k + 1) (wwF b k c pn psg plv m f)
theorem g_Hyp_wg1 (G : gG) (M : gM) (h hp hl m t tc ts tn : Nat) (pf : Nat → Option Nat) (pa pas pal pn : Nat → Nat) (psg plv : Nat → Nat → Int32) (c s : Nat → Int32) (f : Nat → Int32) (y1 : gRd M h = some (.inr (5, [.ref hp, .int (nI m), .ref hl]))) (y2 : gRd M hp = some (aQ G 4 20 pf)) (hp9 : PatsAt G M hl m pf pa pas pal pn psg plv) (t1 : gRd M t = some (.inr (3, [.ref tc, .ref ts, .int (nI tn)]))) (t2 : gRd M tc = some (aI G 120 c)) (t3 : gRd M ts = some (aI G 120 s)) (hcs : tc ≠ ts) (z7 : ts ≠ hl) (htn : tn ≤ 120) (z1 : h ≠ hl) (z0 : hp ≠ hl) (z5 : t ≠ hl) (z6 : tc ≠ hl) : ∀ r k : Nat, k + r = 121 → Go G m_Hyp_weigh 3 (2, [(0, .ref h), (1, .ref t), (2, .int (nI k))], [], (gWr M hl (aI G 121 (cpI (fun _ => nI 0) k f)))) (21, [(0, .ref h), (1, .ref t), (2, .int (nI 121))], [], (gWr M hl (aI G 121 (cpI (fun _ => nI 0) 121 f)))) := by
  intro r
  induction r with
  | zero =>
    intro k hk
    rw [show k = 121 from by omega]
    refine Go.trp 3 (go_iload_n d_Hyp_weigh_2 rfl 2 rfl) rfl ?_
    refine Go.trp 5 (go_bipush (v := nI 120) d_Hyp_weigh_3 (rfl)) rfl ?_
    refine Go.trp 21 (go_icmp_gt_t 21 d_Hyp_weigh_5 (by decide) (nI_lt (by decide) (by decide))) rfl ?_
    exact Go.rf
  | succ r ih =>
    intro k hk
    refine Go.trp 3 (go_iload_n d_Hyp_weigh_2 rfl 2 rfl) rfl ?_
    refine Go.trp 5 (go_bipush (v := nI 120) d_Hyp_weigh_3 (rfl)) rfl ?_
    refine Go.trp 8 (go_icmp_gt_f 21 d_Hyp_weigh_5 (by decide) (nI_nlt (by omega) (by omega))) rfl ?_
    refine Go.trp 9 (go_aload_n d_Hyp_weigh_8 rfl 0 rfl) rfl ?_
    refine Go.trp 12 (go_get f_Hyp_21 d_Hyp_weigh_9 ((gRd_n _ _ z1).trans (y1)) rfl) rfl ?_
    refine Go.trp 13 (go_iload_n d_Hyp_weigh_12 rfl 2 rfl) rfl ?_
    refine Go.trp 14 (go_iconst (v := nI 0) d_Hyp_weigh_13 (rfl)) rfl ?_
    refine Go.trp 15 (go_iast (j := k) d_Hyp_weigh_14 (gRd_s _ _ _) (rfl) (by omega) (by omega)) rfl ?_
    refine (go_m (M' := (gWr M hl (aI G 121 (upd (cpI (fun _ => nI 0) k f) k (nI 0))))) (gWr_wr M hl (aI G 121 (cpI (fun _ => nI 0) k f)) (aI G 121 (upd (cpI (fun _ => nI 0) k f) k (nI 0))))).tr ?_
    refine Go.trp 18 (go_inc1 (n0 := 2) (x := k) [(2, .int (nI (k + 1))), (0, .ref h), (1, .ref t)] d_Hyp_weigh_15 rfl (by decide) rfl) rfl ?_
    refine (go_pick [1, 2, 0] [(0, .ref h), (1, .ref t), (2, .int (nI (k + 1)))] rfl).tr ?_
    refine Go.trp 2 (go_goto 2 d_Hyp_weigh_18 (by decide)) rfl ?_
    rw [cpI_s (fun _ => nI 0) k f]
    exact ih (k + 1) (by omega)
theorem g_Hyp_wg2 (G : gG) (M : gM) (h hp hl m t tc ts tn : Nat) (pf : Nat → Option Nat) (pa pas pal pn : Nat → Nat) (psg plv : Nat → Nat → Int32) (c s : Nat → Int32) (y1 : gRd M h = some (.inr (5, [.ref hp, .int (nI m), .ref hl]))) (y2 : gRd M hp = some (aQ G 4 20 pf)) (hp9 : PatsAt G M hl m pf pa pas pal pn psg plv) (t1 : gRd M t = some (.inr (3, [.ref tc, .ref ts, .int (nI tn)]))) (t2 : gRd M tc = some (aI G 120 c)) (t3 : gRd M ts = some (aI G 120 s)) (hcs : tc ≠ ts) (z7 : ts ≠ hl) (htn : tn ≤ 120) (z1 : h ≠ hl) (z0 : hp ≠ hl) (z5 : t ≠ hl) (z6 : tc ≠ hl) : ∀ (r k : Nat) (b : Nat) (f : Nat → Int32), k + r = (tn + 1) → b ≤ k → EvF G 3 m_Hyp_weigh (25, [(0, .ref h), (1, .ref t), (2, .int (nI b)), (3, .int (nI k))], [], (gWr M hl (aI G 121 f))) none (gWr M hl (aI G 121 (wgF tn c m pn psg plv r k b f))) := by
  intro r
  induction r with
  | zero =>
    intro k b f hk hbk
    refine EvF.gop 26 (go_iload_n d_Hyp_weigh_25 rfl 3 rfl) rfl ?_
    refine EvF.gop 27 (go_aload_n d_Hyp_weigh_26 rfl 1 rfl) rfl ?_
    refine EvF.gop 30 (go_get f_Hyp_34 d_Hyp_weigh_27 ((gRd_n _ _ z5).trans (t1)) rfl) rfl ?_
    refine EvF.gop 58 (go_icmp_gt_t 58 d_Hyp_weigh_30 (by decide) (nI_lt (by omega) (by omega))) rfl ?_
    exact EvF.rv d_Hyp_weigh_58 rfl (rfl)
  | succ r ih =>
    intro k b f hk hbk
    refine EvF.gop 26 (go_iload_n d_Hyp_weigh_25 rfl 3 rfl) rfl ?_
    refine EvF.gop 27 (go_aload_n d_Hyp_weigh_26 rfl 1 rfl) rfl ?_
    refine EvF.gop 30 (go_get f_Hyp_34 d_Hyp_weigh_27 ((gRd_n _ _ z5).trans (t1)) rfl) rfl ?_
    refine EvF.gop 33 (go_icmp_gt_f 58 d_Hyp_weigh_30 (by decide) (nI_nlt (by omega) (by omega))) rfl ?_
    refine EvF.gop 34 (go_aload_n d_Hyp_weigh_33 rfl 1 rfl) rfl ?_
    refine EvF.gop 35 (go_iload_n d_Hyp_weigh_34 rfl 3 rfl) rfl ?_
    refine EvF.gop 38 (go_callV [.int (nI k)] [.int (bI (decide (k < tn) && cLet (c k)))] c0_Txt_isLetterAt im_Txt_isLetterAt se_Txt_isLetterAt lk_Hyp_37 d_Hyp_weigh_35 rfl rfl ((gRd_n _ _ z5).trans (t1)) (e_Txt_isLetterAt G _ t tc ts tn c s k ((gRd_n _ _ z5).trans (t1)) ((gRd_n _ _ z6).trans (t2)) ((gRd_n _ _ z7).trans (t3)) hcs htn (by omega)) (by decide) rfl rfl (Nat.le_of_ble_eq_true rfl) rfl) rfl ?_
    by_cases c1 : (bI (decide (k < tn) && cLet (c k))) = 0
    · have c1x : (decide (k < tn) && cLet (c k)) = false := bI_0.mp c1
      refine EvF.gop 41 (go_if_ne_f 52 d_Hyp_weigh_38 (by decide) (c1)) rfl ?_
      refine EvF.gop 42 (go_aload_n d_Hyp_weigh_41 rfl 0 rfl) rfl ?_
      refine EvF.gop 43 (go_aload_n d_Hyp_weigh_42 rfl 1 rfl) rfl ?_
      refine EvF.gop 44 (go_iload_n d_Hyp_weigh_43 rfl 2 rfl) rfl ?_
      refine EvF.gop 45 (go_iload_n d_Hyp_weigh_44 rfl 3 rfl) rfl ?_
      refine EvF.gop 48 (go_callV [.ref t, .int (nI b), .int (nI k)] [] c0_Hyp_weighWord im_Hyp_weighWord se_Hyp_weighWord lk_Hyp_41 d_Hyp_weigh_45 rfl rfl ((gRd_n _ _ z1).trans (y1)) (e_Hyp_weighWord G M h hp hl m t tc ts tn pf pa pas pal pn psg plv c s b k f y1 y2 hp9 t1 t2 htn z1 z0 z5 z6 (by omega) hbk) (by decide) rfl rfl (Nat.le_of_ble_eq_true rfl) rfl) rfl ?_
      refine EvF.gop 49 (go_iload_n d_Hyp_weigh_48 rfl 3 rfl) rfl ?_
      refine EvF.gop 50 (go_iconst (v := 1) d_Hyp_weigh_49 (by decide)) rfl ?_
      refine EvF.gop 51 (go_iadd d_Hyp_weigh_50) rfl ?_
      refine EvF.go (go_v (y := nI (k + 1)) (nI_1 k)) ?_
      refine EvF.gop 52 (go_istore_n [(2, .int (nI (k + 1))), (0, .ref h), (1, .ref t), (3, .int (nI k))] d_Hyp_weigh_51 rfl (by decide) rfl) rfl ?_
      refine EvF.go (go_pick [1, 2, 0, 3] [(0, .ref h), (1, .ref t), (2, .int (nI (k + 1))), (3, .int (nI k))] rfl) ?_
      refine EvF.gop 55 (go_inc1 (n0 := 3) (x := k) [(3, .int (nI (k + 1))), (0, .ref h), (1, .ref t), (2, .int (nI (k + 1)))] d_Hyp_weigh_52 rfl (by decide) rfl) rfl ?_
      refine EvF.go (go_pick [1, 2, 3, 0] [(0, .ref h), (1, .ref t), (2, .int (nI (k + 1))), (3, .int (nI (k + 1)))] rfl) ?_
      refine EvF.gop 25 (go_goto 25 d_Hyp_weigh_55 (by decide)) rfl ?_
      rw [show (wgF tn c m pn psg plv (r + 1) k b f) = (wgF tn c m pn psg plv r (k + 1) (k + 1) (wwF b k c pn psg plv m f)) from by rw [wgF, if_neg (fun q => by rw [‹(decide (k < tn) && cLet (c k)) = false›] at q; cases q)]]
      exact ih (k + 1) _ _ (by omega) (by omega)
    · have c1x : (decide (k < tn) && cLet (c k)) = true := bI_n0.mp c1
      refine EvF.gop 52 (go_if_ne_t 52 d_Hyp_weigh_38 (by decide) (c1)) rfl ?_
      refine EvF.gop 55 (go_inc1 (n0 := 3) (x := k) [(3, .int (nI (k + 1))), (0, .ref h), (1, .ref t), (2, .int (nI b))] d_Hyp_weigh_52 rfl (by decide) rfl) rfl ?_
      refine EvF.go (go_pick [1, 2, 3, 0] [(0, .ref h), (1, .ref t), (2, .int (nI b)), (3, .int (nI (k + 1)))] rfl) ?_
      refine EvF.gop 25 (go_goto 25 d_Hyp_weigh_55 (by decide)) rfl ?_
      rw [show (wgF tn c m pn psg plv (r + 1) k b f) = (wgF tn c m pn psg plv r (k + 1) b f) from by rw [wgF, if_pos (by assumption)]]
      exact ih (k + 1) _ _ (by omega) (by omega)
theorem e_Hyp_weigh (G : gG) (M : gM) (h hp hl m t tc ts tn : Nat) (pf : Nat → Option Nat) (pa pas pal pn : Nat → Nat) (psg plv : Nat → Nat → Int32) (c s : Nat → Int32) (f : Nat → Int32) (y1 : gRd M h = some (.inr (5, [.ref hp, .int (nI m), .ref hl]))) (y2 : gRd M hp = some (aQ G 4 20 pf)) (hp9 : PatsAt G M hl m pf pa pas pal pn psg plv) (t1 : gRd M t = some (.inr (3, [.ref tc, .ref ts, .int (nI tn)]))) (t2 : gRd M tc = some (aI G 120 c)) (t3 : gRd M ts = some (aI G 120 s)) (hcs : tc ≠ ts) (z7 : ts ≠ hl) (htn : tn ≤ 120) (z1 : h ≠ hl) (z0 : hp ≠ hl) (z5 : t ≠ hl) (z6 : tc ≠ hl) (y3 : gRd M hl = some (aI G 121 f)) : Ev G 3 m_Hyp_weigh [.ref h, .ref t] M none (gWr M hl (aI G 121 (wgF tn c m pn psg plv (tn + 1) 0 0 (cpI (fun _ => nI 0) 121 f)))) := by
  refine Ev.of (Nat.le_of_ble_eq_true rfl) ?_
  show EvF G 3 m_Hyp_weigh (0, [(0, .ref h), (1, .ref t)], [], M) _ _
  refine EvF.gop 1 (go_iconst (v := nI 0) d_Hyp_weigh_0 (rfl)) rfl ?_
  refine EvF.gop 2 (go_istore_n [(2, .int (nI 0)), (0, .ref h), (1, .ref t)] d_Hyp_weigh_1 rfl (by decide) rfl) rfl ?_
  refine EvF.go (go_pick [1, 2, 0] [(0, .ref h), (1, .ref t), (2, .int (nI 0))] rfl) ?_
  refine EvF.go (go_m (M' := (gWr M hl (aI G 121 f))) (gWr_id (y3)).symm) ?_
  refine EvF.go (go_m (M' := (gWr M hl (aI G 121 (cpI (fun _ => nI 0) 0 f)))) (by rw [cpI_0])) ?_
  refine EvF.go (g_Hyp_wg1 G M h hp hl m t tc ts tn pf pa pas pal pn psg plv c s f y1 y2 hp9 t1 t2 t3 hcs z7 htn z1 z0 z5 z6 121 0 rfl) ?_
  refine EvF.gop 22 (go_iconst (v := nI 0) d_Hyp_weigh_21 (rfl)) rfl ?_
  refine EvF.gop 23 (go_istore_n [(2, .int (nI 0)), (0, .ref h), (1, .ref t)] d_Hyp_weigh_22 rfl (by decide) rfl) rfl ?_
  refine EvF.go (go_pick [1, 2, 0] [(0, .ref h), (1, .ref t), (2, .int (nI 0))] rfl) ?_
  refine EvF.gop 24 (go_iconst (v := nI 0) d_Hyp_weigh_23 (rfl)) rfl ?_
  refine EvF.gop 25 (go_istore_n [(3, .int (nI 0)), (0, .ref h), (1, .ref t), (2, .int (nI 0))] d_Hyp_weigh_24 rfl (by decide) rfl) rfl ?_
  refine EvF.go (go_pick [1, 2, 3, 0] [(0, .ref h), (1, .ref t), (2, .int (nI 0)), (3, .int (nI 0))] rfl) ?_
  exact g_Hyp_wg2 G M h hp hl m t tc ts tn pf pa pas pal pn psg plv c s y1 y2 hp9 t1 t2 t3 hcs z7 htn z1 z0 z5 z6 (tn + 1) 0 0 _ (by omega) (Nat.le_refl 0)
/-- isFull -/
theorem e_Hyp_isFull (G : gG) (M : gM) (h hp hl m : Nat) (y1 : gRd M h = some (.inr (5, [.ref hp, .int (nI m), .ref hl]))) (hm : m ≤ 20) : Ev G 0 m_Hyp_isFull [.ref h] M (some (.int (bI (decide (m = 20))))) M := by
  refine Ev.of (Nat.le_of_ble_eq_true rfl) ?_
  show EvF G 0 m_Hyp_isFull (0, [(0, .ref h)], [], M) _ _
  refine EvF.gop 1 (go_aload_n d_Hyp_isFull_0 rfl 0 rfl) rfl ?_
  refine EvF.gop 4 (go_get f_Hyp_17 d_Hyp_isFull_1 (y1) rfl) rfl ?_
  refine EvF.gop 6 (go_bipush (v := 20) d_Hyp_isFull_4 (by decide)) rfl ?_
  by_cases c1 : (nI m) = 20
  · have c1x : m = 20 := (nI_eq (a := m) (b := 20) (by omega) (by decide)).mp c1
    refine EvF.gop 9 (go_icmp_ne_f 13 d_Hyp_isFull_6 (by decide) (c1)) rfl ?_
    refine EvF.gop 10 (go_iconst (v := 1) d_Hyp_isFull_9 (by decide)) rfl ?_
    refine EvF.gop 14 (go_goto 14 d_Hyp_isFull_10 (by decide)) rfl ?_
    exact EvF.rz d_Hyp_isFull_14 rfl (by decide) (by simp [bI, *]) (rfl)
  · have c1x : ¬ m = 20 := fun q9 => c1 ((nI_eq (a := m) (b := 20) (by omega) (by decide)).mpr q9)
    refine EvF.gop 13 (go_icmp_ne_t 13 d_Hyp_isFull_6 (by decide) (c1)) rfl ?_
    refine EvF.gop 14 (go_iconst (v := 0) d_Hyp_isFull_13 (by decide)) rfl ?_
    exact EvF.rz d_Hyp_isFull_14 rfl (by decide) (by simp [bI, *]) (rfl)
