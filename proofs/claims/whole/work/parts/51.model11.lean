abbrev mV : Type := Int32 × Int32 × Int32 × Int32 × Int32
def nbF (K : Nat → Int32) : Nat → Nat → Bool
  | 0, _ => true
  | r + 1, k => if K k = 3 then false else nbF K r (k + 1)
def fsF (ci : Nat → Int32) : Nat → Nat → Nat
  | 0, f => f
  | r + 1, f => if ci f = 32 then fsF ci r (f + 1) else f
theorem fsF_le (ci : Nat → Int32) : ∀ r f, fsF ci r f ≤ f + r ∧ f ≤ fsF ci r f
  | 0, f => ⟨Nat.le_refl _, Nat.le_refl _⟩
  | r + 1, f => by
    have := fsF_le ci r (f + 1)
    unfold fsF
    split
    · omega
    · omega
def msS (wt ci si : Nat → Int32) (k : Nat) (T : Int32 × Bool × Int32 × Int32) : Int32 × Bool × Int32 × Int32 :=
  if cSpc (ci k) = true then (T.1 + si k, T.2.1, T.2.2.1 + (si k + 1) / 2, T.2.2.2 + si k / 3) else (T.1 + wt (ci k).toNatClampNeg, true, T.2.2.1, T.2.2.2)
def msF (wt ci si : Nat → Int32) : Nat → Nat → Int32 × Bool × Int32 × Int32 → Int32 × Bool × Int32 × Int32
  | 0, _, T => T
  | r + 1, k, T => msF wt ci si r (k + 1) (msS wt ci si k T)
def cu (x : Int64) : Int64 := x * x * x
def mdG (kj p1 str shr : Int32) (d v1 v2 : Int64) : Bool × Int32 :=
  if 0 < lg_cmp d 0 ∧ kj < 3 then
    (if str = 0 then (false, 0) else if 0 < lg_cmp v1 p1.toInt64 then (false, 0) else (decide (v1.toInt32 ≤ p1), v1.toInt32))
  else if lg_cmp d 0 < 0 then
    (if 0 < lg_cmp (-d) shr.toInt64 then (false, 0) else (decide (v2.toInt32 ≤ p1), v2.toInt32))
  else (decide (0 ≤ p1), 0)
def mdD (kj p0 p1 nat str shr : Int32) : Bool × Int32 := mdG kj p1 str shr (p0 - nat).toInt64 (100 * (p0 - nat).toInt64 * (p0 - nat).toInt64 * (p0 - nat).toInt64 / (str.toInt64 * str.toInt64 * str.toInt64)) (-100 * (p0 - nat).toInt64 * (p0 - nat).toInt64 * (p0 - nat).toInt64 / (shr.toInt64 * shr.toInt64 * shr.toInt64))
def mdF (kj p0 p1 f nat str shr : Int32) : Bool × mV := ((mdD kj p0 p1 nat str shr).1, (f, nat, str, shr, (mdD kj p0 p1 nat str shr).2))
theorem shr_ne {x y : Int32} (h : lg_cmp x.toInt64 0 < 0) (h2 : ¬ 0 < lg_cmp (-x.toInt64) y.toInt64) : ¬ y = 0 := by
  intro e
  subst e
  have hx := Int32.toInt_lt x
  have hy := Int32.le_toInt x
  have e1 : (x.toInt64).toInt = x.toInt := Int32.toInt_toInt64 x
  have h1 : (x.toInt64).toInt < (0 : Int64).toInt := by
    have := (not_congr (lg_cmp_ge x.toInt64 0)).mp (Int32.not_le.mpr h)
    exact Int64.lt_iff_toInt_lt.mp (Int64.not_le.mp this)
  rw [e1, show (0 : Int64).toInt = 0 from rfl] at h1
  have e2 : (-x.toInt64).toInt = -x.toInt := by
    rw [Int64.toInt_neg, e1]
    exact Int.bmod_eq_of_le (by omega) (by omega)
  have h3 : ¬ (0 : Int64) < -x.toInt64 := fun q => h2 (by
    have : lg_cmp (-x.toInt64) (0 : Int32).toInt64 = 1 := if_pos q
    rw [this]; decide)
  rw [Int64.lt_iff_toInt_lt, e2, show (0 : Int64).toInt = 0 from rfl] at h3
  omega
theorem g_Mod_me1 (G : gG) (M : gM) (A : Nat) (a : Nat → Nat) (s : Nat → Int32) (c : Int64) (wt PP ci si K E B : Nat → Int32) (i j e g n : Nat) (hI : InjA A a) (m2 : gRd M (a 2) = some (aI G 128 wt)) (m3 : gRd M (a 3) = some (aI G 5 PP)) (m17 : gRd M (a 17) = some (aI G 120 ci)) (m18 : gRd M (a 18) = some (aI G 120 si)) (m25 : gRd M (a 25) = some (aI G 26 K)) (m26 : gRd M (a 26) = some (aI G 26 E)) (m27 : gRd M (a 27) = some (aI G 26 B)) (hi : i < j) (hj : j ≤ 24) (hE : E j = nI e) (hB : B i = nI g) (he : e ≤ n) (hg : g ≤ 120) (hn : n ≤ 120) (hc : ∀ k, k < n → ci k = nI (ci k).toNatClampNeg ∧ (ci k).toNatClampNeg < 128) (V : mV) : ∀ r k : Nat, k + r = j → nbF K r k = true → Go G m_Mod_measure 0 (4, [(0, .ref A), (1, .int (nI i)), (2, .int (nI j)), (3, .int (nI k))], [], (gWr M A (.inr (11, oMod a (upd (upd (upd (upd (upd s 33 V.1) 34 V.2.1) 35 V.2.2.1) 36 V.2.2.2.1) 37 V.2.2.2.2) c)))) (27, [(0, .ref A), (1, .int (nI i)), (2, .int (nI j))], [], (gWr M A (.inr (11, oMod a (upd (upd (upd (upd (upd s 33 V.1) 34 V.2.1) 35 V.2.2.1) 36 V.2.2.2.1) 37 V.2.2.2.2) c)))) := by
  intro r
  induction r with
  | zero =>
    intro k hk hb
    rw [show k = j from by omega]
    refine Go.trp 5 (go_iload_n d_Mod_measure_4 rfl 3 rfl) rfl ?_
    refine Go.trp 6 (go_iload_n d_Mod_measure_5 rfl 2 rfl) rfl ?_
    refine Go.trp 27 (go_icmp_ge_t 27 d_Mod_measure_6 (by decide) (nI_le (Nat.le_refl _) (by omega))) rfl ?_
    refine (go_pick [0, 1, 2] [(0, .ref A), (1, .int (nI i)), (2, .int (nI j))] rfl).tr ?_
    exact Go.rf
  | succ r ih =>
    intro k hk hb
    have h3 : ¬ K k = 3 := fun q => by rw [show nbF K (r + 1) k = false from if_pos q] at hb; cases hb
    rw [show nbF K (r + 1) k = nbF K r (k + 1) from if_neg h3] at hb
    refine Go.trp 5 (go_iload_n d_Mod_measure_4 rfl 3 rfl) rfl ?_
    refine Go.trp 6 (go_iload_n d_Mod_measure_5 rfl 2 rfl) rfl ?_
    refine Go.trp 9 (go_icmp_ge_f 27 d_Mod_measure_6 (by decide) (nI_ge (by omega) (by omega))) rfl ?_
    refine Go.trp 10 (go_aload_n d_Mod_measure_9 rfl 0 rfl) rfl ?_
    refine Go.trp 13 (go_get f_Mod_65 d_Mod_measure_10 (gRd_s _ _ _) rfl) rfl ?_
    refine Go.trp 14 (go_iload_n d_Mod_measure_13 rfl 3 rfl) rfl ?_
    refine Go.trp 15 (go_iald (j := k) d_Mod_measure_14 ((gRd_n _ _ (Ne.symm (hI.2 25))).trans (m25)) (rfl) (by omega) (by omega)) rfl ?_
    refine Go.trp 16 (go_iconst (v := 3) d_Mod_measure_15 (by decide)) rfl ?_
    refine Go.trp 21 (go_icmp_ne_t 21 d_Mod_measure_16 (by decide) (h3)) rfl ?_
    refine Go.trp 24 (go_inc1 (n0 := 3) (x := k) [(3, .int (nI (k + 1))), (0, .ref A), (1, .int (nI i)), (2, .int (nI j))] d_Mod_measure_21 rfl (by decide) rfl) rfl ?_
    refine (go_pick [1, 2, 3, 0] [(0, .ref A), (1, .int (nI i)), (2, .int (nI j)), (3, .int (nI (k + 1)))] rfl).tr ?_
    refine Go.trp 4 (go_goto 4 d_Mod_measure_24 (by decide)) rfl ?_
    exact ih (k + 1) (by omega) hb
theorem g_Mod_me1F (G : gG) (M : gM) (A : Nat) (a : Nat → Nat) (s : Nat → Int32) (c : Int64) (wt PP ci si K E B : Nat → Int32) (i j e g n : Nat) (hI : InjA A a) (m2 : gRd M (a 2) = some (aI G 128 wt)) (m3 : gRd M (a 3) = some (aI G 5 PP)) (m17 : gRd M (a 17) = some (aI G 120 ci)) (m18 : gRd M (a 18) = some (aI G 120 si)) (m25 : gRd M (a 25) = some (aI G 26 K)) (m26 : gRd M (a 26) = some (aI G 26 E)) (m27 : gRd M (a 27) = some (aI G 26 B)) (hi : i < j) (hj : j ≤ 24) (hE : E j = nI e) (hB : B i = nI g) (he : e ≤ n) (hg : g ≤ 120) (hn : n ≤ 120) (hc : ∀ k, k < n → ci k = nI (ci k).toNatClampNeg ∧ (ci k).toNatClampNeg < 128) (V : mV) : ∀ r k : Nat, k + r = j → nbF K r k = false → EvF G 0 m_Mod_measure (4, [(0, .ref A), (1, .int (nI i)), (2, .int (nI j)), (3, .int (nI k))], [], (gWr M A (.inr (11, oMod a (upd (upd (upd (upd (upd s 33 V.1) 34 V.2.1) 35 V.2.2.1) 36 V.2.2.2.1) 37 V.2.2.2.2) c)))) (some (.int 0)) (gWr M A (.inr (11, oMod a (upd (upd (upd (upd (upd s 33 V.1) 34 V.2.1) 35 V.2.2.1) 36 V.2.2.2.1) 37 V.2.2.2.2) c))) := by
  intro r
  induction r with
  | zero =>
    intro k hk hb
    cases hb
  | succ r ih =>
    intro k hk hb
    by_cases h3 : K k = 3
    · refine EvF.gop 5 (go_iload_n d_Mod_measure_4 rfl 3 rfl) rfl ?_
      refine EvF.gop 6 (go_iload_n d_Mod_measure_5 rfl 2 rfl) rfl ?_
      refine EvF.gop 9 (go_icmp_ge_f 27 d_Mod_measure_6 (by decide) (nI_ge (by omega) (by omega))) rfl ?_
      refine EvF.gop 10 (go_aload_n d_Mod_measure_9 rfl 0 rfl) rfl ?_
      refine EvF.gop 13 (go_get f_Mod_65 d_Mod_measure_10 (gRd_s _ _ _) rfl) rfl ?_
      refine EvF.gop 14 (go_iload_n d_Mod_measure_13 rfl 3 rfl) rfl ?_
      refine EvF.gop 15 (go_iald (j := k) d_Mod_measure_14 ((gRd_n _ _ (Ne.symm (hI.2 25))).trans (m25)) (rfl) (by omega) (by omega)) rfl ?_
      refine EvF.gop 16 (go_iconst (v := 3) d_Mod_measure_15 (by decide)) rfl ?_
      refine EvF.gop 19 (go_icmp_ne_f 21 d_Mod_measure_16 (by decide) (h3)) rfl ?_
      refine EvF.gop 20 (go_iconst (v := 0) d_Mod_measure_19 (by decide)) rfl ?_
      exact EvF.rz d_Mod_measure_20 rfl (by decide) (rfl) (rfl)
    · refine EvF.gop 5 (go_iload_n d_Mod_measure_4 rfl 3 rfl) rfl ?_
      refine EvF.gop 6 (go_iload_n d_Mod_measure_5 rfl 2 rfl) rfl ?_
      refine EvF.gop 9 (go_icmp_ge_f 27 d_Mod_measure_6 (by decide) (nI_ge (by omega) (by omega))) rfl ?_
      refine EvF.gop 10 (go_aload_n d_Mod_measure_9 rfl 0 rfl) rfl ?_
      refine EvF.gop 13 (go_get f_Mod_65 d_Mod_measure_10 (gRd_s _ _ _) rfl) rfl ?_
      refine EvF.gop 14 (go_iload_n d_Mod_measure_13 rfl 3 rfl) rfl ?_
      refine EvF.gop 15 (go_iald (j := k) d_Mod_measure_14 ((gRd_n _ _ (Ne.symm (hI.2 25))).trans (m25)) (rfl) (by omega) (by omega)) rfl ?_
      refine EvF.gop 16 (go_iconst (v := 3) d_Mod_measure_15 (by decide)) rfl ?_
      refine EvF.gop 21 (go_icmp_ne_t 21 d_Mod_measure_16 (by decide) (h3)) rfl ?_
      refine EvF.gop 24 (go_inc1 (n0 := 3) (x := k) [(3, .int (nI (k + 1))), (0, .ref A), (1, .int (nI i)), (2, .int (nI j))] d_Mod_measure_21 rfl (by decide) rfl) rfl ?_
      refine EvF.go (go_pick [1, 2, 3, 0] [(0, .ref A), (1, .int (nI i)), (2, .int (nI j)), (3, .int (nI (k + 1)))] rfl) ?_
      refine EvF.gop 4 (go_goto 4 d_Mod_measure_24 (by decide)) rfl ?_
      rw [show nbF K (r + 1) k = nbF K r (k + 1) from if_neg h3] at hb
      exact ih (k + 1) (by omega) hb
theorem g_Mod_me2 (G : gG) (M : gM) (A : Nat) (a : Nat → Nat) (s : Nat → Int32) (c : Int64) (wt PP ci si K E B : Nat → Int32) (i j e g n : Nat) (hI : InjA A a) (m2 : gRd M (a 2) = some (aI G 128 wt)) (m3 : gRd M (a 3) = some (aI G 5 PP)) (m17 : gRd M (a 17) = some (aI G 120 ci)) (m18 : gRd M (a 18) = some (aI G 120 si)) (m25 : gRd M (a 25) = some (aI G 26 K)) (m26 : gRd M (a 26) = some (aI G 26 E)) (m27 : gRd M (a 27) = some (aI G 26 B)) (hi : i < j) (hj : j ≤ 24) (hE : E j = nI e) (hB : B i = nI g) (he : e ≤ n) (hg : g ≤ 120) (hn : n ≤ 120) (hc : ∀ k, k < n → ci k = nI (ci k).toNatClampNeg ∧ (ci k).toNatClampNeg < 128) (V : mV) : ∀ r f : Nat, r = e - f → f ≤ 120 → Go G m_Mod_measure 0 (37, [(0, .ref A), (1, .int (nI i)), (2, .int (nI j))], [], (gWr M A (.inr (11, oMod a (upd (upd (upd (upd (upd s 33 (nI f)) 34 V.2.1) 35 V.2.2.1) 36 V.2.2.2.1) 37 V.2.2.2.2) c)))) (77, [(0, .ref A), (1, .int (nI i)), (2, .int (nI j))], [], (gWr M A (.inr (11, oMod a (upd (upd (upd (upd (upd s 33 (nI (fsF ci r f))) 34 V.2.1) 35 V.2.2.1) 36 V.2.2.2.1) 37 V.2.2.2.2) c)))) := by
  intro r
  induction r with
  | zero =>
    intro f hr hf
    refine Go.trp 38 (go_aload_n d_Mod_measure_37 rfl 0 rfl) rfl ?_
    refine Go.trp 41 (go_get f_Mod_170 d_Mod_measure_38 (gRd_s _ _ _) rfl) rfl ?_
    refine Go.trp 42 (go_aload_n d_Mod_measure_41 rfl 0 rfl) rfl ?_
    refine Go.trp 45 (go_get f_Mod_68 d_Mod_measure_42 (gRd_s _ _ _) rfl) rfl ?_
    refine Go.trp 46 (go_iload_n d_Mod_measure_45 rfl 2 rfl) rfl ?_
    refine Go.trp 47 (go_iald (j := j) d_Mod_measure_46 ((gRd_n _ _ (Ne.symm (hI.2 26))).trans (m26)) (rfl) (by omega) (by omega)) rfl ?_
    refine (go_v (y := nI e) (hE)).tr ?_
    refine Go.trp 77 (go_icmp_ge_t 77 d_Mod_measure_47 (by decide) (nI_le (by omega) (by omega))) rfl ?_
    exact Go.rf
  | succ r ih =>
    intro f hr hf
    refine Go.trp 38 (go_aload_n d_Mod_measure_37 rfl 0 rfl) rfl ?_
    refine Go.trp 41 (go_get f_Mod_170 d_Mod_measure_38 (gRd_s _ _ _) rfl) rfl ?_
    refine Go.trp 42 (go_aload_n d_Mod_measure_41 rfl 0 rfl) rfl ?_
    refine Go.trp 45 (go_get f_Mod_68 d_Mod_measure_42 (gRd_s _ _ _) rfl) rfl ?_
    refine Go.trp 46 (go_iload_n d_Mod_measure_45 rfl 2 rfl) rfl ?_
    refine Go.trp 47 (go_iald (j := j) d_Mod_measure_46 ((gRd_n _ _ (Ne.symm (hI.2 26))).trans (m26)) (rfl) (by omega) (by omega)) rfl ?_
    refine (go_v (y := nI e) (hE)).tr ?_
    refine Go.trp 50 (go_icmp_ge_f 77 d_Mod_measure_47 (by decide) (nI_ge (by omega) (by omega))) rfl ?_
    refine Go.trp 51 (go_aload_n d_Mod_measure_50 rfl 0 rfl) rfl ?_
    refine Go.trp 54 (go_get f_Mod_46 d_Mod_measure_51 (gRd_s _ _ _) rfl) rfl ?_
    refine Go.trp 55 (go_aload_n d_Mod_measure_54 rfl 0 rfl) rfl ?_
    refine Go.trp 58 (go_get f_Mod_170 d_Mod_measure_55 (gRd_s _ _ _) rfl) rfl ?_
    refine Go.trp 59 (go_iald (j := f) d_Mod_measure_58 ((gRd_n _ _ (Ne.symm (hI.2 17))).trans (m17)) (rfl) (by omega) (by omega)) rfl ?_
    refine Go.trp 61 (go_bipush (v := 32) d_Mod_measure_59 (by decide)) rfl ?_
    by_cases c1 : (ci f) = 32
    · refine Go.trp 64 (go_icmp_ne_f 77 d_Mod_measure_61 (by decide) (c1)) rfl ?_
      refine Go.trp 65 (go_aload_n d_Mod_measure_64 rfl 0 rfl) rfl ?_
      refine Go.trp 66 (go_dup d_Mod_measure_65 rfl) rfl ?_
      refine Go.trp 69 (go_get f_Mod_170 d_Mod_measure_66 (gRd_s _ _ _) rfl) rfl ?_
      refine Go.trp 70 (go_iconst (v := 1) d_Mod_measure_69 (by decide)) rfl ?_
      refine Go.trp 71 (go_iadd d_Mod_measure_70) rfl ?_
      refine (go_v (y := nI (f + 1)) (nI_add f 1)).tr ?_
      refine Go.trp 74 (go_put (oMod a (upd (upd (upd (upd (upd s 33 (nI (f + 1))) 34 V.2.1) 35 V.2.2.1) 36 V.2.2.2.1) 37 V.2.2.2.2) c) f_Mod_170 ft_Mod_33 d_Mod_measure_71 (gRd_s _ _ _) rfl rfl (Nat.le_of_ble_eq_true rfl) rfl) rfl ?_
      refine (go_m (M' := (gWr M A (.inr (11, oMod a (upd (upd (upd (upd (upd s 33 (nI (f + 1))) 34 V.2.1) 35 V.2.2.1) 36 V.2.2.2.1) 37 V.2.2.2.2) c)))) (gWr_wr M A (.inr (11, oMod a (upd (upd (upd (upd (upd s 33 (nI f)) 34 V.2.1) 35 V.2.2.1) 36 V.2.2.2.1) 37 V.2.2.2.2) c)) (.inr (11, oMod a (upd (upd (upd (upd (upd s 33 (nI (f + 1))) 34 V.2.1) 35 V.2.2.1) 36 V.2.2.2.1) 37 V.2.2.2.2) c)))).tr ?_
      refine Go.trp 37 (go_goto 37 d_Mod_measure_74 (by decide)) rfl ?_
      rw [show fsF ci (r + 1) f = fsF ci r (f + 1) from if_pos (by assumption)]
      exact ih (f + 1) (by omega) (by omega)
    · refine Go.trp 77 (go_icmp_ne_t 77 d_Mod_measure_61 (by decide) (c1)) rfl ?_
      rw [show fsF ci (r + 1) f = f from if_neg (by assumption)]
      exact Go.rf
theorem g_Mod_me3 (G : gG) (M : gM) (A : Nat) (a : Nat → Nat) (s : Nat → Int32) (c : Int64) (wt PP ci si K E B : Nat → Int32) (i j e g n : Nat) (hI : InjA A a) (m2 : gRd M (a 2) = some (aI G 128 wt)) (m3 : gRd M (a 3) = some (aI G 5 PP)) (m17 : gRd M (a 17) = some (aI G 120 ci)) (m18 : gRd M (a 18) = some (aI G 120 si)) (m25 : gRd M (a 25) = some (aI G 26 K)) (m26 : gRd M (a 26) = some (aI G 26 E)) (m27 : gRd M (a 27) = some (aI G 26 B)) (hi : i < j) (hj : j ≤ 24) (hE : E j = nI e) (hB : B i = nI g) (he : e ≤ n) (hg : g ≤ 120) (hn : n ≤ 120) (hc : ∀ k, k < n → ci k = nI (ci k).toNatClampNeg ∧ (ci k).toNatClampNeg < 128) (f : Nat) : ∀ (r k : Nat) (T : Int32 × Bool × Int32 × Int32), r = e - k → k ≤ 120 → Go G m_Mod_measure 0 (125, [(0, .ref A), (1, .int (nI i)), (2, .int (nI j)), (3, .int (bI T.2.1)), (4, .int (nI k))], [], (gWr M A (.inr (11, oMod a (upd (upd (upd (upd (upd s 33 (nI f)) 34 T.1) 35 T.2.2.1) 36 T.2.2.2) 37 0) c)))) (256, [(0, .ref A), (1, .int (nI i)), (2, .int (nI j)), (3, .int (bI (msF wt ci si r k T).2.1))], [], (gWr M A (.inr (11, oMod a (upd (upd (upd (upd (upd s 33 (nI f)) 34 ((msF wt ci si r k T).1)) 35 ((msF wt ci si r k T).2.2.1)) 36 ((msF wt ci si r k T).2.2.2)) 37 0) c)))) := by
  intro r
  induction r with
  | zero =>
    intro k T hr hk
    refine Go.trp 127 (go_iload d_Mod_measure_125 4 rfl) rfl ?_
    refine Go.trp 128 (go_aload_n d_Mod_measure_127 rfl 0 rfl) rfl ?_
    refine Go.trp 131 (go_get f_Mod_68 d_Mod_measure_128 (gRd_s _ _ _) rfl) rfl ?_
    refine Go.trp 132 (go_iload_n d_Mod_measure_131 rfl 2 rfl) rfl ?_
    refine Go.trp 133 (go_iald (j := j) d_Mod_measure_132 ((gRd_n _ _ (Ne.symm (hI.2 26))).trans (m26)) (rfl) (by omega) (by omega)) rfl ?_
    refine (go_v (y := nI e) (hE)).tr ?_
    refine Go.trp 256 (go_icmp_ge_t 256 d_Mod_measure_133 (by decide) (nI_le (by omega) (by omega))) rfl ?_
    refine (go_pick [0, 1, 2, 3] [(0, .ref A), (1, .int (nI i)), (2, .int (nI j)), (3, .int (bI T.2.1))] rfl).tr ?_
    exact Go.rf
  | succ r ih =>
    intro k T hr hk
    have hck := hc k (by omega)
    rw [show msF wt ci si (r + 1) k T = msF wt ci si r (k + 1) (msS wt ci si k T) from rfl]
    refine Go.trp 127 (go_iload d_Mod_measure_125 4 rfl) rfl ?_
    refine Go.trp 128 (go_aload_n d_Mod_measure_127 rfl 0 rfl) rfl ?_
    refine Go.trp 131 (go_get f_Mod_68 d_Mod_measure_128 (gRd_s _ _ _) rfl) rfl ?_
    refine Go.trp 132 (go_iload_n d_Mod_measure_131 rfl 2 rfl) rfl ?_
    refine Go.trp 133 (go_iald (j := j) d_Mod_measure_132 ((gRd_n _ _ (Ne.symm (hI.2 26))).trans (m26)) (rfl) (by omega) (by omega)) rfl ?_
    refine (go_v (y := nI e) (hE)).tr ?_
    refine Go.trp 136 (go_icmp_ge_f 256 d_Mod_measure_133 (by decide) (nI_ge (by omega) (by omega))) rfl ?_
    refine Go.trp 137 (go_aload_n d_Mod_measure_136 rfl 0 rfl) rfl ?_
    refine Go.trp 140 (go_get f_Mod_49 d_Mod_measure_137 (gRd_s _ _ _) rfl) rfl ?_
    refine Go.trp 142 (go_iload d_Mod_measure_140 4 rfl) rfl ?_
    refine Go.trp 143 (go_iald (j := k) d_Mod_measure_142 ((gRd_n _ _ (Ne.symm (hI.2 18))).trans (m18)) (rfl) (by omega) (by omega)) rfl ?_
    refine Go.trp 145 (go_istore [(5, .int (si k)), (0, .ref A), (1, .int (nI i)), (2, .int (nI j)), (3, .int (bI T.2.1)), (4, .int (nI k))] d_Mod_measure_143 (by decide) rfl) rfl ?_
    refine (go_pick [1, 2, 3, 4, 5, 0] [(0, .ref A), (1, .int (nI i)), (2, .int (nI j)), (3, .int (bI T.2.1)), (4, .int (nI k)), (5, .int (si k))] rfl).tr ?_
    refine Go.trp 146 (go_aload_n d_Mod_measure_145 rfl 0 rfl) rfl ?_
    refine Go.trp 149 (go_get f_Mod_46 d_Mod_measure_146 (gRd_s _ _ _) rfl) rfl ?_
    refine Go.trp 151 (go_iload d_Mod_measure_149 4 rfl) rfl ?_
    refine Go.trp 152 (go_iald (j := k) d_Mod_measure_151 ((gRd_n _ _ (Ne.symm (hI.2 17))).trans (m17)) (rfl) (by omega) (by omega)) rfl ?_
    refine Go.trp 154 (go_bipush (v := 32) d_Mod_measure_152 (by decide)) rfl ?_
    by_cases c1 : (ci k) = 32
    · refine Go.trp 169 (go_icmp_eq_t 169 d_Mod_measure_154 (by decide) (c1)) rfl ?_
      refine Go.trp 170 (go_iconst (v := 1) d_Mod_measure_169 (by decide)) rfl ?_
      refine Go.trp 174 (go_goto 174 d_Mod_measure_170 (by decide)) rfl ?_
      refine Go.trp 176 (go_istore [(6, .int 1), (0, .ref A), (1, .int (nI i)), (2, .int (nI j)), (3, .int (bI T.2.1)), (4, .int (nI k)), (5, .int (si k))] d_Mod_measure_174 (by decide) rfl) rfl ?_
      refine (go_pick [1, 2, 3, 4, 5, 6, 0] [(0, .ref A), (1, .int (nI i)), (2, .int (nI j)), (3, .int (bI T.2.1)), (4, .int (nI k)), (5, .int (si k)), (6, .int 1)] rfl).tr ?_
      refine Go.trp 177 (go_aload_n d_Mod_measure_176 rfl 0 rfl) rfl ?_
      refine Go.trp 178 (go_dup d_Mod_measure_177 rfl) rfl ?_
      refine Go.trp 181 (go_get f_Mod_173 d_Mod_measure_178 (gRd_s _ _ _) rfl) rfl ?_
      refine Go.trp 183 (go_iload d_Mod_measure_181 6 rfl) rfl ?_
      refine Go.trp 186 (go_if_eq_f 191 d_Mod_measure_183 (by decide) (by decide)) rfl ?_
      refine Go.trp 188 (go_iload d_Mod_measure_186 5 rfl) rfl ?_
      refine Go.trp 203 (go_goto 203 d_Mod_measure_188 (by decide)) rfl ?_
      refine Go.trp 204 (go_iadd d_Mod_measure_203) rfl ?_
      refine Go.trp 207 (go_put (oMod a (upd (upd (upd (upd (upd s 33 (nI f)) 34 (T.1 + (si k))) 35 T.2.2.1) 36 T.2.2.2) 37 0) c) f_Mod_173 ft_Mod_34 d_Mod_measure_204 (gRd_s _ _ _) rfl rfl (Nat.le_of_ble_eq_true rfl) rfl) rfl ?_
      refine (go_m (M' := (gWr M A (.inr (11, oMod a (upd (upd (upd (upd (upd s 33 (nI f)) 34 (T.1 + (si k))) 35 T.2.2.1) 36 T.2.2.2) 37 0) c)))) (gWr_wr M A (.inr (11, oMod a (upd (upd (upd (upd (upd s 33 (nI f)) 34 T.1) 35 T.2.2.1) 36 T.2.2.2) 37 0) c)) (.inr (11, oMod a (upd (upd (upd (upd (upd s 33 (nI f)) 34 (T.1 + (si k))) 35 T.2.2.1) 36 T.2.2.2) 37 0) c)))).tr ?_
      refine Go.trp 209 (go_iload d_Mod_measure_207 6 rfl) rfl ?_
      refine Go.trp 214 (go_if_ne_t 214 d_Mod_measure_209 (by decide) (by decide)) rfl ?_
      refine Go.trp 216 (go_iload d_Mod_measure_214 6 rfl) rfl ?_
      refine Go.trp 222 (go_if_ne_t 222 d_Mod_measure_216 (by decide) (by decide)) rfl ?_
      refine Go.trp 223 (go_aload_n d_Mod_measure_222 rfl 0 rfl) rfl ?_
      refine Go.trp 224 (go_dup d_Mod_measure_223 rfl) rfl ?_
      refine Go.trp 227 (go_get f_Mod_182 d_Mod_measure_224 (gRd_s _ _ _) rfl) rfl ?_
      refine Go.trp 229 (go_iload d_Mod_measure_227 5 rfl) rfl ?_
      refine Go.trp 230 (go_iconst (v := 1) d_Mod_measure_229 (by decide)) rfl ?_
      refine Go.trp 231 (go_iadd d_Mod_measure_230) rfl ?_
      refine Go.trp 232 (go_iconst (v := 2) d_Mod_measure_231 (by decide)) rfl ?_
      refine Go.trp 233 (go_idiv d_Mod_measure_232 (by decide)) rfl ?_
      refine Go.trp 234 (go_iadd d_Mod_measure_233) rfl ?_
      refine Go.trp 237 (go_put (oMod a (upd (upd (upd (upd (upd s 33 (nI f)) 34 (T.1 + (si k))) 35 (T.2.2.1 + (((si k) + 1) / 2))) 36 T.2.2.2) 37 0) c) f_Mod_182 ft_Mod_35 d_Mod_measure_234 (gRd_s _ _ _) rfl rfl (Nat.le_of_ble_eq_true rfl) rfl) rfl ?_
      refine (go_m (M' := (gWr M A (.inr (11, oMod a (upd (upd (upd (upd (upd s 33 (nI f)) 34 (T.1 + (si k))) 35 (T.2.2.1 + (((si k) + 1) / 2))) 36 T.2.2.2) 37 0) c)))) (gWr_wr M A (.inr (11, oMod a (upd (upd (upd (upd (upd s 33 (nI f)) 34 (T.1 + (si k))) 35 T.2.2.1) 36 T.2.2.2) 37 0) c)) (.inr (11, oMod a (upd (upd (upd (upd (upd s 33 (nI f)) 34 (T.1 + (si k))) 35 (T.2.2.1 + (((si k) + 1) / 2))) 36 T.2.2.2) 37 0) c)))).tr ?_
      refine Go.trp 238 (go_aload_n d_Mod_measure_237 rfl 0 rfl) rfl ?_
      refine Go.trp 239 (go_dup d_Mod_measure_238 rfl) rfl ?_
      refine Go.trp 242 (go_get f_Mod_179 d_Mod_measure_239 (gRd_s _ _ _) rfl) rfl ?_
      refine Go.trp 244 (go_iload d_Mod_measure_242 5 rfl) rfl ?_
      refine Go.trp 245 (go_iconst (v := 3) d_Mod_measure_244 (by decide)) rfl ?_
      refine Go.trp 246 (go_idiv d_Mod_measure_245 (by decide)) rfl ?_
      refine Go.trp 247 (go_iadd d_Mod_measure_246) rfl ?_
      refine Go.trp 250 (go_put (oMod a (upd (upd (upd (upd (upd s 33 (nI f)) 34 (T.1 + (si k))) 35 (T.2.2.1 + (((si k) + 1) / 2))) 36 (T.2.2.2 + ((si k) / 3))) 37 0) c) f_Mod_179 ft_Mod_36 d_Mod_measure_247 (gRd_s _ _ _) rfl rfl (Nat.le_of_ble_eq_true rfl) rfl) rfl ?_
      refine (go_m (M' := (gWr M A (.inr (11, oMod a (upd (upd (upd (upd (upd s 33 (nI f)) 34 (T.1 + (si k))) 35 (T.2.2.1 + (((si k) + 1) / 2))) 36 (T.2.2.2 + ((si k) / 3))) 37 0) c)))) (gWr_wr M A (.inr (11, oMod a (upd (upd (upd (upd (upd s 33 (nI f)) 34 (T.1 + (si k))) 35 (T.2.2.1 + (((si k) + 1) / 2))) 36 T.2.2.2) 37 0) c)) (.inr (11, oMod a (upd (upd (upd (upd (upd s 33 (nI f)) 34 (T.1 + (si k))) 35 (T.2.2.1 + (((si k) + 1) / 2))) 36 (T.2.2.2 + ((si k) / 3))) 37 0) c)))).tr ?_
      refine Go.trp 253 (go_inc1 (n0 := 4) (x := k) [(4, .int (nI (k + 1))), (0, .ref A), (1, .int (nI i)), (2, .int (nI j)), (3, .int (bI T.2.1)), (5, .int (si k)), (6, .int 1)] d_Mod_measure_250 rfl (by decide) rfl) rfl ?_
      refine (go_pick [1, 2, 3, 4, 0, 5, 6] [(0, .ref A), (1, .int (nI i)), (2, .int (nI j)), (3, .int (bI T.2.1)), (4, .int (nI (k + 1))), (5, .int (si k)), (6, .int 1)] rfl).tr ?_
      refine Go.trp 125 (go_goto 125 d_Mod_measure_253 (by decide)) rfl ?_
      have hsp : cSpc (ci k) = true := by clear hck hc ih; simp [cSpc, *]
      rw [show msS wt ci si k T = (T.1 + si k, T.2.1, T.2.2.1 + (si k + 1) / 2, T.2.2.2 + si k / 3) from if_pos hsp]
      refine (go_pick [0, 1, 2, 3, 4] [(0, .ref A), (1, .int (nI i)), (2, .int (nI j)), (3, .int (bI T.2.1)), (4, .int (nI (k + 1)))] rfl).tr ?_
      exact ih (k + 1) _ (by omega) (by omega)
    · refine Go.trp 157 (go_icmp_eq_f 169 d_Mod_measure_154 (by decide) (c1)) rfl ?_
      refine Go.trp 158 (go_aload_n d_Mod_measure_157 rfl 0 rfl) rfl ?_
      refine Go.trp 161 (go_get f_Mod_46 d_Mod_measure_158 (gRd_s _ _ _) rfl) rfl ?_
      refine Go.trp 163 (go_iload d_Mod_measure_161 4 rfl) rfl ?_
      refine Go.trp 164 (go_iald (j := k) d_Mod_measure_163 ((gRd_n _ _ (Ne.symm (hI.2 17))).trans (m17)) (rfl) (by omega) (by omega)) rfl ?_
      refine Go.trp 166 (go_bipush (v := 126) d_Mod_measure_164 (by decide)) rfl ?_
      by_cases c2 : (ci k) = 126
      · refine Go.trp 169 (go_icmp_ne_f 173 d_Mod_measure_166 (by decide) (c2)) rfl ?_
        refine Go.trp 170 (go_iconst (v := 1) d_Mod_measure_169 (by decide)) rfl ?_
        refine Go.trp 174 (go_goto 174 d_Mod_measure_170 (by decide)) rfl ?_
        refine Go.trp 176 (go_istore [(6, .int 1), (0, .ref A), (1, .int (nI i)), (2, .int (nI j)), (3, .int (bI T.2.1)), (4, .int (nI k)), (5, .int (si k))] d_Mod_measure_174 (by decide) rfl) rfl ?_
        refine (go_pick [1, 2, 3, 4, 5, 6, 0] [(0, .ref A), (1, .int (nI i)), (2, .int (nI j)), (3, .int (bI T.2.1)), (4, .int (nI k)), (5, .int (si k)), (6, .int 1)] rfl).tr ?_
        refine Go.trp 177 (go_aload_n d_Mod_measure_176 rfl 0 rfl) rfl ?_
        refine Go.trp 178 (go_dup d_Mod_measure_177 rfl) rfl ?_
        refine Go.trp 181 (go_get f_Mod_173 d_Mod_measure_178 (gRd_s _ _ _) rfl) rfl ?_
        refine Go.trp 183 (go_iload d_Mod_measure_181 6 rfl) rfl ?_
        refine Go.trp 186 (go_if_eq_f 191 d_Mod_measure_183 (by decide) (by decide)) rfl ?_
        refine Go.trp 188 (go_iload d_Mod_measure_186 5 rfl) rfl ?_
        refine Go.trp 203 (go_goto 203 d_Mod_measure_188 (by decide)) rfl ?_
        refine Go.trp 204 (go_iadd d_Mod_measure_203) rfl ?_
        refine Go.trp 207 (go_put (oMod a (upd (upd (upd (upd (upd s 33 (nI f)) 34 (T.1 + (si k))) 35 T.2.2.1) 36 T.2.2.2) 37 0) c) f_Mod_173 ft_Mod_34 d_Mod_measure_204 (gRd_s _ _ _) rfl rfl (Nat.le_of_ble_eq_true rfl) rfl) rfl ?_
        refine (go_m (M' := (gWr M A (.inr (11, oMod a (upd (upd (upd (upd (upd s 33 (nI f)) 34 (T.1 + (si k))) 35 T.2.2.1) 36 T.2.2.2) 37 0) c)))) (gWr_wr M A (.inr (11, oMod a (upd (upd (upd (upd (upd s 33 (nI f)) 34 T.1) 35 T.2.2.1) 36 T.2.2.2) 37 0) c)) (.inr (11, oMod a (upd (upd (upd (upd (upd s 33 (nI f)) 34 (T.1 + (si k))) 35 T.2.2.1) 36 T.2.2.2) 37 0) c)))).tr ?_
        refine Go.trp 209 (go_iload d_Mod_measure_207 6 rfl) rfl ?_
        refine Go.trp 214 (go_if_ne_t 214 d_Mod_measure_209 (by decide) (by decide)) rfl ?_
        refine Go.trp 216 (go_iload d_Mod_measure_214 6 rfl) rfl ?_
        refine Go.trp 222 (go_if_ne_t 222 d_Mod_measure_216 (by decide) (by decide)) rfl ?_
        refine Go.trp 223 (go_aload_n d_Mod_measure_222 rfl 0 rfl) rfl ?_
        refine Go.trp 224 (go_dup d_Mod_measure_223 rfl) rfl ?_
        refine Go.trp 227 (go_get f_Mod_182 d_Mod_measure_224 (gRd_s _ _ _) rfl) rfl ?_
        refine Go.trp 229 (go_iload d_Mod_measure_227 5 rfl) rfl ?_
        refine Go.trp 230 (go_iconst (v := 1) d_Mod_measure_229 (by decide)) rfl ?_
        refine Go.trp 231 (go_iadd d_Mod_measure_230) rfl ?_
        refine Go.trp 232 (go_iconst (v := 2) d_Mod_measure_231 (by decide)) rfl ?_
        refine Go.trp 233 (go_idiv d_Mod_measure_232 (by decide)) rfl ?_
        refine Go.trp 234 (go_iadd d_Mod_measure_233) rfl ?_
        refine Go.trp 237 (go_put (oMod a (upd (upd (upd (upd (upd s 33 (nI f)) 34 (T.1 + (si k))) 35 (T.2.2.1 + (((si k) + 1) / 2))) 36 T.2.2.2) 37 0) c) f_Mod_182 ft_Mod_35 d_Mod_measure_234 (gRd_s _ _ _) rfl rfl (Nat.le_of_ble_eq_true rfl) rfl) rfl ?_
        refine (go_m (M' := (gWr M A (.inr (11, oMod a (upd (upd (upd (upd (upd s 33 (nI f)) 34 (T.1 + (si k))) 35 (T.2.2.1 + (((si k) + 1) / 2))) 36 T.2.2.2) 37 0) c)))) (gWr_wr M A (.inr (11, oMod a (upd (upd (upd (upd (upd s 33 (nI f)) 34 (T.1 + (si k))) 35 T.2.2.1) 36 T.2.2.2) 37 0) c)) (.inr (11, oMod a (upd (upd (upd (upd (upd s 33 (nI f)) 34 (T.1 + (si k))) 35 (T.2.2.1 + (((si k) + 1) / 2))) 36 T.2.2.2) 37 0) c)))).tr ?_
        refine Go.trp 238 (go_aload_n d_Mod_measure_237 rfl 0 rfl) rfl ?_
        refine Go.trp 239 (go_dup d_Mod_measure_238 rfl) rfl ?_
        refine Go.trp 242 (go_get f_Mod_179 d_Mod_measure_239 (gRd_s _ _ _) rfl) rfl ?_
        refine Go.trp 244 (go_iload d_Mod_measure_242 5 rfl) rfl ?_
        refine Go.trp 245 (go_iconst (v := 3) d_Mod_measure_244 (by decide)) rfl ?_
        refine Go.trp 246 (go_idiv d_Mod_measure_245 (by decide)) rfl ?_
        refine Go.trp 247 (go_iadd d_Mod_measure_246) rfl ?_
        refine Go.trp 250 (go_put (oMod a (upd (upd (upd (upd (upd s 33 (nI f)) 34 (T.1 + (si k))) 35 (T.2.2.1 + (((si k) + 1) / 2))) 36 (T.2.2.2 + ((si k) / 3))) 37 0) c) f_Mod_179 ft_Mod_36 d_Mod_measure_247 (gRd_s _ _ _) rfl rfl (Nat.le_of_ble_eq_true rfl) rfl) rfl ?_
        refine (go_m (M' := (gWr M A (.inr (11, oMod a (upd (upd (upd (upd (upd s 33 (nI f)) 34 (T.1 + (si k))) 35 (T.2.2.1 + (((si k) + 1) / 2))) 36 (T.2.2.2 + ((si k) / 3))) 37 0) c)))) (gWr_wr M A (.inr (11, oMod a (upd (upd (upd (upd (upd s 33 (nI f)) 34 (T.1 + (si k))) 35 (T.2.2.1 + (((si k) + 1) / 2))) 36 T.2.2.2) 37 0) c)) (.inr (11, oMod a (upd (upd (upd (upd (upd s 33 (nI f)) 34 (T.1 + (si k))) 35 (T.2.2.1 + (((si k) + 1) / 2))) 36 (T.2.2.2 + ((si k) / 3))) 37 0) c)))).tr ?_
        refine Go.trp 253 (go_inc1 (n0 := 4) (x := k) [(4, .int (nI (k + 1))), (0, .ref A), (1, .int (nI i)), (2, .int (nI j)), (3, .int (bI T.2.1)), (5, .int (si k)), (6, .int 1)] d_Mod_measure_250 rfl (by decide) rfl) rfl ?_
        refine (go_pick [1, 2, 3, 4, 0, 5, 6] [(0, .ref A), (1, .int (nI i)), (2, .int (nI j)), (3, .int (bI T.2.1)), (4, .int (nI (k + 1))), (5, .int (si k)), (6, .int 1)] rfl).tr ?_
        refine Go.trp 125 (go_goto 125 d_Mod_measure_253 (by decide)) rfl ?_
        have hsp : cSpc (ci k) = true := by clear hck hc ih; simp [cSpc, *]
        rw [show msS wt ci si k T = (T.1 + si k, T.2.1, T.2.2.1 + (si k + 1) / 2, T.2.2.2 + si k / 3) from if_pos hsp]
        refine (go_pick [0, 1, 2, 3, 4] [(0, .ref A), (1, .int (nI i)), (2, .int (nI j)), (3, .int (bI T.2.1)), (4, .int (nI (k + 1)))] rfl).tr ?_
        exact ih (k + 1) _ (by omega) (by omega)
      · refine Go.trp 173 (go_icmp_ne_t 173 d_Mod_measure_166 (by decide) (c2)) rfl ?_
        refine Go.trp 174 (go_iconst (v := 0) d_Mod_measure_173 (by decide)) rfl ?_
        refine Go.trp 176 (go_istore [(6, .int 0), (0, .ref A), (1, .int (nI i)), (2, .int (nI j)), (3, .int (bI T.2.1)), (4, .int (nI k)), (5, .int (si k))] d_Mod_measure_174 (by decide) rfl) rfl ?_
        refine (go_pick [1, 2, 3, 4, 5, 6, 0] [(0, .ref A), (1, .int (nI i)), (2, .int (nI j)), (3, .int (bI T.2.1)), (4, .int (nI k)), (5, .int (si k)), (6, .int 0)] rfl).tr ?_
        refine Go.trp 177 (go_aload_n d_Mod_measure_176 rfl 0 rfl) rfl ?_
        refine Go.trp 178 (go_dup d_Mod_measure_177 rfl) rfl ?_
        refine Go.trp 181 (go_get f_Mod_173 d_Mod_measure_178 (gRd_s _ _ _) rfl) rfl ?_
        refine Go.trp 183 (go_iload d_Mod_measure_181 6 rfl) rfl ?_
        refine Go.trp 191 (go_if_eq_t 191 d_Mod_measure_183 (by decide) (by decide)) rfl ?_
        refine Go.trp 192 (go_aload_n d_Mod_measure_191 rfl 0 rfl) rfl ?_
        refine Go.trp 195 (go_get f_Mod_13 d_Mod_measure_192 (gRd_s _ _ _) rfl) rfl ?_
        refine Go.trp 196 (go_aload_n d_Mod_measure_195 rfl 0 rfl) rfl ?_
        refine Go.trp 199 (go_get f_Mod_46 d_Mod_measure_196 (gRd_s _ _ _) rfl) rfl ?_
        refine Go.trp 201 (go_iload d_Mod_measure_199 4 rfl) rfl ?_
        refine Go.trp 202 (go_iald (j := k) d_Mod_measure_201 ((gRd_n _ _ (Ne.symm (hI.2 17))).trans (m17)) (rfl) (by omega) (by omega)) rfl ?_
        refine Go.trp 203 (go_iald (j := (ci k).toNatClampNeg) d_Mod_measure_202 ((gRd_n _ _ (Ne.symm (hI.2 2))).trans (m2)) (hck.1) (hck.2) (by omega)) rfl ?_
        refine Go.trp 204 (go_iadd d_Mod_measure_203) rfl ?_
        refine Go.trp 207 (go_put (oMod a (upd (upd (upd (upd (upd s 33 (nI f)) 34 (T.1 + (wt ((ci k).toNatClampNeg)))) 35 T.2.2.1) 36 T.2.2.2) 37 0) c) f_Mod_173 ft_Mod_34 d_Mod_measure_204 (gRd_s _ _ _) rfl rfl (Nat.le_of_ble_eq_true rfl) rfl) rfl ?_
        refine (go_m (M' := (gWr M A (.inr (11, oMod a (upd (upd (upd (upd (upd s 33 (nI f)) 34 (T.1 + (wt ((ci k).toNatClampNeg)))) 35 T.2.2.1) 36 T.2.2.2) 37 0) c)))) (gWr_wr M A (.inr (11, oMod a (upd (upd (upd (upd (upd s 33 (nI f)) 34 T.1) 35 T.2.2.1) 36 T.2.2.2) 37 0) c)) (.inr (11, oMod a (upd (upd (upd (upd (upd s 33 (nI f)) 34 (T.1 + (wt ((ci k).toNatClampNeg)))) 35 T.2.2.1) 36 T.2.2.2) 37 0) c)))).tr ?_
        refine Go.trp 209 (go_iload d_Mod_measure_207 6 rfl) rfl ?_
        refine Go.trp 212 (go_if_ne_f 214 d_Mod_measure_209 (by decide) (by decide)) rfl ?_
        refine Go.trp 213 (go_iconst (v := 1) d_Mod_measure_212 (by decide)) rfl ?_
        refine Go.trp 214 (go_istore_n [(3, .int 1), (0, .ref A), (1, .int (nI i)), (2, .int (nI j)), (4, .int (nI k)), (5, .int (si k)), (6, .int 0)] d_Mod_measure_213 rfl (by decide) rfl) rfl ?_
        refine (go_pick [1, 2, 3, 0, 4, 5, 6] [(0, .ref A), (1, .int (nI i)), (2, .int (nI j)), (3, .int 1), (4, .int (nI k)), (5, .int (si k)), (6, .int 0)] rfl).tr ?_
        refine Go.trp 216 (go_iload d_Mod_measure_214 6 rfl) rfl ?_
        refine Go.trp 219 (go_if_ne_f 222 d_Mod_measure_216 (by decide) (by decide)) rfl ?_
        refine Go.trp 250 (go_goto 250 d_Mod_measure_219 (by decide)) rfl ?_
        refine Go.trp 253 (go_inc1 (n0 := 4) (x := k) [(4, .int (nI (k + 1))), (0, .ref A), (1, .int (nI i)), (2, .int (nI j)), (3, .int 1), (5, .int (si k)), (6, .int 0)] d_Mod_measure_250 rfl (by decide) rfl) rfl ?_
        refine (go_pick [1, 2, 3, 4, 0, 5, 6] [(0, .ref A), (1, .int (nI i)), (2, .int (nI j)), (3, .int 1), (4, .int (nI (k + 1))), (5, .int (si k)), (6, .int 0)] rfl).tr ?_
        refine Go.trp 125 (go_goto 125 d_Mod_measure_253 (by decide)) rfl ?_
        have hsp : cSpc (ci k) = false := by clear hck hc ih; simp [cSpc, *]
        rw [show msS wt ci si k T = (T.1 + wt (ci k).toNatClampNeg, true, T.2.2.1, T.2.2.2) from if_neg (by rw [hsp]; decide)]
        refine (go_pick [0, 1, 2, 3, 4] [(0, .ref A), (1, .int (nI i)), (2, .int (nI j)), (3, .int 1), (4, .int (nI (k + 1)))] rfl).tr ?_
        exact ih (k + 1) _ (by omega) (by omega)
theorem g_Mod_me4 (G : gG) (M : gM) (A : Nat) (a : Nat → Nat) (s : Nat → Int32) (c : Int64) (wt PP ci si K E B : Nat → Int32) (i j e g n : Nat) (hI : InjA A a) (m2 : gRd M (a 2) = some (aI G 128 wt)) (m3 : gRd M (a 3) = some (aI G 5 PP)) (m17 : gRd M (a 17) = some (aI G 120 ci)) (m18 : gRd M (a 18) = some (aI G 120 si)) (m25 : gRd M (a 25) = some (aI G 26 K)) (m26 : gRd M (a 26) = some (aI G 26 E)) (m27 : gRd M (a 27) = some (aI G 26 B)) (hi : i < j) (hj : j ≤ 24) (hE : E j = nI e) (hB : B i = nI g) (he : e ≤ n) (hg : g ≤ 120) (hn : n ≤ 120) (hc : ∀ k, k < n → ci k = nI (ci k).toNatClampNeg ∧ (ci k).toNatClampNeg < 128) (f : Nat) (T : Int32 × Bool × Int32 × Int32) (d v1 v2 : Int64) (hd : (PP 0 - T.1).toInt64 = d) (hv1 : 100 * d * d * d / (T.2.2.1.toInt64 * T.2.2.1.toInt64 * T.2.2.1.toInt64) = v1) (hv2 : -100 * d * d * d / (T.2.2.2.toInt64 * T.2.2.2.toInt64 * T.2.2.2.toInt64) = v2) (hz : ∀ x : Int32, (x = T.2.2.1 ∨ x = T.2.2.2) → ¬ x = 0 → ¬ x.toInt64 * x.toInt64 * x.toInt64 = 0) (hsn : lg_cmp d 0 < 0 → ¬ 0 < lg_cmp (-d) T.2.2.2.toInt64 → ¬ T.2.2.2 = 0) : EvF G 0 m_Mod_measure (256, [(0, .ref A), (1, .int (nI i)), (2, .int (nI j)), (3, .int (bI T.2.1))], [], (gWr M A (.inr (11, oMod a (upd (upd (upd (upd (upd s 33 (nI f)) 34 T.1) 35 T.2.2.1) 36 T.2.2.2) 37 0) c)))) (some (.int (bI (if T.2.1 = true then ((mdG (K j) (PP 1) T.2.2.1 T.2.2.2 d v1 v2).1, (nI f, T.1, T.2.2.1, T.2.2.2, (mdG (K j) (PP 1) T.2.2.1 T.2.2.2 d v1 v2).2)) else (false, (nI f, T.1, T.2.2.1, T.2.2.2, 0))).1))) (gWr M A (.inr (11, oMod a (upd (upd (upd (upd (upd s 33 ((if T.2.1 = true then ((mdG (K j) (PP 1) T.2.2.1 T.2.2.2 d v1 v2).1, (nI f, T.1, T.2.2.1, T.2.2.2, (mdG (K j) (PP 1) T.2.2.1 T.2.2.2 d v1 v2).2)) else (false, (nI f, T.1, T.2.2.1, T.2.2.2, 0))).2.1)) 34 ((if T.2.1 = true then ((mdG (K j) (PP 1) T.2.2.1 T.2.2.2 d v1 v2).1, (nI f, T.1, T.2.2.1, T.2.2.2, (mdG (K j) (PP 1) T.2.2.1 T.2.2.2 d v1 v2).2)) else (false, (nI f, T.1, T.2.2.1, T.2.2.2, 0))).2.2.1)) 35 ((if T.2.1 = true then ((mdG (K j) (PP 1) T.2.2.1 T.2.2.2 d v1 v2).1, (nI f, T.1, T.2.2.1, T.2.2.2, (mdG (K j) (PP 1) T.2.2.1 T.2.2.2 d v1 v2).2)) else (false, (nI f, T.1, T.2.2.1, T.2.2.2, 0))).2.2.2.1)) 36 ((if T.2.1 = true then ((mdG (K j) (PP 1) T.2.2.1 T.2.2.2 d v1 v2).1, (nI f, T.1, T.2.2.1, T.2.2.2, (mdG (K j) (PP 1) T.2.2.1 T.2.2.2 d v1 v2).2)) else (false, (nI f, T.1, T.2.2.1, T.2.2.2, 0))).2.2.2.2.1)) 37 ((if T.2.1 = true then ((mdG (K j) (PP 1) T.2.2.1 T.2.2.2 d v1 v2).1, (nI f, T.1, T.2.2.1, T.2.2.2, (mdG (K j) (PP 1) T.2.2.1 T.2.2.2 d v1 v2).2)) else (false, (nI f, T.1, T.2.2.1, T.2.2.2, 0))).2.2.2.2.2)) c))) := by
  refine EvF.gop 257 (go_iload_n d_Mod_measure_256 rfl 3 rfl) rfl ?_
  by_cases c1 : (bI T.2.1) = 0
  · have c1x : T.2.1 = false := bI_0.mp c1
    refine EvF.gop 260 (go_if_ne_f 262 d_Mod_measure_257 (by decide) (c1)) rfl ?_
    refine EvF.gop 261 (go_iconst (v := 0) d_Mod_measure_260 (by decide)) rfl ?_
    rw [if_neg (show ¬ T.2.1 = true from by rw [‹T.2.1 = false›]; decide)]
    exact EvF.rz d_Mod_measure_261 rfl (by decide) (rfl) (rfl)
  · have c1x : T.2.1 = true := bI_n0.mp c1
    refine EvF.gop 262 (go_if_ne_t 262 d_Mod_measure_257 (by decide) (c1)) rfl ?_
    refine EvF.gop 263 (go_aload_n d_Mod_measure_262 rfl 0 rfl) rfl ?_
    refine EvF.gop 266 (go_get f_Mod_16 d_Mod_measure_263 (gRd_s _ _ _) rfl) rfl ?_
    refine EvF.gop 267 (go_iconst (v := 0) d_Mod_measure_266 (by decide)) rfl ?_
    refine EvF.gop 268 (go_iald (j := 0) d_Mod_measure_267 ((gRd_n _ _ (Ne.symm (hI.2 3))).trans (m3)) (rfl) (by omega) (by omega)) rfl ?_
    refine EvF.gop 269 (go_aload_n d_Mod_measure_268 rfl 0 rfl) rfl ?_
    refine EvF.gop 272 (go_get f_Mod_173 d_Mod_measure_269 (gRd_s _ _ _) rfl) rfl ?_
    refine EvF.gop 273 (go_isub d_Mod_measure_272) rfl ?_
    refine EvF.gop 274 (go_i2l d_Mod_measure_273) rfl ?_
    refine EvF.go (go_vl (y := d) (hd)) ?_
    refine EvF.gop 276 (go_lstore [(4, .long d), (0, .ref A), (1, .int (nI i)), (2, .int (nI j)), (3, .int (bI T.2.1))] d_Mod_measure_274 (by decide) rfl) rfl ?_
    refine EvF.go (go_pick [1, 2, 3, 4, 0] [(0, .ref A), (1, .int (nI i)), (2, .int (nI j)), (3, .int (bI T.2.1)), (4, .long d)] rfl) ?_
    refine EvF.gop 278 (go_lload d_Mod_measure_276 4 rfl) rfl ?_
    refine EvF.gop 279 (go_lconst (v := 0) d_Mod_measure_278 (by decide)) rfl ?_
    refine EvF.gop 280 (go_lcmp d_Mod_measure_279) rfl ?_
    by_cases c2 : (lg_cmp d 0) ≤ 0
    · have c2x : ¬ 0 < (lg_cmp d 0) := Int32.not_lt.mpr c2
      refine EvF.gop 354 (go_if_le_t 354 d_Mod_measure_280 (by decide) (c2)) rfl ?_
      refine EvF.gop 356 (go_lload d_Mod_measure_354 4 rfl) rfl ?_
      refine EvF.gop 357 (go_lconst (v := 0) d_Mod_measure_356 (by decide)) rfl ?_
      refine EvF.gop 358 (go_lcmp d_Mod_measure_357) rfl ?_
      by_cases c3 : 0 ≤ (lg_cmp d 0)
      · have c3x : ¬ (lg_cmp d 0) < 0 := Int32.not_lt.mpr c3
        refine EvF.gop 408 (go_if_ge_t 408 d_Mod_measure_358 (by decide) (c3)) rfl ?_
        refine EvF.gop 409 (go_aload_n d_Mod_measure_408 rfl 0 rfl) rfl ?_
        refine EvF.gop 412 (go_get f_Mod_176 d_Mod_measure_409 (gRd_s _ _ _) rfl) rfl ?_
        refine EvF.gop 413 (go_aload_n d_Mod_measure_412 rfl 0 rfl) rfl ?_
        refine EvF.gop 416 (go_get f_Mod_16 d_Mod_measure_413 (gRd_s _ _ _) rfl) rfl ?_
        refine EvF.gop 417 (go_iconst (v := 1) d_Mod_measure_416 (by decide)) rfl ?_
        refine EvF.gop 418 (go_iald (j := 1) d_Mod_measure_417 ((gRd_n _ _ (Ne.symm (hI.2 3))).trans (m3)) (rfl) (by omega) (by omega)) rfl ?_
        by_cases c4 : (PP 1) < 0
        · have c4x : ¬ 0 ≤ (PP 1) := Int32.not_le.mpr c4
          refine EvF.gop 425 (go_icmp_gt_t 425 d_Mod_measure_418 (by decide) (c4)) rfl ?_
          refine EvF.gop 426 (go_iconst (v := 0) d_Mod_measure_425 (by decide)) rfl ?_
          rw [if_pos (show T.2.1 = true by assumption)]
          have eM : (mdG (K j) (PP 1) T.2.2.1 T.2.2.2 d v1 v2) = (decide (0 ≤ PP 1), 0) := by unfold mdG; exact (if_neg (by rintro ⟨q1, q2⟩; first | exact absurd q1 (by assumption) | exact absurd q2 (by assumption))).trans (if_neg (by assumption))
          rw [eM]
          exact EvF.rz d_Mod_measure_426 rfl (by decide) (by simp [bI, *]) (rfl)
        · have c4x : 0 ≤ (PP 1) := Int32.not_lt.mp c4
          refine EvF.gop 421 (go_icmp_gt_f 425 d_Mod_measure_418 (by decide) (c4)) rfl ?_
          refine EvF.gop 422 (go_iconst (v := 1) d_Mod_measure_421 (by decide)) rfl ?_
          refine EvF.gop 426 (go_goto 426 d_Mod_measure_422 (by decide)) rfl ?_
          rw [if_pos (show T.2.1 = true by assumption)]
          have eM : (mdG (K j) (PP 1) T.2.2.1 T.2.2.2 d v1 v2) = (decide (0 ≤ PP 1), 0) := by unfold mdG; exact (if_neg (by rintro ⟨q1, q2⟩; first | exact absurd q1 (by assumption) | exact absurd q2 (by assumption))).trans (if_neg (by assumption))
          rw [eM]
          exact EvF.rz d_Mod_measure_426 rfl (by decide) (by simp [bI, *]) (rfl)
      · have c3x : (lg_cmp d 0) < 0 := Int32.not_le.mp c3
        refine EvF.gop 361 (go_if_ge_f 408 d_Mod_measure_358 (by decide) (c3)) rfl ?_
        refine EvF.gop 363 (go_lload d_Mod_measure_361 4 rfl) rfl ?_
        refine EvF.gop 364 (go_lneg d_Mod_measure_363) rfl ?_
        refine EvF.gop 365 (go_aload_n d_Mod_measure_364 rfl 0 rfl) rfl ?_
        refine EvF.gop 368 (go_get f_Mod_179 d_Mod_measure_365 (gRd_s _ _ _) rfl) rfl ?_
        refine EvF.gop 369 (go_i2l d_Mod_measure_368) rfl ?_
        refine EvF.gop 370 (go_lcmp d_Mod_measure_369) rfl ?_
        by_cases c5 : (lg_cmp (-d) T.2.2.2.toInt64) ≤ 0
        · have c5x : ¬ 0 < (lg_cmp (-d) T.2.2.2.toInt64) := Int32.not_lt.mpr c5
          refine EvF.gop 375 (go_if_le_t 375 d_Mod_measure_370 (by decide) (c5)) rfl ?_
          refine EvF.gop 376 (go_aload_n d_Mod_measure_375 rfl 0 rfl) rfl ?_
          refine EvF.gop 379 (go_get f_Mod_179 d_Mod_measure_376 (gRd_s _ _ _) rfl) rfl ?_
          refine EvF.gop 380 (go_i2l d_Mod_measure_379) rfl ?_
          refine EvF.gop 382 (go_lstore [(6, .long T.2.2.2.toInt64), (0, .ref A), (1, .int (nI i)), (2, .int (nI j)), (3, .int (bI T.2.1)), (4, .long d)] d_Mod_measure_380 (by decide) rfl) rfl ?_
          refine EvF.go (go_pick [1, 2, 3, 4, 5, 0] [(0, .ref A), (1, .int (nI i)), (2, .int (nI j)), (3, .int (bI T.2.1)), (4, .long d), (6, .long T.2.2.2.toInt64)] rfl) ?_
          refine EvF.gop 383 (go_aload_n d_Mod_measure_382 rfl 0 rfl) rfl ?_
          refine EvF.gop 386 (go_ldc2 (v := (-100)) d_Mod_measure_383 kl_Mod_187) rfl ?_
          refine EvF.gop 388 (go_lload d_Mod_measure_386 4 rfl) rfl ?_
          refine EvF.gop 389 (go_lmul d_Mod_measure_388) rfl ?_
          refine EvF.gop 391 (go_lload d_Mod_measure_389 4 rfl) rfl ?_
          refine EvF.gop 392 (go_lmul d_Mod_measure_391) rfl ?_
          refine EvF.gop 394 (go_lload d_Mod_measure_392 4 rfl) rfl ?_
          refine EvF.gop 395 (go_lmul d_Mod_measure_394) rfl ?_
          refine EvF.gop 397 (go_lload d_Mod_measure_395 5 rfl) rfl ?_
          refine EvF.gop 399 (go_lload d_Mod_measure_397 5 rfl) rfl ?_
          refine EvF.gop 400 (go_lmul d_Mod_measure_399) rfl ?_
          refine EvF.gop 402 (go_lload d_Mod_measure_400 5 rfl) rfl ?_
          refine EvF.gop 403 (go_lmul d_Mod_measure_402) rfl ?_
          refine EvF.gop 404 (go_ldiv d_Mod_measure_403 (hz _ (Or.inr rfl) (hsn (by assumption) (by assumption)))) rfl ?_
          refine EvF.go (go_vl (y := v2) (hv2)) ?_
          refine EvF.gop 405 (go_l2i d_Mod_measure_404) rfl ?_
          refine EvF.gop 408 (go_put (oMod a (upd (upd (upd (upd (upd s 33 (nI f)) 34 T.1) 35 T.2.2.1) 36 T.2.2.2) 37 v2.toInt32) c) f_Mod_176 ft_Mod_37 d_Mod_measure_405 (gRd_s _ _ _) rfl rfl (Nat.le_of_ble_eq_true rfl) rfl) rfl ?_
          refine EvF.go (go_m (M' := (gWr M A (.inr (11, oMod a (upd (upd (upd (upd (upd s 33 (nI f)) 34 T.1) 35 T.2.2.1) 36 T.2.2.2) 37 v2.toInt32) c)))) (gWr_wr M A (.inr (11, oMod a (upd (upd (upd (upd (upd s 33 (nI f)) 34 T.1) 35 T.2.2.1) 36 T.2.2.2) 37 0) c)) (.inr (11, oMod a (upd (upd (upd (upd (upd s 33 (nI f)) 34 T.1) 35 T.2.2.1) 36 T.2.2.2) 37 v2.toInt32) c)))) ?_
          refine EvF.gop 409 (go_aload_n d_Mod_measure_408 rfl 0 rfl) rfl ?_
          refine EvF.gop 412 (go_get f_Mod_176 d_Mod_measure_409 (gRd_s _ _ _) rfl) rfl ?_
          refine EvF.gop 413 (go_aload_n d_Mod_measure_412 rfl 0 rfl) rfl ?_
          refine EvF.gop 416 (go_get f_Mod_16 d_Mod_measure_413 (gRd_s _ _ _) rfl) rfl ?_
          refine EvF.gop 417 (go_iconst (v := 1) d_Mod_measure_416 (by decide)) rfl ?_
          refine EvF.gop 418 (go_iald (j := 1) d_Mod_measure_417 ((gRd_n _ _ (Ne.symm (hI.2 3))).trans (m3)) (rfl) (by omega) (by omega)) rfl ?_
          by_cases c6 : (PP 1) < v2.toInt32
          · have c6x : ¬ v2.toInt32 ≤ (PP 1) := Int32.not_le.mpr c6
            refine EvF.gop 425 (go_icmp_gt_t 425 d_Mod_measure_418 (by decide) (c6)) rfl ?_
            refine EvF.gop 426 (go_iconst (v := 0) d_Mod_measure_425 (by decide)) rfl ?_
            rw [if_pos (show T.2.1 = true by assumption)]
            have eM : (mdG (K j) (PP 1) T.2.2.1 T.2.2.2 d v1 v2) = (decide (v2.toInt32 ≤ PP 1), v2.toInt32) := by unfold mdG; exact (if_neg (by rintro ⟨q1, q2⟩; first | exact absurd q1 (by assumption) | exact absurd q2 (by assumption))).trans ((if_pos (by assumption)).trans (if_neg (by assumption)))
            rw [eM]
            exact EvF.rz d_Mod_measure_426 rfl (by decide) (by simp [bI, *]) (rfl)
          · have c6x : v2.toInt32 ≤ (PP 1) := Int32.not_lt.mp c6
            refine EvF.gop 421 (go_icmp_gt_f 425 d_Mod_measure_418 (by decide) (c6)) rfl ?_
            refine EvF.gop 422 (go_iconst (v := 1) d_Mod_measure_421 (by decide)) rfl ?_
            refine EvF.gop 426 (go_goto 426 d_Mod_measure_422 (by decide)) rfl ?_
            rw [if_pos (show T.2.1 = true by assumption)]
            have eM : (mdG (K j) (PP 1) T.2.2.1 T.2.2.2 d v1 v2) = (decide (v2.toInt32 ≤ PP 1), v2.toInt32) := by unfold mdG; exact (if_neg (by rintro ⟨q1, q2⟩; first | exact absurd q1 (by assumption) | exact absurd q2 (by assumption))).trans ((if_pos (by assumption)).trans (if_neg (by assumption)))
            rw [eM]
            exact EvF.rz d_Mod_measure_426 rfl (by decide) (by simp [bI, *]) (rfl)
        · have c5x : 0 < (lg_cmp (-d) T.2.2.2.toInt64) := Int32.not_le.mp c5
          refine EvF.gop 373 (go_if_le_f 375 d_Mod_measure_370 (by decide) (c5)) rfl ?_
          refine EvF.gop 374 (go_iconst (v := 0) d_Mod_measure_373 (by decide)) rfl ?_
          rw [if_pos (show T.2.1 = true by assumption)]
          have eM : (mdG (K j) (PP 1) T.2.2.1 T.2.2.2 d v1 v2) = (false, 0) := by unfold mdG; exact (if_neg (by rintro ⟨q1, q2⟩; first | exact absurd q1 (by assumption) | exact absurd q2 (by assumption))).trans ((if_pos (by assumption)).trans (if_pos (by assumption)))
          rw [eM]
          exact EvF.rz d_Mod_measure_374 rfl (by decide) (rfl) (rfl)
    · have c2x : 0 < (lg_cmp d 0) := Int32.not_le.mp c2
      refine EvF.gop 283 (go_if_le_f 354 d_Mod_measure_280 (by decide) (c2)) rfl ?_
      refine EvF.gop 284 (go_aload_n d_Mod_measure_283 rfl 0 rfl) rfl ?_
      refine EvF.gop 287 (go_get f_Mod_65 d_Mod_measure_284 (gRd_s _ _ _) rfl) rfl ?_
      refine EvF.gop 288 (go_iload_n d_Mod_measure_287 rfl 2 rfl) rfl ?_
      refine EvF.gop 289 (go_iald (j := j) d_Mod_measure_288 ((gRd_n _ _ (Ne.symm (hI.2 25))).trans (m25)) (rfl) (by omega) (by omega)) rfl ?_
      refine EvF.gop 290 (go_iconst (v := 3) d_Mod_measure_289 (by decide)) rfl ?_
      by_cases c7 : 3 ≤ (K j)
      · have c7x : ¬ (K j) < 3 := Int32.not_lt.mpr c7
        refine EvF.gop 354 (go_icmp_ge_t 354 d_Mod_measure_290 (by decide) (c7)) rfl ?_
        refine EvF.gop 356 (go_lload d_Mod_measure_354 4 rfl) rfl ?_
        refine EvF.gop 357 (go_lconst (v := 0) d_Mod_measure_356 (by decide)) rfl ?_
        refine EvF.gop 358 (go_lcmp d_Mod_measure_357) rfl ?_
        by_cases c8 : 0 ≤ (lg_cmp d 0)
        · have c8x : ¬ (lg_cmp d 0) < 0 := Int32.not_lt.mpr c8
          refine EvF.gop 408 (go_if_ge_t 408 d_Mod_measure_358 (by decide) (c8)) rfl ?_
          refine EvF.gop 409 (go_aload_n d_Mod_measure_408 rfl 0 rfl) rfl ?_
          refine EvF.gop 412 (go_get f_Mod_176 d_Mod_measure_409 (gRd_s _ _ _) rfl) rfl ?_
          refine EvF.gop 413 (go_aload_n d_Mod_measure_412 rfl 0 rfl) rfl ?_
          refine EvF.gop 416 (go_get f_Mod_16 d_Mod_measure_413 (gRd_s _ _ _) rfl) rfl ?_
          refine EvF.gop 417 (go_iconst (v := 1) d_Mod_measure_416 (by decide)) rfl ?_
          refine EvF.gop 418 (go_iald (j := 1) d_Mod_measure_417 ((gRd_n _ _ (Ne.symm (hI.2 3))).trans (m3)) (rfl) (by omega) (by omega)) rfl ?_
          by_cases c9 : (PP 1) < 0
          · have c9x : ¬ 0 ≤ (PP 1) := Int32.not_le.mpr c9
            refine EvF.gop 425 (go_icmp_gt_t 425 d_Mod_measure_418 (by decide) (c9)) rfl ?_
            refine EvF.gop 426 (go_iconst (v := 0) d_Mod_measure_425 (by decide)) rfl ?_
            rw [if_pos (show T.2.1 = true by assumption)]
            have eM : (mdG (K j) (PP 1) T.2.2.1 T.2.2.2 d v1 v2) = (decide (0 ≤ PP 1), 0) := by unfold mdG; exact (if_neg (by rintro ⟨q1, q2⟩; first | exact absurd q1 (by assumption) | exact absurd q2 (by assumption))).trans (if_neg (by assumption))
            rw [eM]
            exact EvF.rz d_Mod_measure_426 rfl (by decide) (by simp [bI, *]) (rfl)
          · have c9x : 0 ≤ (PP 1) := Int32.not_lt.mp c9
            refine EvF.gop 421 (go_icmp_gt_f 425 d_Mod_measure_418 (by decide) (c9)) rfl ?_
            refine EvF.gop 422 (go_iconst (v := 1) d_Mod_measure_421 (by decide)) rfl ?_
            refine EvF.gop 426 (go_goto 426 d_Mod_measure_422 (by decide)) rfl ?_
            rw [if_pos (show T.2.1 = true by assumption)]
            have eM : (mdG (K j) (PP 1) T.2.2.1 T.2.2.2 d v1 v2) = (decide (0 ≤ PP 1), 0) := by unfold mdG; exact (if_neg (by rintro ⟨q1, q2⟩; first | exact absurd q1 (by assumption) | exact absurd q2 (by assumption))).trans (if_neg (by assumption))
            rw [eM]
            exact EvF.rz d_Mod_measure_426 rfl (by decide) (by simp [bI, *]) (rfl)
        · have c8x : (lg_cmp d 0) < 0 := Int32.not_le.mp c8
          refine EvF.gop 361 (go_if_ge_f 408 d_Mod_measure_358 (by decide) (c8)) rfl ?_
          refine EvF.gop 363 (go_lload d_Mod_measure_361 4 rfl) rfl ?_
          refine EvF.gop 364 (go_lneg d_Mod_measure_363) rfl ?_
          refine EvF.gop 365 (go_aload_n d_Mod_measure_364 rfl 0 rfl) rfl ?_
          refine EvF.gop 368 (go_get f_Mod_179 d_Mod_measure_365 (gRd_s _ _ _) rfl) rfl ?_
          refine EvF.gop 369 (go_i2l d_Mod_measure_368) rfl ?_
          refine EvF.gop 370 (go_lcmp d_Mod_measure_369) rfl ?_
          by_cases c10 : (lg_cmp (-d) T.2.2.2.toInt64) ≤ 0
          · have c10x : ¬ 0 < (lg_cmp (-d) T.2.2.2.toInt64) := Int32.not_lt.mpr c10
            refine EvF.gop 375 (go_if_le_t 375 d_Mod_measure_370 (by decide) (c10)) rfl ?_
            refine EvF.gop 376 (go_aload_n d_Mod_measure_375 rfl 0 rfl) rfl ?_
            refine EvF.gop 379 (go_get f_Mod_179 d_Mod_measure_376 (gRd_s _ _ _) rfl) rfl ?_
            refine EvF.gop 380 (go_i2l d_Mod_measure_379) rfl ?_
            refine EvF.gop 382 (go_lstore [(6, .long T.2.2.2.toInt64), (0, .ref A), (1, .int (nI i)), (2, .int (nI j)), (3, .int (bI T.2.1)), (4, .long d)] d_Mod_measure_380 (by decide) rfl) rfl ?_
            refine EvF.go (go_pick [1, 2, 3, 4, 5, 0] [(0, .ref A), (1, .int (nI i)), (2, .int (nI j)), (3, .int (bI T.2.1)), (4, .long d), (6, .long T.2.2.2.toInt64)] rfl) ?_
            refine EvF.gop 383 (go_aload_n d_Mod_measure_382 rfl 0 rfl) rfl ?_
            refine EvF.gop 386 (go_ldc2 (v := (-100)) d_Mod_measure_383 kl_Mod_187) rfl ?_
            refine EvF.gop 388 (go_lload d_Mod_measure_386 4 rfl) rfl ?_
            refine EvF.gop 389 (go_lmul d_Mod_measure_388) rfl ?_
            refine EvF.gop 391 (go_lload d_Mod_measure_389 4 rfl) rfl ?_
            refine EvF.gop 392 (go_lmul d_Mod_measure_391) rfl ?_
            refine EvF.gop 394 (go_lload d_Mod_measure_392 4 rfl) rfl ?_
            refine EvF.gop 395 (go_lmul d_Mod_measure_394) rfl ?_
            refine EvF.gop 397 (go_lload d_Mod_measure_395 5 rfl) rfl ?_
            refine EvF.gop 399 (go_lload d_Mod_measure_397 5 rfl) rfl ?_
            refine EvF.gop 400 (go_lmul d_Mod_measure_399) rfl ?_
            refine EvF.gop 402 (go_lload d_Mod_measure_400 5 rfl) rfl ?_
            refine EvF.gop 403 (go_lmul d_Mod_measure_402) rfl ?_
            refine EvF.gop 404 (go_ldiv d_Mod_measure_403 (hz _ (Or.inr rfl) (hsn (by assumption) (by assumption)))) rfl ?_
            refine EvF.go (go_vl (y := v2) (hv2)) ?_
            refine EvF.gop 405 (go_l2i d_Mod_measure_404) rfl ?_
            refine EvF.gop 408 (go_put (oMod a (upd (upd (upd (upd (upd s 33 (nI f)) 34 T.1) 35 T.2.2.1) 36 T.2.2.2) 37 v2.toInt32) c) f_Mod_176 ft_Mod_37 d_Mod_measure_405 (gRd_s _ _ _) rfl rfl (Nat.le_of_ble_eq_true rfl) rfl) rfl ?_
            refine EvF.go (go_m (M' := (gWr M A (.inr (11, oMod a (upd (upd (upd (upd (upd s 33 (nI f)) 34 T.1) 35 T.2.2.1) 36 T.2.2.2) 37 v2.toInt32) c)))) (gWr_wr M A (.inr (11, oMod a (upd (upd (upd (upd (upd s 33 (nI f)) 34 T.1) 35 T.2.2.1) 36 T.2.2.2) 37 0) c)) (.inr (11, oMod a (upd (upd (upd (upd (upd s 33 (nI f)) 34 T.1) 35 T.2.2.1) 36 T.2.2.2) 37 v2.toInt32) c)))) ?_
            refine EvF.gop 409 (go_aload_n d_Mod_measure_408 rfl 0 rfl) rfl ?_
            refine EvF.gop 412 (go_get f_Mod_176 d_Mod_measure_409 (gRd_s _ _ _) rfl) rfl ?_
            refine EvF.gop 413 (go_aload_n d_Mod_measure_412 rfl 0 rfl) rfl ?_
            refine EvF.gop 416 (go_get f_Mod_16 d_Mod_measure_413 (gRd_s _ _ _) rfl) rfl ?_
            refine EvF.gop 417 (go_iconst (v := 1) d_Mod_measure_416 (by decide)) rfl ?_
            refine EvF.gop 418 (go_iald (j := 1) d_Mod_measure_417 ((gRd_n _ _ (Ne.symm (hI.2 3))).trans (m3)) (rfl) (by omega) (by omega)) rfl ?_
            by_cases c11 : (PP 1) < v2.toInt32
            · have c11x : ¬ v2.toInt32 ≤ (PP 1) := Int32.not_le.mpr c11
              refine EvF.gop 425 (go_icmp_gt_t 425 d_Mod_measure_418 (by decide) (c11)) rfl ?_
              refine EvF.gop 426 (go_iconst (v := 0) d_Mod_measure_425 (by decide)) rfl ?_
              rw [if_pos (show T.2.1 = true by assumption)]
              have eM : (mdG (K j) (PP 1) T.2.2.1 T.2.2.2 d v1 v2) = (decide (v2.toInt32 ≤ PP 1), v2.toInt32) := by unfold mdG; exact (if_neg (by rintro ⟨q1, q2⟩; first | exact absurd q1 (by assumption) | exact absurd q2 (by assumption))).trans ((if_pos (by assumption)).trans (if_neg (by assumption)))
              rw [eM]
              exact EvF.rz d_Mod_measure_426 rfl (by decide) (by simp [bI, *]) (rfl)
            · have c11x : v2.toInt32 ≤ (PP 1) := Int32.not_lt.mp c11
              refine EvF.gop 421 (go_icmp_gt_f 425 d_Mod_measure_418 (by decide) (c11)) rfl ?_
              refine EvF.gop 422 (go_iconst (v := 1) d_Mod_measure_421 (by decide)) rfl ?_
              refine EvF.gop 426 (go_goto 426 d_Mod_measure_422 (by decide)) rfl ?_
              rw [if_pos (show T.2.1 = true by assumption)]
              have eM : (mdG (K j) (PP 1) T.2.2.1 T.2.2.2 d v1 v2) = (decide (v2.toInt32 ≤ PP 1), v2.toInt32) := by unfold mdG; exact (if_neg (by rintro ⟨q1, q2⟩; first | exact absurd q1 (by assumption) | exact absurd q2 (by assumption))).trans ((if_pos (by assumption)).trans (if_neg (by assumption)))
              rw [eM]
              exact EvF.rz d_Mod_measure_426 rfl (by decide) (by simp [bI, *]) (rfl)
          · have c10x : 0 < (lg_cmp (-d) T.2.2.2.toInt64) := Int32.not_le.mp c10
            refine EvF.gop 373 (go_if_le_f 375 d_Mod_measure_370 (by decide) (c10)) rfl ?_
            refine EvF.gop 374 (go_iconst (v := 0) d_Mod_measure_373 (by decide)) rfl ?_
            rw [if_pos (show T.2.1 = true by assumption)]
            have eM : (mdG (K j) (PP 1) T.2.2.1 T.2.2.2 d v1 v2) = (false, 0) := by unfold mdG; exact (if_neg (by rintro ⟨q1, q2⟩; first | exact absurd q1 (by assumption) | exact absurd q2 (by assumption))).trans ((if_pos (by assumption)).trans (if_pos (by assumption)))
            rw [eM]
            exact EvF.rz d_Mod_measure_374 rfl (by decide) (rfl) (rfl)
      · have c7x : (K j) < 3 := Int32.not_le.mp c7
        refine EvF.gop 293 (go_icmp_ge_f 354 d_Mod_measure_290 (by decide) (c7)) rfl ?_
        refine EvF.gop 294 (go_aload_n d_Mod_measure_293 rfl 0 rfl) rfl ?_
        refine EvF.gop 297 (go_get f_Mod_182 d_Mod_measure_294 (gRd_s _ _ _) rfl) rfl ?_
        by_cases c12 : T.2.2.1 = 0
        · refine EvF.gop 300 (go_if_ne_f 302 d_Mod_measure_297 (by decide) (c12)) rfl ?_
          refine EvF.gop 301 (go_iconst (v := 0) d_Mod_measure_300 (by decide)) rfl ?_
          rw [if_pos (show T.2.1 = true by assumption)]
          have eM : (mdG (K j) (PP 1) T.2.2.1 T.2.2.2 d v1 v2) = (false, 0) := by unfold mdG; exact (if_pos (And.intro (by assumption) (by assumption))).trans (if_pos (by assumption))
          rw [eM]
          exact EvF.rz d_Mod_measure_301 rfl (by decide) (rfl) (rfl)
        · refine EvF.gop 302 (go_if_ne_t 302 d_Mod_measure_297 (by decide) (c12)) rfl ?_
          refine EvF.gop 303 (go_aload_n d_Mod_measure_302 rfl 0 rfl) rfl ?_
          refine EvF.gop 306 (go_get f_Mod_182 d_Mod_measure_303 (gRd_s _ _ _) rfl) rfl ?_
          refine EvF.gop 307 (go_i2l d_Mod_measure_306) rfl ?_
          refine EvF.gop 309 (go_lstore [(6, .long T.2.2.1.toInt64), (0, .ref A), (1, .int (nI i)), (2, .int (nI j)), (3, .int (bI T.2.1)), (4, .long d)] d_Mod_measure_307 (by decide) rfl) rfl ?_
          refine EvF.go (go_pick [1, 2, 3, 4, 5, 0] [(0, .ref A), (1, .int (nI i)), (2, .int (nI j)), (3, .int (bI T.2.1)), (4, .long d), (6, .long T.2.2.1.toInt64)] rfl) ?_
          refine EvF.gop 312 (go_ldc2 (v := 100) d_Mod_measure_309 kl_Mod_185) rfl ?_
          refine EvF.gop 314 (go_lload d_Mod_measure_312 4 rfl) rfl ?_
          refine EvF.gop 315 (go_lmul d_Mod_measure_314) rfl ?_
          refine EvF.gop 317 (go_lload d_Mod_measure_315 4 rfl) rfl ?_
          refine EvF.gop 318 (go_lmul d_Mod_measure_317) rfl ?_
          refine EvF.gop 320 (go_lload d_Mod_measure_318 4 rfl) rfl ?_
          refine EvF.gop 321 (go_lmul d_Mod_measure_320) rfl ?_
          refine EvF.gop 323 (go_lload d_Mod_measure_321 5 rfl) rfl ?_
          refine EvF.gop 325 (go_lload d_Mod_measure_323 5 rfl) rfl ?_
          refine EvF.gop 326 (go_lmul d_Mod_measure_325) rfl ?_
          refine EvF.gop 328 (go_lload d_Mod_measure_326 5 rfl) rfl ?_
          refine EvF.gop 329 (go_lmul d_Mod_measure_328) rfl ?_
          refine EvF.gop 330 (go_ldiv d_Mod_measure_329 (hz _ (Or.inl rfl) (by assumption))) rfl ?_
          refine EvF.go (go_vl (y := v1) (hv1)) ?_
          refine EvF.gop 332 (go_lstore [(8, .long v1), (0, .ref A), (1, .int (nI i)), (2, .int (nI j)), (3, .int (bI T.2.1)), (4, .long d), (6, .long T.2.2.1.toInt64)] d_Mod_measure_330 (by decide) rfl) rfl ?_
          refine EvF.go (go_pick [1, 2, 3, 4, 5, 6, 0] [(0, .ref A), (1, .int (nI i)), (2, .int (nI j)), (3, .int (bI T.2.1)), (4, .long d), (6, .long T.2.2.1.toInt64), (8, .long v1)] rfl) ?_
          refine EvF.gop 334 (go_lload d_Mod_measure_332 6 rfl) rfl ?_
          refine EvF.gop 335 (go_aload_n d_Mod_measure_334 rfl 0 rfl) rfl ?_
          refine EvF.gop 338 (go_get f_Mod_16 d_Mod_measure_335 (gRd_s _ _ _) rfl) rfl ?_
          refine EvF.gop 339 (go_iconst (v := 1) d_Mod_measure_338 (by decide)) rfl ?_
          refine EvF.gop 340 (go_iald (j := 1) d_Mod_measure_339 ((gRd_n _ _ (Ne.symm (hI.2 3))).trans (m3)) (rfl) (by omega) (by omega)) rfl ?_
          refine EvF.gop 341 (go_i2l d_Mod_measure_340) rfl ?_
          refine EvF.gop 342 (go_lcmp d_Mod_measure_341) rfl ?_
          by_cases c13 : (lg_cmp v1 ((PP 1).toInt64)) ≤ 0
          · have c13x : ¬ 0 < (lg_cmp v1 ((PP 1).toInt64)) := Int32.not_lt.mpr c13
            refine EvF.gop 347 (go_if_le_t 347 d_Mod_measure_342 (by decide) (c13)) rfl ?_
            refine EvF.gop 348 (go_aload_n d_Mod_measure_347 rfl 0 rfl) rfl ?_
            refine EvF.gop 350 (go_lload d_Mod_measure_348 6 rfl) rfl ?_
            refine EvF.gop 351 (go_l2i d_Mod_measure_350) rfl ?_
            refine EvF.gop 354 (go_put (oMod a (upd (upd (upd (upd (upd s 33 (nI f)) 34 T.1) 35 T.2.2.1) 36 T.2.2.2) 37 v1.toInt32) c) f_Mod_176 ft_Mod_37 d_Mod_measure_351 (gRd_s _ _ _) rfl rfl (Nat.le_of_ble_eq_true rfl) rfl) rfl ?_
            refine EvF.go (go_m (M' := (gWr M A (.inr (11, oMod a (upd (upd (upd (upd (upd s 33 (nI f)) 34 T.1) 35 T.2.2.1) 36 T.2.2.2) 37 v1.toInt32) c)))) (gWr_wr M A (.inr (11, oMod a (upd (upd (upd (upd (upd s 33 (nI f)) 34 T.1) 35 T.2.2.1) 36 T.2.2.2) 37 0) c)) (.inr (11, oMod a (upd (upd (upd (upd (upd s 33 (nI f)) 34 T.1) 35 T.2.2.1) 36 T.2.2.2) 37 v1.toInt32) c)))) ?_
            refine EvF.gop 356 (go_lload d_Mod_measure_354 4 rfl) rfl ?_
            refine EvF.gop 357 (go_lconst (v := 0) d_Mod_measure_356 (by decide)) rfl ?_
            refine EvF.gop 358 (go_lcmp d_Mod_measure_357) rfl ?_
            refine EvF.gop 408 (go_if_ge_t 408 d_Mod_measure_358 (by decide) (show 0 ≤ lg_cmp d 0 from Int32.le_of_lt (by assumption))) rfl ?_
            refine EvF.gop 409 (go_aload_n d_Mod_measure_408 rfl 0 rfl) rfl ?_
            refine EvF.gop 412 (go_get f_Mod_176 d_Mod_measure_409 (gRd_s _ _ _) rfl) rfl ?_
            refine EvF.gop 413 (go_aload_n d_Mod_measure_412 rfl 0 rfl) rfl ?_
            refine EvF.gop 416 (go_get f_Mod_16 d_Mod_measure_413 (gRd_s _ _ _) rfl) rfl ?_
            refine EvF.gop 417 (go_iconst (v := 1) d_Mod_measure_416 (by decide)) rfl ?_
            refine EvF.gop 418 (go_iald (j := 1) d_Mod_measure_417 ((gRd_n _ _ (Ne.symm (hI.2 3))).trans (m3)) (rfl) (by omega) (by omega)) rfl ?_
            by_cases c14 : (PP 1) < v1.toInt32
            · have c14x : ¬ v1.toInt32 ≤ (PP 1) := Int32.not_le.mpr c14
              refine EvF.gop 425 (go_icmp_gt_t 425 d_Mod_measure_418 (by decide) (c14)) rfl ?_
              refine EvF.gop 426 (go_iconst (v := 0) d_Mod_measure_425 (by decide)) rfl ?_
              rw [if_pos (show T.2.1 = true by assumption)]
              have eM : (mdG (K j) (PP 1) T.2.2.1 T.2.2.2 d v1 v2) = (decide (v1.toInt32 ≤ PP 1), v1.toInt32) := by unfold mdG; exact (if_pos (And.intro (by assumption) (by assumption))).trans ((if_neg (by assumption)).trans (if_neg (by assumption)))
              rw [eM]
              exact EvF.rz d_Mod_measure_426 rfl (by decide) (by simp [bI, *]) (rfl)
            · have c14x : v1.toInt32 ≤ (PP 1) := Int32.not_lt.mp c14
              refine EvF.gop 421 (go_icmp_gt_f 425 d_Mod_measure_418 (by decide) (c14)) rfl ?_
              refine EvF.gop 422 (go_iconst (v := 1) d_Mod_measure_421 (by decide)) rfl ?_
              refine EvF.gop 426 (go_goto 426 d_Mod_measure_422 (by decide)) rfl ?_
              rw [if_pos (show T.2.1 = true by assumption)]
              have eM : (mdG (K j) (PP 1) T.2.2.1 T.2.2.2 d v1 v2) = (decide (v1.toInt32 ≤ PP 1), v1.toInt32) := by unfold mdG; exact (if_pos (And.intro (by assumption) (by assumption))).trans ((if_neg (by assumption)).trans (if_neg (by assumption)))
              rw [eM]
              exact EvF.rz d_Mod_measure_426 rfl (by decide) (by simp [bI, *]) (rfl)
          · have c13x : 0 < (lg_cmp v1 ((PP 1).toInt64)) := Int32.not_le.mp c13
            refine EvF.gop 345 (go_if_le_f 347 d_Mod_measure_342 (by decide) (c13)) rfl ?_
            refine EvF.gop 346 (go_iconst (v := 0) d_Mod_measure_345 (by decide)) rfl ?_
            rw [if_pos (show T.2.1 = true by assumption)]
            have eM : (mdG (K j) (PP 1) T.2.2.1 T.2.2.2 d v1 v2) = (false, 0) := by unfold mdG; exact (if_pos (And.intro (by assumption) (by assumption))).trans ((if_neg (by assumption)).trans (if_pos (by assumption)))
            rw [eM]
            exact EvF.rz d_Mod_measure_346 rfl (by decide) (rfl) (rfl)
/-- what measure answers of the line from break i to break j, and what it leaves -/
def meF (wt PP ci si K : Nat → Int32) (i j e g : Nat) (V : mV) : Bool × mV := if nbF K (j - (i + 1)) (i + 1) = true then (if (msF wt ci si (e - (fsF ci (e - g) g)) (fsF ci (e - g) g) ((if K j = 2 then wt 45 else 0), false, 0, 0)).2.1 = true then mdF (K j) (PP 0) (PP 1) (nI (fsF ci (e - g) g)) (msF wt ci si (e - (fsF ci (e - g) g)) (fsF ci (e - g) g) ((if K j = 2 then wt 45 else 0), false, 0, 0)).1 (msF wt ci si (e - (fsF ci (e - g) g)) (fsF ci (e - g) g) ((if K j = 2 then wt 45 else 0), false, 0, 0)).2.2.1 (msF wt ci si (e - (fsF ci (e - g) g)) (fsF ci (e - g) g) ((if K j = 2 then wt 45 else 0), false, 0, 0)).2.2.2 else (false, (nI (fsF ci (e - g) g), (msF wt ci si (e - (fsF ci (e - g) g)) (fsF ci (e - g) g) ((if K j = 2 then wt 45 else 0), false, 0, 0)).1, (msF wt ci si (e - (fsF ci (e - g) g)) (fsF ci (e - g) g) ((if K j = 2 then wt 45 else 0), false, 0, 0)).2.2.1, (msF wt ci si (e - (fsF ci (e - g) g)) (fsF ci (e - g) g) ((if K j = 2 then wt 45 else 0), false, 0, 0)).2.2.2, 0))) else (false, V)
theorem e_Mod_measure (G : gG) (M : gM) (A : Nat) (a : Nat → Nat) (s : Nat → Int32) (c : Int64) (wt PP ci si K E B : Nat → Int32) (i j e g n : Nat) (hI : InjA A a) (m2 : gRd M (a 2) = some (aI G 128 wt)) (m3 : gRd M (a 3) = some (aI G 5 PP)) (m17 : gRd M (a 17) = some (aI G 120 ci)) (m18 : gRd M (a 18) = some (aI G 120 si)) (m25 : gRd M (a 25) = some (aI G 26 K)) (m26 : gRd M (a 26) = some (aI G 26 E)) (m27 : gRd M (a 27) = some (aI G 26 B)) (hi : i < j) (hj : j ≤ 24) (hE : E j = nI e) (hB : B i = nI g) (he : e ≤ n) (hg : g ≤ 120) (hn : n ≤ 120) (hc : ∀ k, k < n → ci k = nI (ci k).toNatClampNeg ∧ (ci k).toNatClampNeg < 128) (hz : ∀ x : Int32, (x = (msF wt ci si (e - (fsF ci (e - g) g)) (fsF ci (e - g) g) ((if K j = 2 then wt 45 else 0), false, 0, 0)).2.2.1 ∨ x = (msF wt ci si (e - (fsF ci (e - g) g)) (fsF ci (e - g) g) ((if K j = 2 then wt 45 else 0), false, 0, 0)).2.2.2) → ¬ x = 0 → ¬ x.toInt64 * x.toInt64 * x.toInt64 = 0) (V : mV) : Ev G 0 m_Mod_measure [.ref A, .int (nI i), .int (nI j)] (gWr M A (.inr (11, oMod a (upd (upd (upd (upd (upd s 33 V.1) 34 V.2.1) 35 V.2.2.1) 36 V.2.2.2.1) 37 V.2.2.2.2) c))) (some (.int (bI (meF wt PP ci si K i j e g V).1))) (gWr M A (.inr (11, oMod a (upd (upd (upd (upd (upd s 33 ((meF wt PP ci si K i j e g V).2.1)) 34 ((meF wt PP ci si K i j e g V).2.2.1)) 35 ((meF wt PP ci si K i j e g V).2.2.2.1)) 36 ((meF wt PP ci si K i j e g V).2.2.2.2.1)) 37 ((meF wt PP ci si K i j e g V).2.2.2.2.2)) c))) := by
  refine Ev.of (Nat.le_of_ble_eq_true rfl) ?_
  show EvF G 0 m_Mod_measure (0, [(0, .ref A), (1, .int (nI i)), (2, .int (nI j))], [], (gWr M A (.inr (11, oMod a (upd (upd (upd (upd (upd s 33 V.1) 34 V.2.1) 35 V.2.2.1) 36 V.2.2.2.1) 37 V.2.2.2.2) c)))) _ _
  refine EvF.gop 1 (go_iload_n d_Mod_measure_0 rfl 1 rfl) rfl ?_
  refine EvF.gop 2 (go_iconst (v := 1) d_Mod_measure_1 (by decide)) rfl ?_
  refine EvF.gop 3 (go_iadd d_Mod_measure_2) rfl ?_
  refine EvF.go (go_v (y := nI (i + 1)) (nI_add i 1)) ?_
  refine EvF.gop 4 (go_istore_n [(3, .int (nI (i + 1))), (0, .ref A), (1, .int (nI i)), (2, .int (nI j))] d_Mod_measure_3 rfl (by decide) rfl) rfl ?_
  refine EvF.go (go_pick [1, 2, 3, 0] [(0, .ref A), (1, .int (nI i)), (2, .int (nI j)), (3, .int (nI (i + 1)))] rfl) ?_
  cases hnb : nbF K (j - (i + 1)) (i + 1) with
  | false =>
    rw [show (meF wt PP ci si K i j e g V) = (false, V) from if_neg (by rw [hnb]; decide)]
    exact g_Mod_me1F G M A a s c wt PP ci si K E B i j e g n hI m2 m3 m17 m18 m25 m26 m27 hi hj hE hB he hg hn hc V _ _ (by omega) hnb
  | true =>
    have hf9 := fsF_le ci (e - g) g
    have hf8 : (fsF ci (e - g) g) ≤ 120 := by omega
    refine EvF.go (g_Mod_me1 G M A a s c wt PP ci si K E B i j e g n hI m2 m3 m17 m18 m25 m26 m27 hi hj hE hB he hg hn hc V _ _ (by omega) hnb) ?_
    refine EvF.gop 28 (go_aload_n d_Mod_measure_27 rfl 0 rfl) rfl ?_
    refine EvF.gop 29 (go_aload_n d_Mod_measure_28 rfl 0 rfl) rfl ?_
    refine EvF.gop 32 (go_get f_Mod_71 d_Mod_measure_29 (gRd_s _ _ _) rfl) rfl ?_
    refine EvF.gop 33 (go_iload_n d_Mod_measure_32 rfl 1 rfl) rfl ?_
    refine EvF.gop 34 (go_iald (j := i) d_Mod_measure_33 ((gRd_n _ _ (Ne.symm (hI.2 27))).trans (m27)) (rfl) (by omega) (by omega)) rfl ?_
    refine EvF.go (go_v (y := nI g) (hB)) ?_
    refine EvF.gop 37 (go_put (oMod a (upd (upd (upd (upd (upd s 33 (nI g)) 34 V.2.1) 35 V.2.2.1) 36 V.2.2.2.1) 37 V.2.2.2.2) c) f_Mod_170 ft_Mod_33 d_Mod_measure_34 (gRd_s _ _ _) rfl rfl (Nat.le_of_ble_eq_true rfl) rfl) rfl ?_
    refine EvF.go (go_m (M' := (gWr M A (.inr (11, oMod a (upd (upd (upd (upd (upd s 33 (nI g)) 34 V.2.1) 35 V.2.2.1) 36 V.2.2.2.1) 37 V.2.2.2.2) c)))) (gWr_wr M A (.inr (11, oMod a (upd (upd (upd (upd (upd s 33 V.1) 34 V.2.1) 35 V.2.2.1) 36 V.2.2.2.1) 37 V.2.2.2.2) c)) (.inr (11, oMod a (upd (upd (upd (upd (upd s 33 (nI g)) 34 V.2.1) 35 V.2.2.1) 36 V.2.2.2.1) 37 V.2.2.2.2) c)))) ?_
    refine EvF.go (g_Mod_me2 G M A a s c wt PP ci si K E B i j e g n hI m2 m3 m17 m18 m25 m26 m27 hi hj hE hB he hg hn hc V (e - g) g rfl hg) ?_
    generalize hfe : (fsF ci (e - g) g) = f at *
    have eR : (meF wt PP ci si K i j e g V) = (if (msF wt ci si (e - f) f ((if K j = 2 then wt 45 else 0), false, 0, 0)).2.1 = true then mdF (K j) (PP 0) (PP 1) (nI f) (msF wt ci si (e - f) f ((if K j = 2 then wt 45 else 0), false, 0, 0)).1 (msF wt ci si (e - f) f ((if K j = 2 then wt 45 else 0), false, 0, 0)).2.2.1 (msF wt ci si (e - f) f ((if K j = 2 then wt 45 else 0), false, 0, 0)).2.2.2 else (false, (nI f, (msF wt ci si (e - f) f ((if K j = 2 then wt 45 else 0), false, 0, 0)).1, (msF wt ci si (e - f) f ((if K j = 2 then wt 45 else 0), false, 0, 0)).2.2.1, (msF wt ci si (e - f) f ((if K j = 2 then wt 45 else 0), false, 0, 0)).2.2.2, 0))) := by unfold meF; rw [if_pos hnb, hfe]
    rw [eR]
    by_cases h2 : K j = 2
    · refine EvF.gop 78 (go_aload_n d_Mod_measure_77 rfl 0 rfl) rfl ?_
      refine EvF.gop 79 (go_aload_n d_Mod_measure_78 rfl 0 rfl) rfl ?_
      refine EvF.gop 82 (go_get f_Mod_65 d_Mod_measure_79 (gRd_s _ _ _) rfl) rfl ?_
      refine EvF.gop 83 (go_iload_n d_Mod_measure_82 rfl 2 rfl) rfl ?_
      refine EvF.gop 84 (go_iald (j := j) d_Mod_measure_83 ((gRd_n _ _ (Ne.symm (hI.2 25))).trans (m25)) (rfl) (by omega) (by omega)) rfl ?_
      refine EvF.gop 85 (go_iconst (v := 2) d_Mod_measure_84 (by decide)) rfl ?_
      refine EvF.gop 88 (go_icmp_ne_f 98 d_Mod_measure_85 (by decide) (h2)) rfl ?_
      refine EvF.gop 89 (go_aload_n d_Mod_measure_88 rfl 0 rfl) rfl ?_
      refine EvF.gop 92 (go_get f_Mod_13 d_Mod_measure_89 (gRd_s _ _ _) rfl) rfl ?_
      refine EvF.gop 94 (go_bipush (v := 45) d_Mod_measure_92 (by decide)) rfl ?_
      refine EvF.gop 95 (go_iald (j := 45) d_Mod_measure_94 ((gRd_n _ _ (Ne.symm (hI.2 2))).trans (m2)) (rfl) (by omega) (by omega)) rfl ?_
      refine EvF.gop 99 (go_goto 99 d_Mod_measure_95 (by decide)) rfl ?_
      refine EvF.go (go_v (y := (if K j = 2 then wt 45 else 0)) ((if_pos h2).symm)) ?_
      refine EvF.gop 102 (go_put (oMod a (upd (upd (upd (upd (upd s 33 (nI f)) 34 (if K j = 2 then wt 45 else 0)) 35 V.2.2.1) 36 V.2.2.2.1) 37 V.2.2.2.2) c) f_Mod_173 ft_Mod_34 d_Mod_measure_99 (gRd_s _ _ _) rfl rfl (Nat.le_of_ble_eq_true rfl) rfl) rfl ?_
      refine EvF.go (go_m (M' := (gWr M A (.inr (11, oMod a (upd (upd (upd (upd (upd s 33 (nI f)) 34 (if K j = 2 then wt 45 else 0)) 35 V.2.2.1) 36 V.2.2.2.1) 37 V.2.2.2.2) c)))) (gWr_wr M A (.inr (11, oMod a (upd (upd (upd (upd (upd s 33 (nI f)) 34 V.2.1) 35 V.2.2.1) 36 V.2.2.2.1) 37 V.2.2.2.2) c)) (.inr (11, oMod a (upd (upd (upd (upd (upd s 33 (nI f)) 34 (if K j = 2 then wt 45 else 0)) 35 V.2.2.1) 36 V.2.2.2.1) 37 V.2.2.2.2) c)))) ?_
      refine EvF.gop 103 (go_aload_n d_Mod_measure_102 rfl 0 rfl) rfl ?_
      refine EvF.gop 104 (go_aload_n d_Mod_measure_103 rfl 0 rfl) rfl ?_
      refine EvF.gop 105 (go_aload_n d_Mod_measure_104 rfl 0 rfl) rfl ?_
      refine EvF.gop 106 (go_iconst (v := 0) d_Mod_measure_105 (by decide)) rfl ?_
      refine EvF.gop 107 (go_dup_x1 d_Mod_measure_106 rfl rfl) rfl ?_
      refine EvF.gop 110 (go_put (oMod a (upd (upd (upd (upd (upd s 33 (nI f)) 34 (if K j = 2 then wt 45 else 0)) 35 V.2.2.1) 36 V.2.2.2.1) 37 0) c) f_Mod_176 ft_Mod_37 d_Mod_measure_107 (gRd_s _ _ _) rfl rfl (Nat.le_of_ble_eq_true rfl) rfl) rfl ?_
      refine EvF.go (go_m (M' := (gWr M A (.inr (11, oMod a (upd (upd (upd (upd (upd s 33 (nI f)) 34 (if K j = 2 then wt 45 else 0)) 35 V.2.2.1) 36 V.2.2.2.1) 37 0) c)))) (gWr_wr M A (.inr (11, oMod a (upd (upd (upd (upd (upd s 33 (nI f)) 34 (if K j = 2 then wt 45 else 0)) 35 V.2.2.1) 36 V.2.2.2.1) 37 V.2.2.2.2) c)) (.inr (11, oMod a (upd (upd (upd (upd (upd s 33 (nI f)) 34 (if K j = 2 then wt 45 else 0)) 35 V.2.2.1) 36 V.2.2.2.1) 37 0) c)))) ?_
      refine EvF.gop 111 (go_dup_x1 d_Mod_measure_110 rfl rfl) rfl ?_
      refine EvF.gop 114 (go_put (oMod a (upd (upd (upd (upd (upd s 33 (nI f)) 34 (if K j = 2 then wt 45 else 0)) 35 V.2.2.1) 36 0) 37 0) c) f_Mod_179 ft_Mod_36 d_Mod_measure_111 (gRd_s _ _ _) rfl rfl (Nat.le_of_ble_eq_true rfl) rfl) rfl ?_
      refine EvF.go (go_m (M' := (gWr M A (.inr (11, oMod a (upd (upd (upd (upd (upd s 33 (nI f)) 34 (if K j = 2 then wt 45 else 0)) 35 V.2.2.1) 36 0) 37 0) c)))) (gWr_wr M A (.inr (11, oMod a (upd (upd (upd (upd (upd s 33 (nI f)) 34 (if K j = 2 then wt 45 else 0)) 35 V.2.2.1) 36 V.2.2.2.1) 37 0) c)) (.inr (11, oMod a (upd (upd (upd (upd (upd s 33 (nI f)) 34 (if K j = 2 then wt 45 else 0)) 35 V.2.2.1) 36 0) 37 0) c)))) ?_
      refine EvF.gop 117 (go_put (oMod a (upd (upd (upd (upd (upd s 33 (nI f)) 34 (if K j = 2 then wt 45 else 0)) 35 0) 36 0) 37 0) c) f_Mod_182 ft_Mod_35 d_Mod_measure_114 (gRd_s _ _ _) rfl rfl (Nat.le_of_ble_eq_true rfl) rfl) rfl ?_
      refine EvF.go (go_m (M' := (gWr M A (.inr (11, oMod a (upd (upd (upd (upd (upd s 33 (nI f)) 34 (if K j = 2 then wt 45 else 0)) 35 0) 36 0) 37 0) c)))) (gWr_wr M A (.inr (11, oMod a (upd (upd (upd (upd (upd s 33 (nI f)) 34 (if K j = 2 then wt 45 else 0)) 35 V.2.2.1) 36 0) 37 0) c)) (.inr (11, oMod a (upd (upd (upd (upd (upd s 33 (nI f)) 34 (if K j = 2 then wt 45 else 0)) 35 0) 36 0) 37 0) c)))) ?_
      refine EvF.gop 118 (go_iconst (v := bI false) d_Mod_measure_117 (rfl)) rfl ?_
      refine EvF.gop 119 (go_istore_n [(3, .int (bI false)), (0, .ref A), (1, .int (nI i)), (2, .int (nI j))] d_Mod_measure_118 rfl (by decide) rfl) rfl ?_
      refine EvF.go (go_pick [1, 2, 3, 0] [(0, .ref A), (1, .int (nI i)), (2, .int (nI j)), (3, .int (bI false))] rfl) ?_
      refine EvF.gop 120 (go_aload_n d_Mod_measure_119 rfl 0 rfl) rfl ?_
      refine EvF.gop 123 (go_get f_Mod_170 d_Mod_measure_120 (gRd_s _ _ _) rfl) rfl ?_
      refine EvF.gop 125 (go_istore [(4, .int (nI f)), (0, .ref A), (1, .int (nI i)), (2, .int (nI j)), (3, .int (bI false))] d_Mod_measure_123 (by decide) rfl) rfl ?_
      refine EvF.go (go_pick [1, 2, 3, 4, 0] [(0, .ref A), (1, .int (nI i)), (2, .int (nI j)), (3, .int (bI false)), (4, .int (nI f))] rfl) ?_
      refine EvF.go (g_Mod_me3 G M A a s c wt PP ci si K E B i j e g n hI m2 m3 m17 m18 m25 m26 m27 hi hj hE hB he hg hn hc f (e - f) f ((if K j = 2 then wt 45 else 0), false, 0, 0) rfl (by omega)) ?_
      exact g_Mod_me4 G M A a s c wt PP ci si K E B i j e g n hI m2 m3 m17 m18 m25 m26 m27 hi hj hE hB he hg hn hc f _ _ _ _ rfl rfl rfl hz shr_ne
    · refine EvF.gop 78 (go_aload_n d_Mod_measure_77 rfl 0 rfl) rfl ?_
      refine EvF.gop 79 (go_aload_n d_Mod_measure_78 rfl 0 rfl) rfl ?_
      refine EvF.gop 82 (go_get f_Mod_65 d_Mod_measure_79 (gRd_s _ _ _) rfl) rfl ?_
      refine EvF.gop 83 (go_iload_n d_Mod_measure_82 rfl 2 rfl) rfl ?_
      refine EvF.gop 84 (go_iald (j := j) d_Mod_measure_83 ((gRd_n _ _ (Ne.symm (hI.2 25))).trans (m25)) (rfl) (by omega) (by omega)) rfl ?_
      refine EvF.gop 85 (go_iconst (v := 2) d_Mod_measure_84 (by decide)) rfl ?_
      refine EvF.gop 98 (go_icmp_ne_t 98 d_Mod_measure_85 (by decide) (h2)) rfl ?_
      refine EvF.gop 99 (go_iconst (v := 0) d_Mod_measure_98 (by decide)) rfl ?_
      refine EvF.go (go_v (y := (if K j = 2 then wt 45 else 0)) ((if_neg h2).symm)) ?_
      refine EvF.gop 102 (go_put (oMod a (upd (upd (upd (upd (upd s 33 (nI f)) 34 (if K j = 2 then wt 45 else 0)) 35 V.2.2.1) 36 V.2.2.2.1) 37 V.2.2.2.2) c) f_Mod_173 ft_Mod_34 d_Mod_measure_99 (gRd_s _ _ _) rfl rfl (Nat.le_of_ble_eq_true rfl) rfl) rfl ?_
      refine EvF.go (go_m (M' := (gWr M A (.inr (11, oMod a (upd (upd (upd (upd (upd s 33 (nI f)) 34 (if K j = 2 then wt 45 else 0)) 35 V.2.2.1) 36 V.2.2.2.1) 37 V.2.2.2.2) c)))) (gWr_wr M A (.inr (11, oMod a (upd (upd (upd (upd (upd s 33 (nI f)) 34 V.2.1) 35 V.2.2.1) 36 V.2.2.2.1) 37 V.2.2.2.2) c)) (.inr (11, oMod a (upd (upd (upd (upd (upd s 33 (nI f)) 34 (if K j = 2 then wt 45 else 0)) 35 V.2.2.1) 36 V.2.2.2.1) 37 V.2.2.2.2) c)))) ?_
      refine EvF.gop 103 (go_aload_n d_Mod_measure_102 rfl 0 rfl) rfl ?_
      refine EvF.gop 104 (go_aload_n d_Mod_measure_103 rfl 0 rfl) rfl ?_
      refine EvF.gop 105 (go_aload_n d_Mod_measure_104 rfl 0 rfl) rfl ?_
      refine EvF.gop 106 (go_iconst (v := 0) d_Mod_measure_105 (by decide)) rfl ?_
      refine EvF.gop 107 (go_dup_x1 d_Mod_measure_106 rfl rfl) rfl ?_
      refine EvF.gop 110 (go_put (oMod a (upd (upd (upd (upd (upd s 33 (nI f)) 34 (if K j = 2 then wt 45 else 0)) 35 V.2.2.1) 36 V.2.2.2.1) 37 0) c) f_Mod_176 ft_Mod_37 d_Mod_measure_107 (gRd_s _ _ _) rfl rfl (Nat.le_of_ble_eq_true rfl) rfl) rfl ?_
      refine EvF.go (go_m (M' := (gWr M A (.inr (11, oMod a (upd (upd (upd (upd (upd s 33 (nI f)) 34 (if K j = 2 then wt 45 else 0)) 35 V.2.2.1) 36 V.2.2.2.1) 37 0) c)))) (gWr_wr M A (.inr (11, oMod a (upd (upd (upd (upd (upd s 33 (nI f)) 34 (if K j = 2 then wt 45 else 0)) 35 V.2.2.1) 36 V.2.2.2.1) 37 V.2.2.2.2) c)) (.inr (11, oMod a (upd (upd (upd (upd (upd s 33 (nI f)) 34 (if K j = 2 then wt 45 else 0)) 35 V.2.2.1) 36 V.2.2.2.1) 37 0) c)))) ?_
      refine EvF.gop 111 (go_dup_x1 d_Mod_measure_110 rfl rfl) rfl ?_
      refine EvF.gop 114 (go_put (oMod a (upd (upd (upd (upd (upd s 33 (nI f)) 34 (if K j = 2 then wt 45 else 0)) 35 V.2.2.1) 36 0) 37 0) c) f_Mod_179 ft_Mod_36 d_Mod_measure_111 (gRd_s _ _ _) rfl rfl (Nat.le_of_ble_eq_true rfl) rfl) rfl ?_
      refine EvF.go (go_m (M' := (gWr M A (.inr (11, oMod a (upd (upd (upd (upd (upd s 33 (nI f)) 34 (if K j = 2 then wt 45 else 0)) 35 V.2.2.1) 36 0) 37 0) c)))) (gWr_wr M A (.inr (11, oMod a (upd (upd (upd (upd (upd s 33 (nI f)) 34 (if K j = 2 then wt 45 else 0)) 35 V.2.2.1) 36 V.2.2.2.1) 37 0) c)) (.inr (11, oMod a (upd (upd (upd (upd (upd s 33 (nI f)) 34 (if K j = 2 then wt 45 else 0)) 35 V.2.2.1) 36 0) 37 0) c)))) ?_
      refine EvF.gop 117 (go_put (oMod a (upd (upd (upd (upd (upd s 33 (nI f)) 34 (if K j = 2 then wt 45 else 0)) 35 0) 36 0) 37 0) c) f_Mod_182 ft_Mod_35 d_Mod_measure_114 (gRd_s _ _ _) rfl rfl (Nat.le_of_ble_eq_true rfl) rfl) rfl ?_
      refine EvF.go (go_m (M' := (gWr M A (.inr (11, oMod a (upd (upd (upd (upd (upd s 33 (nI f)) 34 (if K j = 2 then wt 45 else 0)) 35 0) 36 0) 37 0) c)))) (gWr_wr M A (.inr (11, oMod a (upd (upd (upd (upd (upd s 33 (nI f)) 34 (if K j = 2 then wt 45 else 0)) 35 V.2.2.1) 36 0) 37 0) c)) (.inr (11, oMod a (upd (upd (upd (upd (upd s 33 (nI f)) 34 (if K j = 2 then wt 45 else 0)) 35 0) 36 0) 37 0) c)))) ?_
      refine EvF.gop 118 (go_iconst (v := bI false) d_Mod_measure_117 (rfl)) rfl ?_
      refine EvF.gop 119 (go_istore_n [(3, .int (bI false)), (0, .ref A), (1, .int (nI i)), (2, .int (nI j))] d_Mod_measure_118 rfl (by decide) rfl) rfl ?_
      refine EvF.go (go_pick [1, 2, 3, 0] [(0, .ref A), (1, .int (nI i)), (2, .int (nI j)), (3, .int (bI false))] rfl) ?_
      refine EvF.gop 120 (go_aload_n d_Mod_measure_119 rfl 0 rfl) rfl ?_
      refine EvF.gop 123 (go_get f_Mod_170 d_Mod_measure_120 (gRd_s _ _ _) rfl) rfl ?_
      refine EvF.gop 125 (go_istore [(4, .int (nI f)), (0, .ref A), (1, .int (nI i)), (2, .int (nI j)), (3, .int (bI false))] d_Mod_measure_123 (by decide) rfl) rfl ?_
      refine EvF.go (go_pick [1, 2, 3, 4, 0] [(0, .ref A), (1, .int (nI i)), (2, .int (nI j)), (3, .int (bI false)), (4, .int (nI f))] rfl) ?_
      refine EvF.go (g_Mod_me3 G M A a s c wt PP ci si K E B i j e g n hI m2 m3 m17 m18 m25 m26 m27 hi hj hE hB he hg hn hc f (e - f) f ((if K j = 2 then wt 45 else 0), false, 0, 0) rfl (by omega)) ?_
      exact g_Mod_me4 G M A a s c wt PP ci si K E B i j e g n hI m2 m3 m17 m18 m25 m26 m27 hi hj hE hB he hg hn hc f _ _ _ _ rfl rfl rfl hz shr_ne
