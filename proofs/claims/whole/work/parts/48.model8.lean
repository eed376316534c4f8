/-- the sign of a word with a point before and behind it -/
def soF (ci : Nat → Int32) (b m x : Nat) : Int32 := if x = 0 then 46 else if x = m + 1 then 46 else ci (b + x - 1)
def gsB (ci : Nat → Int32) (b m o : Nat) (sg : Nat → Int32) : Nat → Bool
  | 0 => true
  | k + 1 => if sg k = soF ci b m (o + k) then gsB ci b m o sg k else false
/-- the greatest level over the places of one pattern -/
def goF (ci : Nat → Int32) (b m t : Nat) (sg lv : Nat → Int32) (n : Nat) : Nat → Int32 → Int32
  | 0, x => x
  | o + 1, x => if gsB ci b m o sg n = true ∧ o ≤ t + 1 ∧ t + 1 - o ≤ n ∧ goF ci b m t sg lv n o x < lv (t + 1 - o) then lv (t + 1 - o) else goF ci b m t sg lv n o x
def gpF (ci : Nat → Int32) (b m t : Nat) (sg lv : Nat → Int32) (pn : Nat → Nat) : Nat → Int32
  | 0 => 0
  | p + 1 => goF ci b m t (fun k => sg (p * 5 + k)) (fun k => lv (p * 6 + k)) (pn p) (m + 3 - pn p) (gpF ci b m t sg lv pn p)
def PatOk (np : Nat) (f8 : Nat → Int32) (pn : Nat → Nat) : Prop := np ≤ 20 ∧ ∀ p, p < np → f8 p = nI (pn p) ∧ 1 ≤ pn p ∧ pn p ≤ 5
theorem e_Mod_signOf (G : gG) (M : gM) (A : Nat) (a : Nat → Nat) (s : Nat → Int32) (c : Int64) (ci : Nat → Int32) (b m x : Nat) (hI : InjA A a) (hA : gRd M A = some (.inr (11, oMod a s c))) (m17 : gRd M (a 17) = some (aI G 120 ci)) (hb : b + m ≤ 120) (hx : x ≤ m + 1) : Ev G 0 m_Mod_signOf [.ref A, .int (nI b), .int (nI m), .int (nI x)] M (some (.int (soF ci b m x))) M := by
  refine Ev.of (Nat.le_of_ble_eq_true rfl) ?_
  show EvF G 0 m_Mod_signOf (0, [(0, .ref A), (1, .int (nI b)), (2, .int (nI m)), (3, .int (nI x))], [], M) _ _
  refine EvF.gop 1 (go_iload_n d_Mod_signOf_0 rfl 3 rfl) rfl ?_
  by_cases c1 : (nI x) = 0
  · have c1x : x = 0 := (nI_eq (a := x) (b := 0) (by omega) (by decide)).mp c1
    refine EvF.gop 11 (go_if_eq_t 11 d_Mod_signOf_1 (by decide) (c1)) rfl ?_
    refine EvF.gop 13 (go_bipush (v := 46) d_Mod_signOf_11 (by decide)) rfl ?_
    refine EvF.gop 26 (go_goto 26 d_Mod_signOf_13 (by decide)) rfl ?_
    exact EvF.ri d_Mod_signOf_26 rfl (by unfold soF; first | (rw [if_pos (by omega)]; done) | (rw [if_neg (by omega), if_pos (by omega)]; done) | (rw [if_neg (by omega), if_neg (by omega)]; done)) (rfl)
  · have c1x : ¬ x = 0 := fun q9 => c1 ((nI_eq (a := x) (b := 0) (by omega) (by decide)).mpr q9)
    refine EvF.gop 4 (go_if_eq_f 11 d_Mod_signOf_1 (by decide) (c1)) rfl ?_
    refine EvF.gop 5 (go_iload_n d_Mod_signOf_4 rfl 3 rfl) rfl ?_
    refine EvF.gop 6 (go_iload_n d_Mod_signOf_5 rfl 2 rfl) rfl ?_
    refine EvF.gop 7 (go_iconst (v := 1) d_Mod_signOf_6 (by decide)) rfl ?_
    refine EvF.gop 8 (go_iadd d_Mod_signOf_7) rfl ?_
    refine EvF.go (go_v (y := nI (m + 1)) (nI_1 m)) ?_
    by_cases c2 : (nI x) = (nI (m + 1))
    · have c2x : x = (m + 1) := (nI_eq (a := x) (b := (m + 1)) (by omega) (by omega)).mp c2
      refine EvF.gop 11 (go_icmp_ne_f 16 d_Mod_signOf_8 (by decide) (c2)) rfl ?_
      refine EvF.gop 13 (go_bipush (v := 46) d_Mod_signOf_11 (by decide)) rfl ?_
      refine EvF.gop 26 (go_goto 26 d_Mod_signOf_13 (by decide)) rfl ?_
      exact EvF.ri d_Mod_signOf_26 rfl (by unfold soF; first | (rw [if_pos (by omega)]; done) | (rw [if_neg (by omega), if_pos (by omega)]; done) | (rw [if_neg (by omega), if_neg (by omega)]; done)) (rfl)
    · have c2x : ¬ x = (m + 1) := fun q9 => c2 ((nI_eq (a := x) (b := (m + 1)) (by omega) (by omega)).mpr q9)
      refine EvF.gop 16 (go_icmp_ne_t 16 d_Mod_signOf_8 (by decide) (c2)) rfl ?_
      refine EvF.gop 17 (go_aload_n d_Mod_signOf_16 rfl 0 rfl) rfl ?_
      refine EvF.gop 20 (go_get f_Mod_46 d_Mod_signOf_17 (hA) rfl) rfl ?_
      refine EvF.gop 21 (go_iload_n d_Mod_signOf_20 rfl 1 rfl) rfl ?_
      refine EvF.gop 22 (go_iload_n d_Mod_signOf_21 rfl 3 rfl) rfl ?_
      refine EvF.gop 23 (go_iadd d_Mod_signOf_22) rfl ?_
      refine EvF.go (go_v (y := nI (b + x)) (nI_add b x)) ?_
      refine EvF.gop 24 (go_iconst (v := 1) d_Mod_signOf_23 (by decide)) rfl ?_
      refine EvF.gop 25 (go_isub d_Mod_signOf_24) rfl ?_
      refine EvF.go (go_v (y := nI (b + x - 1)) (pk_sub (b := 1) (by omega))) ?_
      refine EvF.gop 26 (go_iald (j := (b + x - 1)) d_Mod_signOf_25 (m17) (rfl) (by omega) (by omega)) rfl ?_
      exact EvF.ri d_Mod_signOf_26 rfl (by unfold soF; first | (rw [if_pos (by omega)]; done) | (rw [if_neg (by omega), if_pos (by omega)]; done) | (rw [if_neg (by omega), if_neg (by omega)]; done)) (rfl)
theorem g_Mod_gr1 (G : gG) (M : gM) (A : Nat) (a : Nat → Nat) (s : Nat → Int32) (c : Int64) (sg lv f8 ci : Nat → Int32) (pn : Nat → Nat) (np b m t : Nat) (x : Int32) (p o : Nat) (hI : InjA A a) (hA : gRd M A = some (.inr (11, oMod a s c))) (m6 : gRd M (a 6) = some (aI G 100 sg)) (m7 : gRd M (a 7) = some (aI G 120 lv)) (m8 : gRd M (a 8) = some (aI G 20 f8)) (m17 : gRd M (a 17) = some (aI G 120 ci)) (hP : PatOk np f8 pn) (h9 : s 9 = nI np) (hb : b + m ≤ 120) (ht : t ≤ 120) (hp : p < np) (ho : o + pn p ≤ m + 2) : ∀ r k : Nat, k + r = pn p → Go G m_Mod_greatest 1 (40, [(0, .ref A), (1, .int (nI b)), (2, .int (nI m)), (3, .int (nI t)), (4, .int x), (5, .int (nI p)), (6, .int (nI o)), (7, .int (bI (gsB ci b m o (fun k => sg (p * 5 + k)) k))), (8, .int (nI k))], [], M) (87, [(0, .ref A), (1, .int (nI b)), (2, .int (nI m)), (3, .int (nI t)), (4, .int x), (5, .int (nI p)), (6, .int (nI o)), (7, .int (bI (gsB ci b m o (fun k => sg (p * 5 + k)) (pn p)))), (8, .int (nI (pn p)))], [], M) := by
  have hpn := (hP.2 p hp).2
  have hnp := hP.1
  intro r
  induction r with
  | zero =>
    intro k hk
    rw [show k = pn p from by omega]
    refine Go.trp 42 (go_iload d_Mod_greatest_40 8 rfl) rfl ?_
    refine Go.trp 43 (go_aload_n d_Mod_greatest_42 rfl 0 rfl) rfl ?_
    refine Go.trp 46 (go_get f_Mod_31 d_Mod_greatest_43 (hA) rfl) rfl ?_
    refine Go.trp 48 (go_iload d_Mod_greatest_46 5 rfl) rfl ?_
    refine Go.trp 49 (go_iald (j := p) d_Mod_greatest_48 (m8) (rfl) (by omega) (by omega)) rfl ?_
    refine (go_v (y := nI (pn p)) ((hP.2 p hp).1)).tr ?_
    refine Go.trp 87 (go_icmp_ge_t 87 d_Mod_greatest_49 (by decide) (nI_le (Nat.le_refl _) (by omega))) rfl ?_
    exact Go.rf
  | succ r ih =>
    intro k hk
    refine Go.trp 42 (go_iload d_Mod_greatest_40 8 rfl) rfl ?_
    refine Go.trp 43 (go_aload_n d_Mod_greatest_42 rfl 0 rfl) rfl ?_
    refine Go.trp 46 (go_get f_Mod_31 d_Mod_greatest_43 (hA) rfl) rfl ?_
    refine Go.trp 48 (go_iload d_Mod_greatest_46 5 rfl) rfl ?_
    refine Go.trp 49 (go_iald (j := p) d_Mod_greatest_48 (m8) (rfl) (by omega) (by omega)) rfl ?_
    refine (go_v (y := nI (pn p)) ((hP.2 p hp).1)).tr ?_
    refine Go.trp 52 (go_icmp_ge_f 87 d_Mod_greatest_49 (by decide) (nI_ge (by omega) (by omega))) rfl ?_
    refine Go.trp 53 (go_aload_n d_Mod_greatest_52 rfl 0 rfl) rfl ?_
    refine Go.trp 56 (go_get f_Mod_25 d_Mod_greatest_53 (hA) rfl) rfl ?_
    refine Go.trp 58 (go_iload d_Mod_greatest_56 5 rfl) rfl ?_
    refine Go.trp 59 (go_iconst (v := 5) d_Mod_greatest_58 (by decide)) rfl ?_
    refine Go.trp 60 (go_imul d_Mod_greatest_59) rfl ?_
    refine (go_v (y := nI (p * 5)) (pk_mul p 5)).tr ?_
    refine Go.trp 62 (go_iload d_Mod_greatest_60 8 rfl) rfl ?_
    refine Go.trp 63 (go_iadd d_Mod_greatest_62) rfl ?_
    refine (go_v (y := nI (p * 5 + k)) (nI_add _ _)).tr ?_
    refine Go.trp 64 (go_iald (j := (p * 5 + k)) d_Mod_greatest_63 (m6) (rfl) (by omega) (by omega)) rfl ?_
    refine Go.trp 65 (go_aload_n d_Mod_greatest_64 rfl 0 rfl) rfl ?_
    refine Go.trp 66 (go_iload_n d_Mod_greatest_65 rfl 1 rfl) rfl ?_
    refine Go.trp 67 (go_iload_n d_Mod_greatest_66 rfl 2 rfl) rfl ?_
    refine Go.trp 69 (go_iload d_Mod_greatest_67 6 rfl) rfl ?_
    refine Go.trp 71 (go_iload d_Mod_greatest_69 8 rfl) rfl ?_
    refine Go.trp 72 (go_iadd d_Mod_greatest_71) rfl ?_
    refine (go_v (y := nI (o + k)) (nI_add _ _)).tr ?_
    refine Go.trp 75 (go_callV [.int (nI b), .int (nI m), .int (nI (o + k))] [.int (soF ci b m (o + k)), .int (sg (p * 5 + k))] c0_Mod_signOf im_Mod_signOf se_Mod_signOf lk_Mod_153 d_Mod_greatest_72 rfl rfl (hA) (e_Mod_signOf G M A a s c ci b m (o + k) hI hA m17 hb (by omega)) (by decide) rfl rfl (Nat.le_of_ble_eq_true rfl) rfl) rfl ?_
    by_cases c1 : (sg (p * 5 + k)) = (soF ci b m (o + k))
    · refine Go.trp 81 (go_icmp_eq_t 81 d_Mod_greatest_75 (by decide) (c1)) rfl ?_
      refine Go.trp 84 (go_inc1 (n0 := 8) (x := k) [(8, .int (nI (k + 1))), (0, .ref A), (1, .int (nI b)), (2, .int (nI m)), (3, .int (nI t)), (4, .int x), (5, .int (nI p)), (6, .int (nI o)), (7, .int (bI (gsB ci b m o (fun k => sg (p * 5 + k)) k)))] d_Mod_greatest_81 rfl (by decide) rfl) rfl ?_
      refine (go_pick [1, 2, 3, 4, 5, 6, 7, 8, 0] [(0, .ref A), (1, .int (nI b)), (2, .int (nI m)), (3, .int (nI t)), (4, .int x), (5, .int (nI p)), (6, .int (nI o)), (7, .int (bI (gsB ci b m o (fun k => sg (p * 5 + k)) k))), (8, .int (nI (k + 1)))] rfl).tr ?_
      refine Go.trp 40 (go_goto 40 d_Mod_greatest_84 (by decide)) rfl ?_
      have e9 : gsB ci b m o (fun k => sg (p * 5 + k)) (k + 1) = gsB ci b m o (fun k => sg (p * 5 + k)) k := if_pos (by assumption)
      rw [← e9]
      exact ih (k + 1) (by omega)
    · refine Go.trp 78 (go_icmp_eq_f 81 d_Mod_greatest_75 (by decide) (c1)) rfl ?_
      refine Go.trp 79 (go_iconst (v := 0) d_Mod_greatest_78 (by decide)) rfl ?_
      refine Go.trp 81 (go_istore [(7, .int 0), (0, .ref A), (1, .int (nI b)), (2, .int (nI m)), (3, .int (nI t)), (4, .int x), (5, .int (nI p)), (6, .int (nI o)), (8, .int (nI k))] d_Mod_greatest_79 (by decide) rfl) rfl ?_
      refine (go_pick [1, 2, 3, 4, 5, 6, 7, 0, 8] [(0, .ref A), (1, .int (nI b)), (2, .int (nI m)), (3, .int (nI t)), (4, .int x), (5, .int (nI p)), (6, .int (nI o)), (7, .int 0), (8, .int (nI k))] rfl).tr ?_
      refine Go.trp 84 (go_inc1 (n0 := 8) (x := k) [(8, .int (nI (k + 1))), (0, .ref A), (1, .int (nI b)), (2, .int (nI m)), (3, .int (nI t)), (4, .int x), (5, .int (nI p)), (6, .int (nI o)), (7, .int 0)] d_Mod_greatest_81 rfl (by decide) rfl) rfl ?_
      refine (go_pick [1, 2, 3, 4, 5, 6, 7, 8, 0] [(0, .ref A), (1, .int (nI b)), (2, .int (nI m)), (3, .int (nI t)), (4, .int x), (5, .int (nI p)), (6, .int (nI o)), (7, .int 0), (8, .int (nI (k + 1)))] rfl).tr ?_
      refine Go.trp 40 (go_goto 40 d_Mod_greatest_84 (by decide)) rfl ?_
      have e9 : gsB ci b m o (fun k => sg (p * 5 + k)) (k + 1) = false := if_neg (by assumption)
      show Go G m_Mod_greatest 1 (40, [(0, .ref A), (1, .int (nI b)), (2, .int (nI m)), (3, .int (nI t)), (4, .int x), (5, .int (nI p)), (6, .int (nI o)), (7, .int (bI false)), (8, .int (nI (k + 1)))], [], M) _
      rw [← e9]
      exact ih (k + 1) (by omega)
theorem sub_nn {a b : Nat} (ha : a < 2 ^ 30) (hb : b < 2 ^ 30) (h : ¬ nI a - nI b < 0) : b ≤ a := by
  rw [Int32.lt_iff_toInt_lt, pk_sub_toInt ha hb, show (0 : Int32).toInt = 0 from rfl] at h
  omega
theorem sub_ng {a b : Nat} (ha : a < 2 ^ 30) (hb : b < 2 ^ 30) (h : nI a - nI b < 0) : a < b := by
  rw [Int32.lt_iff_toInt_lt, pk_sub_toInt ha hb, show (0 : Int32).toInt = 0 from rfl] at h
  omega
theorem g_Mod_gr2 (G : gG) (M : gM) (A : Nat) (a : Nat → Nat) (s : Nat → Int32) (c : Int64) (sg lv f8 ci : Nat → Int32) (pn : Nat → Nat) (np b m t : Nat) (x : Int32) (p : Nat) (hI : InjA A a) (hA : gRd M A = some (.inr (11, oMod a s c))) (m6 : gRd M (a 6) = some (aI G 100 sg)) (m7 : gRd M (a 7) = some (aI G 120 lv)) (m8 : gRd M (a 8) = some (aI G 20 f8)) (m17 : gRd M (a 17) = some (aI G 120 ci)) (hP : PatOk np f8 pn) (h9 : s 9 = nI np) (hb : b + m ≤ 120) (ht : t ≤ 120) (hp : p < np) : ∀ r k : Nat, k + r = (m + 3 - pn p) → Go G m_Mod_greatest 1 (18, [(0, .ref A), (1, .int (nI b)), (2, .int (nI m)), (3, .int (nI t)), (4, .int (goF ci b m t (fun k => sg (p * 5 + k)) (fun k => lv (p * 6 + k)) (pn p) k x)), (5, .int (nI p)), (6, .int (nI k))], [], M) (156, [(0, .ref A), (1, .int (nI b)), (2, .int (nI m)), (3, .int (nI t)), (4, .int (goF ci b m t (fun k => sg (p * 5 + k)) (fun k => lv (p * 6 + k)) (pn p) ((m + 3 - pn p)) x)), (5, .int (nI p)), (6, .int (nI ((m + 3 - pn p))))], [], M) := by
  have hpn := (hP.2 p hp).2
  have hnp := hP.1
  intro r
  induction r with
  | zero =>
    intro k hk
    rw [show k = (m + 3 - pn p) from by omega]
    refine Go.trp 20 (go_iload d_Mod_greatest_18 6 rfl) rfl ?_
    refine Go.trp 21 (go_aload_n d_Mod_greatest_20 rfl 0 rfl) rfl ?_
    refine Go.trp 24 (go_get f_Mod_31 d_Mod_greatest_21 (hA) rfl) rfl ?_
    refine Go.trp 26 (go_iload d_Mod_greatest_24 5 rfl) rfl ?_
    refine Go.trp 27 (go_iald (j := p) d_Mod_greatest_26 (m8) (rfl) (by omega) (by omega)) rfl ?_
    refine (go_v (y := nI (pn p)) ((hP.2 p hp).1)).tr ?_
    refine Go.trp 28 (go_iadd d_Mod_greatest_27) rfl ?_
    refine (go_v (y := nI (((m + 3 - pn p)) + (pn p))) (nI_add ((m + 3 - pn p)) (pn p))).tr ?_
    refine Go.trp 29 (go_iload_n d_Mod_greatest_28 rfl 2 rfl) rfl ?_
    refine Go.trp 30 (go_iconst (v := 2) d_Mod_greatest_29 (by decide)) rfl ?_
    refine Go.trp 31 (go_iadd d_Mod_greatest_30) rfl ?_
    refine (go_v (y := nI (m + 2)) (nI_add m 2)).tr ?_
    refine Go.trp 156 (go_icmp_gt_t 156 d_Mod_greatest_31 (by decide) (nI_lt (by omega) (by omega))) rfl ?_
    exact Go.rf
  | succ r ih =>
    intro k hk
    refine Go.trp 20 (go_iload d_Mod_greatest_18 6 rfl) rfl ?_
    refine Go.trp 21 (go_aload_n d_Mod_greatest_20 rfl 0 rfl) rfl ?_
    refine Go.trp 24 (go_get f_Mod_31 d_Mod_greatest_21 (hA) rfl) rfl ?_
    refine Go.trp 26 (go_iload d_Mod_greatest_24 5 rfl) rfl ?_
    refine Go.trp 27 (go_iald (j := p) d_Mod_greatest_26 (m8) (rfl) (by omega) (by omega)) rfl ?_
    refine (go_v (y := nI (pn p)) ((hP.2 p hp).1)).tr ?_
    refine Go.trp 28 (go_iadd d_Mod_greatest_27) rfl ?_
    refine (go_v (y := nI (k + (pn p))) (nI_add k (pn p))).tr ?_
    refine Go.trp 29 (go_iload_n d_Mod_greatest_28 rfl 2 rfl) rfl ?_
    refine Go.trp 30 (go_iconst (v := 2) d_Mod_greatest_29 (by decide)) rfl ?_
    refine Go.trp 31 (go_iadd d_Mod_greatest_30) rfl ?_
    refine (go_v (y := nI (m + 2)) (nI_add m 2)).tr ?_
    refine Go.trp 34 (go_icmp_gt_f 156 d_Mod_greatest_31 (by decide) (nI_nlt (by omega) (by omega))) rfl ?_
    refine Go.trp 35 (go_iconst (v := bI (gsB ci b m k (fun k => sg (p * 5 + k)) 0)) d_Mod_greatest_34 (rfl)) rfl ?_
    refine Go.trp 37 (go_istore [(7, .int (bI (gsB ci b m k (fun k => sg (p * 5 + k)) 0))), (0, .ref A), (1, .int (nI b)), (2, .int (nI m)), (3, .int (nI t)), (4, .int (goF ci b m t (fun k => sg (p * 5 + k)) (fun k => lv (p * 6 + k)) (pn p) k x)), (5, .int (nI p)), (6, .int (nI k))] d_Mod_greatest_35 (by decide) rfl) rfl ?_
    refine (go_pick [1, 2, 3, 4, 5, 6, 7, 0] [(0, .ref A), (1, .int (nI b)), (2, .int (nI m)), (3, .int (nI t)), (4, .int (goF ci b m t (fun k => sg (p * 5 + k)) (fun k => lv (p * 6 + k)) (pn p) k x)), (5, .int (nI p)), (6, .int (nI k)), (7, .int (bI (gsB ci b m k (fun k => sg (p * 5 + k)) 0)))] rfl).tr ?_
    refine Go.trp 38 (go_iconst (v := nI 0) d_Mod_greatest_37 (rfl)) rfl ?_
    refine Go.trp 40 (go_istore [(8, .int (nI 0)), (0, .ref A), (1, .int (nI b)), (2, .int (nI m)), (3, .int (nI t)), (4, .int (goF ci b m t (fun k => sg (p * 5 + k)) (fun k => lv (p * 6 + k)) (pn p) k x)), (5, .int (nI p)), (6, .int (nI k)), (7, .int (bI (gsB ci b m k (fun k => sg (p * 5 + k)) 0)))] d_Mod_greatest_38 (by decide) rfl) rfl ?_
    refine (go_pick [1, 2, 3, 4, 5, 6, 7, 8, 0] [(0, .ref A), (1, .int (nI b)), (2, .int (nI m)), (3, .int (nI t)), (4, .int (goF ci b m t (fun k => sg (p * 5 + k)) (fun k => lv (p * 6 + k)) (pn p) k x)), (5, .int (nI p)), (6, .int (nI k)), (7, .int (bI (gsB ci b m k (fun k => sg (p * 5 + k)) 0))), (8, .int (nI 0))] rfl).tr ?_
    refine (g_Mod_gr1 G M A a s c sg lv f8 ci pn np b m t (goF ci b m t (fun k => sg (p * 5 + k)) (fun k => lv (p * 6 + k)) (pn p) k x) p k hI hA m6 m7 m8 m17 hP h9 hb ht hp (by omega) (pn p) 0 (by omega)).tr ?_
    refine Go.trp 88 (go_iload_n d_Mod_greatest_87 rfl 3 rfl) rfl ?_
    refine Go.trp 89 (go_iconst (v := 1) d_Mod_greatest_88 (by decide)) rfl ?_
    refine Go.trp 90 (go_iadd d_Mod_greatest_89) rfl ?_
    refine (go_v (y := nI (t + 1)) (nI_1 t)).tr ?_
    refine Go.trp 92 (go_iload d_Mod_greatest_90 6 rfl) rfl ?_
    refine Go.trp 93 (go_isub d_Mod_greatest_92) rfl ?_
    refine Go.trp 95 (go_istore [(8, .int ((nI (t + 1)) - (nI k))), (0, .ref A), (1, .int (nI b)), (2, .int (nI m)), (3, .int (nI t)), (4, .int (goF ci b m t (fun k => sg (p * 5 + k)) (fun k => lv (p * 6 + k)) (pn p) k x)), (5, .int (nI p)), (6, .int (nI k)), (7, .int (bI (gsB ci b m k (fun k => sg (p * 5 + k)) (pn p))))] d_Mod_greatest_93 (by decide) rfl) rfl ?_
    refine (go_pick [1, 2, 3, 4, 5, 6, 7, 8, 0] [(0, .ref A), (1, .int (nI b)), (2, .int (nI m)), (3, .int (nI t)), (4, .int (goF ci b m t (fun k => sg (p * 5 + k)) (fun k => lv (p * 6 + k)) (pn p) k x)), (5, .int (nI p)), (6, .int (nI k)), (7, .int (bI (gsB ci b m k (fun k => sg (p * 5 + k)) (pn p)))), (8, .int ((nI (t + 1)) - (nI k)))] rfl).tr ?_
    refine Go.trp 97 (go_iload d_Mod_greatest_95 7 rfl) rfl ?_
    by_cases c1 : (bI (gsB ci b m k (fun k => sg (p * 5 + k)) (pn p))) = 0
    · have c1x : (gsB ci b m k (fun k => sg (p * 5 + k)) (pn p)) = false := bI_0.mp c1
      refine Go.trp 150 (go_if_eq_t 150 d_Mod_greatest_97 (by decide) (c1)) rfl ?_
      refine Go.trp 153 (go_inc1 (n0 := 6) (x := k) [(6, .int (nI (k + 1))), (0, .ref A), (1, .int (nI b)), (2, .int (nI m)), (3, .int (nI t)), (4, .int (goF ci b m t (fun k => sg (p * 5 + k)) (fun k => lv (p * 6 + k)) (pn p) k x)), (5, .int (nI p)), (7, .int (bI (gsB ci b m k (fun k => sg (p * 5 + k)) (pn p)))), (8, .int ((nI (t + 1)) - (nI k)))] d_Mod_greatest_150 rfl (by decide) rfl) rfl ?_
      refine (go_pick [1, 2, 3, 4, 5, 6, 0, 7, 8] [(0, .ref A), (1, .int (nI b)), (2, .int (nI m)), (3, .int (nI t)), (4, .int (goF ci b m t (fun k => sg (p * 5 + k)) (fun k => lv (p * 6 + k)) (pn p) k x)), (5, .int (nI p)), (6, .int (nI (k + 1))), (7, .int (bI (gsB ci b m k (fun k => sg (p * 5 + k)) (pn p)))), (8, .int ((nI (t + 1)) - (nI k)))] rfl).tr ?_
      refine Go.trp 18 (go_goto 18 d_Mod_greatest_153 (by decide)) rfl ?_
      have e9 : goF ci b m t (fun k => sg (p * 5 + k)) (fun k => lv (p * 6 + k)) (pn p) (k + 1) x = goF ci b m t (fun k => sg (p * 5 + k)) (fun k => lv (p * 6 + k)) (pn p) k x := if_neg (by rintro ⟨q1, q2, q3, q4⟩; first | (exact absurd q4 (by assumption)) | omega | (exact absurd (sub_ng (a := t + 1) (b := k) (by omega) (by omega) c2) (by omega)) | (cases q1.symm.trans c1x))
      refine (go_pick [0, 1, 2, 3, 4, 5, 6] [(0, .ref A), (1, .int (nI b)), (2, .int (nI m)), (3, .int (nI t)), (4, .int (goF ci b m t (fun k => sg (p * 5 + k)) (fun k => lv (p * 6 + k)) (pn p) k x)), (5, .int (nI p)), (6, .int (nI (k + 1)))] rfl).tr ?_
      rw [← e9]
      exact ih (k + 1) (by omega)
    · have c1x : (gsB ci b m k (fun k => sg (p * 5 + k)) (pn p)) = true := bI_n0.mp c1
      refine Go.trp 100 (go_if_eq_f 150 d_Mod_greatest_97 (by decide) (c1)) rfl ?_
      refine Go.trp 102 (go_iload d_Mod_greatest_100 8 rfl) rfl ?_
      by_cases c2 : ((nI (t + 1)) - (nI k)) < 0
      · have c2x : ¬ 0 ≤ ((nI (t + 1)) - (nI k)) := Int32.not_le.mpr c2
        refine Go.trp 150 (go_if_lt_t 150 d_Mod_greatest_102 (by decide) (c2)) rfl ?_
        refine Go.trp 153 (go_inc1 (n0 := 6) (x := k) [(6, .int (nI (k + 1))), (0, .ref A), (1, .int (nI b)), (2, .int (nI m)), (3, .int (nI t)), (4, .int (goF ci b m t (fun k => sg (p * 5 + k)) (fun k => lv (p * 6 + k)) (pn p) k x)), (5, .int (nI p)), (7, .int (bI (gsB ci b m k (fun k => sg (p * 5 + k)) (pn p)))), (8, .int ((nI (t + 1)) - (nI k)))] d_Mod_greatest_150 rfl (by decide) rfl) rfl ?_
        refine (go_pick [1, 2, 3, 4, 5, 6, 0, 7, 8] [(0, .ref A), (1, .int (nI b)), (2, .int (nI m)), (3, .int (nI t)), (4, .int (goF ci b m t (fun k => sg (p * 5 + k)) (fun k => lv (p * 6 + k)) (pn p) k x)), (5, .int (nI p)), (6, .int (nI (k + 1))), (7, .int (bI (gsB ci b m k (fun k => sg (p * 5 + k)) (pn p)))), (8, .int ((nI (t + 1)) - (nI k)))] rfl).tr ?_
        refine Go.trp 18 (go_goto 18 d_Mod_greatest_153 (by decide)) rfl ?_
        have e9 : goF ci b m t (fun k => sg (p * 5 + k)) (fun k => lv (p * 6 + k)) (pn p) (k + 1) x = goF ci b m t (fun k => sg (p * 5 + k)) (fun k => lv (p * 6 + k)) (pn p) k x := if_neg (by rintro ⟨q1, q2, q3, q4⟩; first | (exact absurd q4 (by assumption)) | omega | (exact absurd (sub_ng (a := t + 1) (b := k) (by omega) (by omega) c2) (by omega)) | (cases q1.symm.trans c1x))
        refine (go_pick [0, 1, 2, 3, 4, 5, 6] [(0, .ref A), (1, .int (nI b)), (2, .int (nI m)), (3, .int (nI t)), (4, .int (goF ci b m t (fun k => sg (p * 5 + k)) (fun k => lv (p * 6 + k)) (pn p) k x)), (5, .int (nI p)), (6, .int (nI (k + 1)))] rfl).tr ?_
        rw [← e9]
        exact ih (k + 1) (by omega)
      · have c2x : 0 ≤ ((nI (t + 1)) - (nI k)) := Int32.not_lt.mp c2
        refine Go.trp 105 (go_if_lt_f 150 d_Mod_greatest_102 (by decide) (c2)) rfl ?_
        have hle := sub_nn (a := t + 1) (b := k) (by omega) (by omega) (by assumption)
        rw [show nI (t + 1) - nI k = nI (t + 1 - k) from pk_sub hle]
        refine Go.trp 107 (go_iload d_Mod_greatest_105 8 rfl) rfl ?_
        refine Go.trp 108 (go_aload_n d_Mod_greatest_107 rfl 0 rfl) rfl ?_
        refine Go.trp 111 (go_get f_Mod_31 d_Mod_greatest_108 (hA) rfl) rfl ?_
        refine Go.trp 113 (go_iload d_Mod_greatest_111 5 rfl) rfl ?_
        refine Go.trp 114 (go_iald (j := p) d_Mod_greatest_113 (m8) (rfl) (by omega) (by omega)) rfl ?_
        refine (go_v (y := nI (pn p)) ((hP.2 p hp).1)).tr ?_
        by_cases c3 : (nI (pn p)) < (nI (t + 1 - k))
        · have c3x : (pn p) < (t + 1 - k) := (nI_ltI (a := (pn p)) (b := (t + 1 - k)) (by omega) (by omega)).mp c3
          have c3y : ¬ (t + 1 - k) ≤ (pn p) := by omega
          refine Go.trp 150 (go_icmp_gt_t 150 d_Mod_greatest_114 (by decide) (c3)) rfl ?_
          refine Go.trp 153 (go_inc1 (n0 := 6) (x := k) [(6, .int (nI (k + 1))), (0, .ref A), (1, .int (nI b)), (2, .int (nI m)), (3, .int (nI t)), (4, .int (goF ci b m t (fun k => sg (p * 5 + k)) (fun k => lv (p * 6 + k)) (pn p) k x)), (5, .int (nI p)), (7, .int (bI (gsB ci b m k (fun k => sg (p * 5 + k)) (pn p)))), (8, .int (nI (t + 1 - k)))] d_Mod_greatest_150 rfl (by decide) rfl) rfl ?_
          refine (go_pick [1, 2, 3, 4, 5, 6, 0, 7, 8] [(0, .ref A), (1, .int (nI b)), (2, .int (nI m)), (3, .int (nI t)), (4, .int (goF ci b m t (fun k => sg (p * 5 + k)) (fun k => lv (p * 6 + k)) (pn p) k x)), (5, .int (nI p)), (6, .int (nI (k + 1))), (7, .int (bI (gsB ci b m k (fun k => sg (p * 5 + k)) (pn p)))), (8, .int (nI (t + 1 - k)))] rfl).tr ?_
          refine Go.trp 18 (go_goto 18 d_Mod_greatest_153 (by decide)) rfl ?_
          have e9 : goF ci b m t (fun k => sg (p * 5 + k)) (fun k => lv (p * 6 + k)) (pn p) (k + 1) x = goF ci b m t (fun k => sg (p * 5 + k)) (fun k => lv (p * 6 + k)) (pn p) k x := if_neg (by rintro ⟨q1, q2, q3, q4⟩; first | (exact absurd q4 (by assumption)) | omega | (exact absurd (sub_ng (a := t + 1) (b := k) (by omega) (by omega) c2) (by omega)) | (cases q1.symm.trans c1x))
          refine (go_pick [0, 1, 2, 3, 4, 5, 6] [(0, .ref A), (1, .int (nI b)), (2, .int (nI m)), (3, .int (nI t)), (4, .int (goF ci b m t (fun k => sg (p * 5 + k)) (fun k => lv (p * 6 + k)) (pn p) k x)), (5, .int (nI p)), (6, .int (nI (k + 1)))] rfl).tr ?_
          rw [← e9]
          exact ih (k + 1) (by omega)
        · have c3x : (t + 1 - k) ≤ (pn p) := Nat.le_of_not_lt (fun q9 => c3 ((nI_ltI (a := (pn p)) (b := (t + 1 - k)) (by omega) (by omega)).mpr q9))
          have c3y : ¬ (pn p) < (t + 1 - k) := by omega
          refine Go.trp 117 (go_icmp_gt_f 150 d_Mod_greatest_114 (by decide) (c3)) rfl ?_
          refine Go.trp 118 (go_aload_n d_Mod_greatest_117 rfl 0 rfl) rfl ?_
          refine Go.trp 121 (go_get f_Mod_28 d_Mod_greatest_118 (hA) rfl) rfl ?_
          refine Go.trp 123 (go_iload d_Mod_greatest_121 5 rfl) rfl ?_
          refine Go.trp 125 (go_bipush (v := 6) d_Mod_greatest_123 (by decide)) rfl ?_
          refine Go.trp 126 (go_imul d_Mod_greatest_125) rfl ?_
          refine (go_v (y := nI (p * 6)) (pk_mul p 6)).tr ?_
          refine Go.trp 128 (go_iload d_Mod_greatest_126 8 rfl) rfl ?_
          refine Go.trp 129 (go_iadd d_Mod_greatest_128) rfl ?_
          refine (go_v (y := nI (p * 6 + (t + 1 - k))) (nI_add _ _)).tr ?_
          refine Go.trp 130 (go_iald (j := (p * 6 + (t + 1 - k))) d_Mod_greatest_129 (m7) (rfl) (by omega) (by omega)) rfl ?_
          refine Go.trp 132 (go_iload d_Mod_greatest_130 4 rfl) rfl ?_
          by_cases c4 : (lv (p * 6 + (t + 1 - k))) ≤ (goF ci b m t (fun k => sg (p * 5 + k)) (fun k => lv (p * 6 + k)) (pn p) k x)
          · have c4x : ¬ (goF ci b m t (fun k => sg (p * 5 + k)) (fun k => lv (p * 6 + k)) (pn p) k x) < (lv (p * 6 + (t + 1 - k))) := Int32.not_lt.mpr c4
            refine Go.trp 150 (go_icmp_le_t 150 d_Mod_greatest_132 (by decide) (c4)) rfl ?_
            refine Go.trp 153 (go_inc1 (n0 := 6) (x := k) [(6, .int (nI (k + 1))), (0, .ref A), (1, .int (nI b)), (2, .int (nI m)), (3, .int (nI t)), (4, .int (goF ci b m t (fun k => sg (p * 5 + k)) (fun k => lv (p * 6 + k)) (pn p) k x)), (5, .int (nI p)), (7, .int (bI (gsB ci b m k (fun k => sg (p * 5 + k)) (pn p)))), (8, .int (nI (t + 1 - k)))] d_Mod_greatest_150 rfl (by decide) rfl) rfl ?_
            refine (go_pick [1, 2, 3, 4, 5, 6, 0, 7, 8] [(0, .ref A), (1, .int (nI b)), (2, .int (nI m)), (3, .int (nI t)), (4, .int (goF ci b m t (fun k => sg (p * 5 + k)) (fun k => lv (p * 6 + k)) (pn p) k x)), (5, .int (nI p)), (6, .int (nI (k + 1))), (7, .int (bI (gsB ci b m k (fun k => sg (p * 5 + k)) (pn p)))), (8, .int (nI (t + 1 - k)))] rfl).tr ?_
            refine Go.trp 18 (go_goto 18 d_Mod_greatest_153 (by decide)) rfl ?_
            have e9 : goF ci b m t (fun k => sg (p * 5 + k)) (fun k => lv (p * 6 + k)) (pn p) (k + 1) x = goF ci b m t (fun k => sg (p * 5 + k)) (fun k => lv (p * 6 + k)) (pn p) k x := if_neg (by rintro ⟨q1, q2, q3, q4⟩; first | (exact absurd q4 (by assumption)) | omega | (exact absurd (sub_ng (a := t + 1) (b := k) (by omega) (by omega) c2) (by omega)) | (cases q1.symm.trans c1x))
            refine (go_pick [0, 1, 2, 3, 4, 5, 6] [(0, .ref A), (1, .int (nI b)), (2, .int (nI m)), (3, .int (nI t)), (4, .int (goF ci b m t (fun k => sg (p * 5 + k)) (fun k => lv (p * 6 + k)) (pn p) k x)), (5, .int (nI p)), (6, .int (nI (k + 1)))] rfl).tr ?_
            rw [← e9]
            exact ih (k + 1) (by omega)
          · have c4x : (goF ci b m t (fun k => sg (p * 5 + k)) (fun k => lv (p * 6 + k)) (pn p) k x) < (lv (p * 6 + (t + 1 - k))) := Int32.not_le.mp c4
            refine Go.trp 135 (go_icmp_le_f 150 d_Mod_greatest_132 (by decide) (c4)) rfl ?_
            refine Go.trp 136 (go_aload_n d_Mod_greatest_135 rfl 0 rfl) rfl ?_
            refine Go.trp 139 (go_get f_Mod_28 d_Mod_greatest_136 (hA) rfl) rfl ?_
            refine Go.trp 141 (go_iload d_Mod_greatest_139 5 rfl) rfl ?_
            refine Go.trp 143 (go_bipush (v := 6) d_Mod_greatest_141 (by decide)) rfl ?_
            refine Go.trp 144 (go_imul d_Mod_greatest_143) rfl ?_
            refine (go_v (y := nI (p * 6)) (pk_mul p 6)).tr ?_
            refine Go.trp 146 (go_iload d_Mod_greatest_144 8 rfl) rfl ?_
            refine Go.trp 147 (go_iadd d_Mod_greatest_146) rfl ?_
            refine (go_v (y := nI (p * 6 + (t + 1 - k))) (nI_add _ _)).tr ?_
            refine Go.trp 148 (go_iald (j := (p * 6 + (t + 1 - k))) d_Mod_greatest_147 (m7) (rfl) (by omega) (by omega)) rfl ?_
            refine Go.trp 150 (go_istore [(4, .int (lv (p * 6 + (t + 1 - k)))), (0, .ref A), (1, .int (nI b)), (2, .int (nI m)), (3, .int (nI t)), (5, .int (nI p)), (6, .int (nI k)), (7, .int (bI (gsB ci b m k (fun k => sg (p * 5 + k)) (pn p)))), (8, .int (nI (t + 1 - k)))] d_Mod_greatest_148 (by decide) rfl) rfl ?_
            refine (go_pick [1, 2, 3, 4, 0, 5, 6, 7, 8] [(0, .ref A), (1, .int (nI b)), (2, .int (nI m)), (3, .int (nI t)), (4, .int (lv (p * 6 + (t + 1 - k)))), (5, .int (nI p)), (6, .int (nI k)), (7, .int (bI (gsB ci b m k (fun k => sg (p * 5 + k)) (pn p)))), (8, .int (nI (t + 1 - k)))] rfl).tr ?_
            refine Go.trp 153 (go_inc1 (n0 := 6) (x := k) [(6, .int (nI (k + 1))), (0, .ref A), (1, .int (nI b)), (2, .int (nI m)), (3, .int (nI t)), (4, .int (lv (p * 6 + (t + 1 - k)))), (5, .int (nI p)), (7, .int (bI (gsB ci b m k (fun k => sg (p * 5 + k)) (pn p)))), (8, .int (nI (t + 1 - k)))] d_Mod_greatest_150 rfl (by decide) rfl) rfl ?_
            refine (go_pick [1, 2, 3, 4, 5, 6, 0, 7, 8] [(0, .ref A), (1, .int (nI b)), (2, .int (nI m)), (3, .int (nI t)), (4, .int (lv (p * 6 + (t + 1 - k)))), (5, .int (nI p)), (6, .int (nI (k + 1))), (7, .int (bI (gsB ci b m k (fun k => sg (p * 5 + k)) (pn p)))), (8, .int (nI (t + 1 - k)))] rfl).tr ?_
            refine Go.trp 18 (go_goto 18 d_Mod_greatest_153 (by decide)) rfl ?_
            have e9 : goF ci b m t (fun k => sg (p * 5 + k)) (fun k => lv (p * 6 + k)) (pn p) (k + 1) x = lv (p * 6 + (t + 1 - k)) := if_pos ⟨by assumption, hle, by assumption, by assumption⟩
            refine (go_pick [0, 1, 2, 3, 4, 5, 6] [(0, .ref A), (1, .int (nI b)), (2, .int (nI m)), (3, .int (nI t)), (4, .int (lv (p * 6 + (t + 1 - k)))), (5, .int (nI p)), (6, .int (nI (k + 1)))] rfl).tr ?_
            rw [← e9]
            exact ih (k + 1) (by omega)
theorem g_Mod_gr3 (G : gG) (M : gM) (A : Nat) (a : Nat → Nat) (s : Nat → Int32) (c : Int64) (sg lv f8 ci : Nat → Int32) (pn : Nat → Nat) (np b m t : Nat) (hI : InjA A a) (hA : gRd M A = some (.inr (11, oMod a s c))) (m6 : gRd M (a 6) = some (aI G 100 sg)) (m7 : gRd M (a 7) = some (aI G 120 lv)) (m8 : gRd M (a 8) = some (aI G 20 f8)) (m17 : gRd M (a 17) = some (aI G 120 ci)) (hP : PatOk np f8 pn) (h9 : s 9 = nI np) (hb : b + m ≤ 120) (ht : t ≤ 120) : ∀ r k : Nat, k + r = np → Go G m_Mod_greatest 1 (6, [(0, .ref A), (1, .int (nI b)), (2, .int (nI m)), (3, .int (nI t)), (4, .int (gpF ci b m t sg lv pn k)), (5, .int (nI k))], [], M) (162, [(0, .ref A), (1, .int (nI b)), (2, .int (nI m)), (3, .int (nI t)), (4, .int (gpF ci b m t sg lv pn np)), (5, .int (nI np))], [], M) := by
  intro r
  induction r with
  | zero =>
    intro k hk
    rw [show k = np from by omega]
    refine Go.trp 8 (go_iload d_Mod_greatest_6 5 rfl) rfl ?_
    refine Go.trp 9 (go_aload_n d_Mod_greatest_8 rfl 0 rfl) rfl ?_
    refine Go.trp 12 (go_get f_Mod_122 d_Mod_greatest_9 (hA) rfl) rfl ?_
    refine Go.trp 162 (go_icmp_ge_t 162 d_Mod_greatest_12 (by decide) (show s 9 ≤ nI np from by rw [h9]; exact nI_le (Nat.le_refl _) (by have := hP.1; omega))) rfl ?_
    exact Go.rf
  | succ r ih =>
    intro k hk
    refine Go.trp 8 (go_iload d_Mod_greatest_6 5 rfl) rfl ?_
    refine Go.trp 9 (go_aload_n d_Mod_greatest_8 rfl 0 rfl) rfl ?_
    refine Go.trp 12 (go_get f_Mod_122 d_Mod_greatest_9 (hA) rfl) rfl ?_
    refine Go.trp 15 (go_icmp_ge_f 162 d_Mod_greatest_12 (by decide) (show ¬ s 9 ≤ nI k from by rw [h9]; exact nI_ge (by omega) (by have := hP.1; omega))) rfl ?_
    refine Go.trp 16 (go_iconst (v := nI 0) d_Mod_greatest_15 (rfl)) rfl ?_
    refine Go.trp 18 (go_istore [(6, .int (nI 0)), (0, .ref A), (1, .int (nI b)), (2, .int (nI m)), (3, .int (nI t)), (4, .int (gpF ci b m t sg lv pn k)), (5, .int (nI k))] d_Mod_greatest_16 (by decide) rfl) rfl ?_
    refine (go_pick [1, 2, 3, 4, 5, 6, 0] [(0, .ref A), (1, .int (nI b)), (2, .int (nI m)), (3, .int (nI t)), (4, .int (gpF ci b m t sg lv pn k)), (5, .int (nI k)), (6, .int (nI 0))] rfl).tr ?_
    refine (g_Mod_gr2 G M A a s c sg lv f8 ci pn np b m t (gpF ci b m t sg lv pn k) k hI hA m6 m7 m8 m17 hP h9 hb ht (by omega) (m + 3 - pn k) 0 (by omega)).tr ?_
    show Go G m_Mod_greatest 1 (156, [(0, .ref A), (1, .int (nI b)), (2, .int (nI m)), (3, .int (nI t)), (4, .int (gpF ci b m t sg lv pn ((k + 1)))), (5, .int (nI k)), (6, .int (nI (m + 3 - pn k)))], [], M) _
    refine Go.trp 159 (go_inc1 (n0 := 5) (x := k) [(5, .int (nI (k + 1))), (0, .ref A), (1, .int (nI b)), (2, .int (nI m)), (3, .int (nI t)), (4, .int (gpF ci b m t sg lv pn ((k + 1)))), (6, .int (nI (m + 3 - pn k)))] d_Mod_greatest_156 rfl (by decide) rfl) rfl ?_
    refine (go_pick [1, 2, 3, 4, 5, 0, 6] [(0, .ref A), (1, .int (nI b)), (2, .int (nI m)), (3, .int (nI t)), (4, .int (gpF ci b m t sg lv pn ((k + 1)))), (5, .int (nI (k + 1))), (6, .int (nI (m + 3 - pn k)))] rfl).tr ?_
    refine Go.trp 6 (go_goto 6 d_Mod_greatest_159 (by decide)) rfl ?_
    refine (go_pick [0, 1, 2, 3, 4, 5] [(0, .ref A), (1, .int (nI b)), (2, .int (nI m)), (3, .int (nI t)), (4, .int (gpF ci b m t sg lv pn ((k + 1)))), (5, .int (nI (k + 1)))] rfl).tr ?_
    exact ih (k + 1) (by omega)
theorem e_Mod_greatest (G : gG) (M : gM) (A : Nat) (a : Nat → Nat) (s : Nat → Int32) (c : Int64) (sg lv f8 ci : Nat → Int32) (pn : Nat → Nat) (np b m t : Nat) (hI : InjA A a) (hA : gRd M A = some (.inr (11, oMod a s c))) (m6 : gRd M (a 6) = some (aI G 100 sg)) (m7 : gRd M (a 7) = some (aI G 120 lv)) (m8 : gRd M (a 8) = some (aI G 20 f8)) (m17 : gRd M (a 17) = some (aI G 120 ci)) (hP : PatOk np f8 pn) (h9 : s 9 = nI np) (hb : b + m ≤ 120) (ht : t ≤ 120) : Ev G 1 m_Mod_greatest [.ref A, .int (nI b), .int (nI m), .int (nI t)] M (some (.int (gpF ci b m t sg lv pn np))) M := by
  refine Ev.of (Nat.le_of_ble_eq_true rfl) ?_
  show EvF G 1 m_Mod_greatest (0, [(0, .ref A), (1, .int (nI b)), (2, .int (nI m)), (3, .int (nI t))], [], M) _ _
  refine EvF.gop 1 (go_iconst (v := gpF ci b m t sg lv pn 0) d_Mod_greatest_0 (rfl)) rfl ?_
  refine EvF.gop 3 (go_istore [(4, .int (gpF ci b m t sg lv pn 0)), (0, .ref A), (1, .int (nI b)), (2, .int (nI m)), (3, .int (nI t))] d_Mod_greatest_1 (by decide) rfl) rfl ?_
  refine EvF.go (go_pick [1, 2, 3, 4, 0] [(0, .ref A), (1, .int (nI b)), (2, .int (nI m)), (3, .int (nI t)), (4, .int (gpF ci b m t sg lv pn 0))] rfl) ?_
  refine EvF.gop 4 (go_iconst (v := nI 0) d_Mod_greatest_3 (rfl)) rfl ?_
  refine EvF.gop 6 (go_istore [(5, .int (nI 0)), (0, .ref A), (1, .int (nI b)), (2, .int (nI m)), (3, .int (nI t)), (4, .int (gpF ci b m t sg lv pn 0))] d_Mod_greatest_4 (by decide) rfl) rfl ?_
  refine EvF.go (go_pick [1, 2, 3, 4, 5, 0] [(0, .ref A), (1, .int (nI b)), (2, .int (nI m)), (3, .int (nI t)), (4, .int (gpF ci b m t sg lv pn 0)), (5, .int (nI 0))] rfl) ?_
  refine EvF.go (g_Mod_gr3 G M A a s c sg lv f8 ci pn np b m t hI hA m6 m7 m8 m17 hP h9 hb ht np 0 (by omega)) ?_
  refine EvF.gop 164 (go_iload d_Mod_greatest_162 4 rfl) rfl ?_
  exact EvF.ri d_Mod_greatest_164 rfl (rfl) (rfl)
