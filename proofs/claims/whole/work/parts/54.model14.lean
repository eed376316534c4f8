def ilB (x l : Int32) : Bool := decide (0 ≤ x) && decide (x < l)
def mlI (w x0 x1 x2 x3 x4 x5 : Int32) : Int32 := if w < 0 then -1 else if w ≤ 5 then (if 3 ≤ w then (if 5 ≤ w then x5 else if w = 3 then x3 else x4) else if w = 0 then x0 else if w = 1 then x1 else x2) else -1
def ltF (it : Nat → Int32) : Nat → Nat → Nat
  | 0, _ => 0
  | r + 1, k => (if cLet (it k) = true then 1 else 0) + ltF it r (k + 1)
def mnI (w x0 x1 x2 x3 x4 x5 x6 : Int32) : Int32 := if w < 0 then -1 else if w ≤ 6 then (if 2 ≤ w then (if 4 ≤ w then (if w = 4 then x4 else if w = 5 then x5 else x6) else if w = 2 then x2 else x3) else if w = 0 then x0 else x1) else -1
def chN (kd : Int32) (e g : Nat) : Nat := (e - g) + (if kd = 2 then 1 else 0)
theorem chN_le (kd : Int32) (e g : Nat) : chN kd e g ≤ e - g + 1 := by unfold chN; split <;> omega
def chI (it : Nat → Int32) (kd : Int32) (e g k : Nat) : Int32 := if chN kd e g ≤ k then 0 else if g + k = e then 45 else if it (g + k) = 126 then 32 else it (g + k)
def psF (it sz sp : Nat → Int32) (d : Int32) : Nat → Nat → Int32 × Int32 → Int32 × Int32
  | 0, _, T => T
  | r + 1, k, T => psF it sz sp d r (k + 1) (T.1 + sz k, if cSpc (it k) = true then T.2 + (if 0 < d then (sp k + 1) / 2 else sp k / 3) else T.2)
def pmI (kd d st sh : Int32) (T : Int32 × Int32) : Int32 :=
  if d = 0 then T.1 else if 0 < d ∧ 3 ≤ kd then T.1 else
  if d * T.2 < 0 then (if d * T.2 - d * T.2 / (if 0 < d then st else sh) * (if 0 < d then st else sh) = 0 then T.1 + d * T.2 / (if 0 < d then st else sh) else T.1 + d * T.2 / (if 0 < d then st else sh) - 1) else T.1 + d * T.2 / (if 0 < d then st else sh)
theorem e_Mod_isLine (G : gG) (M : gM) (A : Nat) (a : Nat → Nat) (s : Nat → Int32) (c : Int64) (x : Int32) (hI : InjA A a) (hA : gRd M A = some (.inr (11, oMod a s c))) : Ev G 0 m_Mod_isLine [.ref A, .int x] M (some (.int (bI (ilB x (s 47))))) M := by
  refine Ev.of (Nat.le_of_ble_eq_true rfl) ?_
  show EvF G 0 m_Mod_isLine (0, [(0, .ref A), (1, .int x)], [], M) _ _
  refine EvF.gop 1 (go_iload_n d_Mod_isLine_0 rfl 1 rfl) rfl ?_
  by_cases c1 : x < 0
  · have c1x : ¬ 0 ≤ x := Int32.not_le.mpr c1
    refine EvF.gop 16 (go_if_lt_t 16 d_Mod_isLine_1 (by decide) (c1)) rfl ?_
    refine EvF.gop 17 (go_iconst (v := 0) d_Mod_isLine_16 (by decide)) rfl ?_
    exact EvF.rz d_Mod_isLine_17 rfl (by decide) (by first | (simp [bI, ilB, *]; done) | (simp_all [bI, ilB]; done)) (rfl)
  · have c1x : 0 ≤ x := Int32.not_lt.mp c1
    refine EvF.gop 4 (go_if_lt_f 16 d_Mod_isLine_1 (by decide) (c1)) rfl ?_
    refine EvF.gop 5 (go_iload_n d_Mod_isLine_4 rfl 1 rfl) rfl ?_
    refine EvF.gop 6 (go_aload_n d_Mod_isLine_5 rfl 0 rfl) rfl ?_
    refine EvF.gop 9 (go_get f_Mod_199 d_Mod_isLine_6 (hA) rfl) rfl ?_
    by_cases c2 : (s 47) ≤ x
    · have c2x : ¬ x < (s 47) := Int32.not_lt.mpr c2
      refine EvF.gop 16 (go_icmp_ge_t 16 d_Mod_isLine_9 (by decide) (c2)) rfl ?_
      refine EvF.gop 17 (go_iconst (v := 0) d_Mod_isLine_16 (by decide)) rfl ?_
      exact EvF.rz d_Mod_isLine_17 rfl (by decide) (by first | (simp [bI, ilB, *]; done) | (simp_all [bI, ilB]; done)) (rfl)
    · have c2x : x < (s 47) := Int32.not_le.mp c2
      refine EvF.gop 12 (go_icmp_ge_f 16 d_Mod_isLine_9 (by decide) (c2)) rfl ?_
      refine EvF.gop 13 (go_iconst (v := 1) d_Mod_isLine_12 (by decide)) rfl ?_
      refine EvF.gop 17 (go_goto 17 d_Mod_isLine_13 (by decide)) rfl ?_
      exact EvF.rz d_Mod_isLine_17 rfl (by decide) (by first | (simp [bI, ilB, *]; done) | (simp_all [bI, ilB]; done)) (rfl)
theorem e_Mod_cost (G : gG) (M : gM) (A : Nat) (a : Nat → Nat) (s : Nat → Int32) (c : Int64) (hI : InjA A a) (hA : gRd M A = some (.inr (11, oMod a s c))) : Ev G 0 m_Mod_cost [.ref A] M (some (.long c)) M := by
  refine Ev.of (Nat.le_of_ble_eq_true rfl) ?_
  show EvF G 0 m_Mod_cost (0, [(0, .ref A)], [], M) _ _
  refine EvF.gop 1 (go_aload_n d_Mod_cost_0 rfl 0 rfl) rfl ?_
  refine EvF.gop 4 (go_get f_Mod_214 d_Mod_cost_1 (hA) rfl) rfl ?_
  exact EvF.rl d_Mod_cost_4 rfl (rfl) (rfl)
theorem e_Mod_count (G : gG) (M : gM) (A : Nat) (a : Nat → Nat) (s : Nat → Int32) (c : Int64) (w : Int32) (hI : InjA A a) (hA : gRd M A = some (.inr (11, oMod a s c))) : Ev G 0 m_Mod_count [.ref A, .int w] M (some (.int (mnI w (s 47) (s 23) (s 48) (s 49) (s 50) (s 9) (s 1)))) M := by
  refine Ev.of (Nat.le_of_ble_eq_true rfl) ?_
  show EvF G 0 m_Mod_count (0, [(0, .ref A), (1, .int w)], [], M) _ _
  refine EvF.gop 1 (go_iload_n d_Mod_count_0 rfl 1 rfl) rfl ?_
  by_cases c1 : w < 0
  · have c1x : ¬ 0 ≤ w := Int32.not_le.mpr c1
    refine EvF.gop 10 (go_if_lt_t 10 d_Mod_count_1 (by decide) (c1)) rfl ?_
    refine EvF.gop 11 (go_iconst (v := (-1)) d_Mod_count_10 (by decide)) rfl ?_
    exact EvF.ri d_Mod_count_11 rfl (by first | (simp [bI, mnI, *]; done) | (simp_all [bI, mnI]; done)) (rfl)
  · have c1x : 0 ≤ w := Int32.not_lt.mp c1
    refine EvF.gop 4 (go_if_lt_f 10 d_Mod_count_1 (by decide) (c1)) rfl ?_
    refine EvF.gop 5 (go_iload_n d_Mod_count_4 rfl 1 rfl) rfl ?_
    refine EvF.gop 7 (go_bipush (v := 6) d_Mod_count_5 (by decide)) rfl ?_
    by_cases c2 : w ≤ 6
    · have c2x : ¬ 6 < w := Int32.not_lt.mpr c2
      refine EvF.gop 12 (go_icmp_le_t 12 d_Mod_count_7 (by decide) (c2)) rfl ?_
      refine EvF.gop 13 (go_iload_n d_Mod_count_12 rfl 1 rfl) rfl ?_
      refine EvF.gop 14 (go_iconst (v := 2) d_Mod_count_13 (by decide)) rfl ?_
      by_cases c3 : 2 ≤ w
      · have c3x : ¬ w < 2 := Int32.not_lt.mpr c3
        refine EvF.gop 33 (go_icmp_ge_t 33 d_Mod_count_14 (by decide) (c3)) rfl ?_
        refine EvF.gop 34 (go_iload_n d_Mod_count_33 rfl 1 rfl) rfl ?_
        refine EvF.gop 35 (go_iconst (v := 4) d_Mod_count_34 (by decide)) rfl ?_
        by_cases c4 : 4 ≤ w
        · have c4x : ¬ w < 4 := Int32.not_lt.mpr c4
          refine EvF.gop 55 (go_icmp_ge_t 55 d_Mod_count_35 (by decide) (c4)) rfl ?_
          refine EvF.gop 56 (go_iload_n d_Mod_count_55 rfl 1 rfl) rfl ?_
          refine EvF.gop 57 (go_iconst (v := 4) d_Mod_count_56 (by decide)) rfl ?_
          by_cases c5 : w = 4
          · refine EvF.gop 60 (go_icmp_ne_f 67 d_Mod_count_57 (by decide) (c5)) rfl ?_
            refine EvF.gop 61 (go_aload_n d_Mod_count_60 rfl 0 rfl) rfl ?_
            refine EvF.gop 64 (go_get f_Mod_211 d_Mod_count_61 (hA) rfl) rfl ?_
            refine EvF.gop 83 (go_goto 83 d_Mod_count_64 (by decide)) rfl ?_
            exact EvF.ri d_Mod_count_83 rfl (by first | (simp [bI, mnI, *]; done) | (simp_all [bI, mnI]; done)) (rfl)
          · refine EvF.gop 67 (go_icmp_ne_t 67 d_Mod_count_57 (by decide) (c5)) rfl ?_
            refine EvF.gop 68 (go_iload_n d_Mod_count_67 rfl 1 rfl) rfl ?_
            refine EvF.gop 69 (go_iconst (v := 5) d_Mod_count_68 (by decide)) rfl ?_
            by_cases c6 : w = 5
            · refine EvF.gop 72 (go_icmp_ne_f 79 d_Mod_count_69 (by decide) (c6)) rfl ?_
              refine EvF.gop 73 (go_aload_n d_Mod_count_72 rfl 0 rfl) rfl ?_
              refine EvF.gop 76 (go_get f_Mod_122 d_Mod_count_73 (hA) rfl) rfl ?_
              refine EvF.gop 83 (go_goto 83 d_Mod_count_76 (by decide)) rfl ?_
              exact EvF.ri d_Mod_count_83 rfl (by first | (simp [bI, mnI, *]; done) | (simp_all [bI, mnI]; done)) (rfl)
            · refine EvF.gop 79 (go_icmp_ne_t 79 d_Mod_count_69 (by decide) (c6)) rfl ?_
              refine EvF.gop 80 (go_aload_n d_Mod_count_79 rfl 0 rfl) rfl ?_
              refine EvF.gop 83 (go_get f_Mod_118 d_Mod_count_80 (hA) rfl) rfl ?_
              exact EvF.ri d_Mod_count_83 rfl (by first | (simp [bI, mnI, *]; done) | (simp_all [bI, mnI]; done)) (rfl)
        · have c4x : w < 4 := Int32.not_le.mp c4
          refine EvF.gop 38 (go_icmp_ge_f 55 d_Mod_count_35 (by decide) (c4)) rfl ?_
          refine EvF.gop 39 (go_iload_n d_Mod_count_38 rfl 1 rfl) rfl ?_
          refine EvF.gop 40 (go_iconst (v := 2) d_Mod_count_39 (by decide)) rfl ?_
          by_cases c7 : w = 2
          · refine EvF.gop 43 (go_icmp_ne_f 50 d_Mod_count_40 (by decide) (c7)) rfl ?_
            refine EvF.gop 44 (go_aload_n d_Mod_count_43 rfl 0 rfl) rfl ?_
            refine EvF.gop 47 (go_get f_Mod_205 d_Mod_count_44 (hA) rfl) rfl ?_
            refine EvF.gop 54 (go_goto 54 d_Mod_count_47 (by decide)) rfl ?_
            exact EvF.ri d_Mod_count_54 rfl (by first | (simp [bI, mnI, *]; done) | (simp_all [bI, mnI]; done)) (rfl)
          · refine EvF.gop 50 (go_icmp_ne_t 50 d_Mod_count_40 (by decide) (c7)) rfl ?_
            refine EvF.gop 51 (go_aload_n d_Mod_count_50 rfl 0 rfl) rfl ?_
            refine EvF.gop 54 (go_get f_Mod_208 d_Mod_count_51 (hA) rfl) rfl ?_
            exact EvF.ri d_Mod_count_54 rfl (by first | (simp [bI, mnI, *]; done) | (simp_all [bI, mnI]; done)) (rfl)
      · have c3x : w < 2 := Int32.not_le.mp c3
        refine EvF.gop 17 (go_icmp_ge_f 33 d_Mod_count_14 (by decide) (c3)) rfl ?_
        refine EvF.gop 18 (go_iload_n d_Mod_count_17 rfl 1 rfl) rfl ?_
        by_cases c8 : w = 0
        · refine EvF.gop 21 (go_if_ne_f 28 d_Mod_count_18 (by decide) (c8)) rfl ?_
          refine EvF.gop 22 (go_aload_n d_Mod_count_21 rfl 0 rfl) rfl ?_
          refine EvF.gop 25 (go_get f_Mod_199 d_Mod_count_22 (hA) rfl) rfl ?_
          refine EvF.gop 32 (go_goto 32 d_Mod_count_25 (by decide)) rfl ?_
          exact EvF.ri d_Mod_count_32 rfl (by first | (simp [bI, mnI, *]; done) | (simp_all [bI, mnI]; done)) (rfl)
        · refine EvF.gop 28 (go_if_ne_t 28 d_Mod_count_18 (by decide) (c8)) rfl ?_
          refine EvF.gop 29 (go_aload_n d_Mod_count_28 rfl 0 rfl) rfl ?_
          refine EvF.gop 32 (go_get f_Mod_202 d_Mod_count_29 (hA) rfl) rfl ?_
          exact EvF.ri d_Mod_count_32 rfl (by first | (simp [bI, mnI, *]; done) | (simp_all [bI, mnI]; done)) (rfl)
    · have c2x : 6 < w := Int32.not_le.mp c2
      refine EvF.gop 10 (go_icmp_le_f 12 d_Mod_count_7 (by decide) (c2)) rfl ?_
      refine EvF.gop 11 (go_iconst (v := (-1)) d_Mod_count_10 (by decide)) rfl ?_
      exact EvF.ri d_Mod_count_11 rfl (by first | (simp [bI, mnI, *]; done) | (simp_all [bI, mnI]; done)) (rfl)
theorem e_Mod_lineR (G : gG) (M : gM) (A : Nat) (a : Nat → Nat) (s : Nat → Int32) (c : Int64) (x y : Int32) (hI : InjA A a) (hA : gRd M A = some (.inr (11, oMod a s c))) (hx : ilB x (s 47) = false) : Ev G 1 m_Mod_line [.ref A, .int x, .int y] M (some (.int (-1))) M := by
  refine Ev.of (Nat.le_of_ble_eq_true rfl) ?_
  show EvF G 1 m_Mod_line (0, [(0, .ref A), (1, .int x), (2, .int y)], [], M) _ _
  refine EvF.gop 1 (go_aload_n d_Mod_line_0 rfl 0 rfl) rfl ?_
  refine EvF.gop 2 (go_iload_n d_Mod_line_1 rfl 1 rfl) rfl ?_
  refine EvF.gop 5 (go_callV [.int x] [.int (bI (ilB x (s 47)))] c0_Mod_isLine im_Mod_isLine se_Mod_isLine lk_Mod_236 d_Mod_line_2 rfl rfl (hA) (e_Mod_isLine G M A a s c x hI hA) (by decide) rfl rfl (Nat.le_of_ble_eq_true rfl) rfl) rfl ?_
  refine EvF.gop 17 (go_if_eq_t 17 d_Mod_line_5 (by decide) (by rw [hx]; rfl)) rfl ?_
  refine EvF.gop 18 (go_iconst (v := (-1)) d_Mod_line_17 (by decide)) rfl ?_
  exact EvF.ri d_Mod_line_18 rfl (rfl) (rfl)
theorem e_Mod_characterR (G : gG) (M : gM) (A : Nat) (a : Nat → Nat) (s : Nat → Int32) (c : Int64) (x y : Int32) (hI : InjA A a) (hA : gRd M A = some (.inr (11, oMod a s c))) (hx : ilB x (s 47) = false) : Ev G 1 m_Mod_character [.ref A, .int x, .int y] M (some (.int (-1))) M := by
  refine Ev.of (Nat.le_of_ble_eq_true rfl) ?_
  show EvF G 1 m_Mod_character (0, [(0, .ref A), (1, .int x), (2, .int y)], [], M) _ _
  refine EvF.gop 1 (go_aload_n d_Mod_character_0 rfl 0 rfl) rfl ?_
  refine EvF.gop 2 (go_iload_n d_Mod_character_1 rfl 1 rfl) rfl ?_
  refine EvF.gop 5 (go_callV [.int x] [.int (bI (ilB x (s 47)))] c0_Mod_isLine im_Mod_isLine se_Mod_isLine lk_Mod_236 d_Mod_character_2 rfl rfl (hA) (e_Mod_isLine G M A a s c x hI hA) (by decide) rfl rfl (Nat.le_of_ble_eq_true rfl) rfl) rfl ?_
  refine EvF.gop 12 (go_if_eq_t 12 d_Mod_character_5 (by decide) (by rw [hx]; rfl)) rfl ?_
  refine EvF.gop 13 (go_iconst (v := (-1)) d_Mod_character_12 (by decide)) rfl ?_
  exact EvF.ri d_Mod_character_13 rfl (rfl) (rfl)
theorem e_Mod_placeR (G : gG) (M : gM) (A : Nat) (a : Nat → Nat) (s : Nat → Int32) (c : Int64) (x y : Int32) (hI : InjA A a) (hA : gRd M A = some (.inr (11, oMod a s c))) (hx : ilB x (s 47) = false) : Ev G 1 m_Mod_place [.ref A, .int x, .int y] M (some (.int (-1))) M := by
  refine Ev.of (Nat.le_of_ble_eq_true rfl) ?_
  show EvF G 1 m_Mod_place (0, [(0, .ref A), (1, .int x), (2, .int y)], [], M) _ _
  refine EvF.gop 1 (go_aload_n d_Mod_place_0 rfl 0 rfl) rfl ?_
  refine EvF.gop 2 (go_iload_n d_Mod_place_1 rfl 1 rfl) rfl ?_
  refine EvF.gop 5 (go_callV [.int x] [.int (bI (ilB x (s 47)))] c0_Mod_isLine im_Mod_isLine se_Mod_isLine lk_Mod_236 d_Mod_place_2 rfl rfl (hA) (e_Mod_isLine G M A a s c x hI hA) (by decide) rfl rfl (Nat.le_of_ble_eq_true rfl) rfl) rfl ?_
  refine EvF.gop 21 (go_if_eq_t 21 d_Mod_place_5 (by decide) (by rw [hx]; rfl)) rfl ?_
  refine EvF.gop 22 (go_iconst (v := (-1)) d_Mod_place_21 (by decide)) rfl ?_
  exact EvF.ri d_Mod_place_22 rfl (rfl) (rfl)
theorem ilB_t {i ln : Nat} (hi : i < ln) (hln : ln ≤ 24) : ilB (nI i) (nI ln) = true := by
  have h1 := nI_pos' (n := i) (by omega)
  have h2 := nI_lt hi (by omega)
  simp [ilB, h1, h2]
theorem g_Mod_line (G : gG) (M : gM) (A : Nat) (a : Nat → Nat) (s : Nat → Int32) (c : Int64) (it f38 f39 f40 f41 f42 f43 f44 : Nat → Int32) (i ln e g : Nat) (hI : InjA A a) (hA : gRd M A = some (.inr (11, oMod a s c))) (m19 : gRd M (a 19) = some (aI G 120 it)) (m38 : gRd M (a 38) = some (aI G 25 f38)) (m39 : gRd M (a 39) = some (aI G 25 f39)) (m40 : gRd M (a 40) = some (aI G 25 f40)) (m41 : gRd M (a 41) = some (aI G 25 f41)) (m42 : gRd M (a 42) = some (aI G 25 f42)) (m43 : gRd M (a 43) = some (aI G 25 f43)) (m44 : gRd M (a 44) = some (aI G 25 f44)) (h47 : s 47 = nI ln) (hi : i < ln) (hln : ln ≤ 24) (h38 : f38 i = nI g) (h39 : f39 i = nI e) (hge : g ≤ e) (he : e ≤ 120) (w : Int32) : ∀ r k q : Nat, r = e - k → k ≤ 120 → Go G m_Mod_line 1 (94, [(0, .ref A), (1, .int (nI i)), (2, .int w), (3, .int (nI q)), (4, .int (nI k))], [], M) (127, [(0, .ref A), (1, .int (nI i)), (2, .int w), (3, .int (nI ((q + ltF it r k))))], [], M) := by
  intro r
  induction r with
  | zero =>
    intro k q hr hk
    refine Go.trp 96 (go_iload d_Mod_line_94 4 rfl) rfl ?_
    refine Go.trp 97 (go_aload_n d_Mod_line_96 rfl 0 rfl) rfl ?_
    refine Go.trp 100 (go_get f_Mod_87 d_Mod_line_97 (hA) rfl) rfl ?_
    refine Go.trp 101 (go_iload_n d_Mod_line_100 rfl 1 rfl) rfl ?_
    refine Go.trp 102 (go_iald (j := i) d_Mod_line_101 (m39) (rfl) (by omega) (by omega)) rfl ?_
    refine (go_v (y := nI e) (h39)).tr ?_
    refine Go.trp 127 (go_icmp_ge_t 127 d_Mod_line_102 (by decide) (nI_le (by omega) (by omega))) rfl ?_
    refine (go_pick [0, 1, 2, 3] [(0, .ref A), (1, .int (nI i)), (2, .int w), (3, .int (nI q))] rfl).tr ?_
    exact Go.rf
  | succ r ih =>
    intro k q hr hk
    refine Go.trp 96 (go_iload d_Mod_line_94 4 rfl) rfl ?_
    refine Go.trp 97 (go_aload_n d_Mod_line_96 rfl 0 rfl) rfl ?_
    refine Go.trp 100 (go_get f_Mod_87 d_Mod_line_97 (hA) rfl) rfl ?_
    refine Go.trp 101 (go_iload_n d_Mod_line_100 rfl 1 rfl) rfl ?_
    refine Go.trp 102 (go_iald (j := i) d_Mod_line_101 (m39) (rfl) (by omega) (by omega)) rfl ?_
    refine (go_v (y := nI e) (h39)).tr ?_
    refine Go.trp 105 (go_icmp_ge_f 127 d_Mod_line_102 (by decide) (nI_ge (by omega) (by omega))) rfl ?_
    refine Go.trp 106 (go_aload_n d_Mod_line_105 rfl 0 rfl) rfl ?_
    refine Go.trp 109 (go_get f_Mod_52 d_Mod_line_106 (hA) rfl) rfl ?_
    refine Go.trp 111 (go_iload d_Mod_line_109 4 rfl) rfl ?_
    refine Go.trp 112 (go_iald (j := k) d_Mod_line_111 (m19) (rfl) (by omega) (by omega)) rfl ?_
    refine Go.trp 115 (go_callS [.int (it k)] [.int (bI (cLet (it k)))] c0_Mod_letter sm_Mod_letter lk_Mod_111 d_Mod_line_112 (e_Mod_letter G _ (it k)) (by decide) rfl rfl (Nat.le_of_ble_eq_true rfl) rfl) rfl ?_
    by_cases c1 : (bI (cLet (it k))) = 0
    · have c1x : (cLet (it k)) = false := bI_0.mp c1
      refine Go.trp 121 (go_if_eq_t 121 d_Mod_line_115 (by decide) (c1)) rfl ?_
      refine Go.trp 124 (go_inc1 (n0 := 4) (x := k) [(4, .int (nI (k + 1))), (0, .ref A), (1, .int (nI i)), (2, .int w), (3, .int (nI q))] d_Mod_line_121 rfl (by decide) rfl) rfl ?_
      refine (go_pick [1, 2, 3, 4, 0] [(0, .ref A), (1, .int (nI i)), (2, .int w), (3, .int (nI q)), (4, .int (nI (k + 1)))] rfl).tr ?_
      refine Go.trp 94 (go_goto 94 d_Mod_line_124 (by decide)) rfl ?_
      have el : q + ltF it (r + 1) k = q + ltF it r (k + 1) := by rw [show ltF it (r + 1) k = (if cLet (it k) = true then 1 else 0) + ltF it r (k + 1) from rfl, if_neg (by rw [‹cLet (it k) = false›]; decide)]; omega
      rw [el]
      exact ih (k + 1) _ (by omega) (by omega)
    · have c1x : (cLet (it k)) = true := bI_n0.mp c1
      refine Go.trp 118 (go_if_eq_f 121 d_Mod_line_115 (by decide) (c1)) rfl ?_
      refine Go.trp 121 (go_inc1 (n0 := 3) (x := q) [(3, .int (nI (q + 1))), (0, .ref A), (1, .int (nI i)), (2, .int w), (4, .int (nI k))] d_Mod_line_118 rfl (by decide) rfl) rfl ?_
      refine (go_pick [1, 2, 3, 0, 4] [(0, .ref A), (1, .int (nI i)), (2, .int w), (3, .int (nI (q + 1))), (4, .int (nI k))] rfl).tr ?_
      refine Go.trp 124 (go_inc1 (n0 := 4) (x := k) [(4, .int (nI (k + 1))), (0, .ref A), (1, .int (nI i)), (2, .int w), (3, .int (nI (q + 1)))] d_Mod_line_121 rfl (by decide) rfl) rfl ?_
      refine (go_pick [1, 2, 3, 4, 0] [(0, .ref A), (1, .int (nI i)), (2, .int w), (3, .int (nI (q + 1))), (4, .int (nI (k + 1)))] rfl).tr ?_
      refine Go.trp 94 (go_goto 94 d_Mod_line_124 (by decide)) rfl ?_
      have el : q + ltF it (r + 1) k = q + 1 + ltF it r (k + 1) := by rw [show ltF it (r + 1) k = (if cLet (it k) = true then 1 else 0) + ltF it r (k + 1) from rfl, if_pos (by assumption)]; omega
      rw [el]
      exact ih (k + 1) _ (by omega) (by omega)
theorem e_Mod_line (G : gG) (M : gM) (A : Nat) (a : Nat → Nat) (s : Nat → Int32) (c : Int64) (it f38 f39 f40 f41 f42 f43 f44 : Nat → Int32) (i ln e g : Nat) (hI : InjA A a) (hA : gRd M A = some (.inr (11, oMod a s c))) (m19 : gRd M (a 19) = some (aI G 120 it)) (m38 : gRd M (a 38) = some (aI G 25 f38)) (m39 : gRd M (a 39) = some (aI G 25 f39)) (m40 : gRd M (a 40) = some (aI G 25 f40)) (m41 : gRd M (a 41) = some (aI G 25 f41)) (m42 : gRd M (a 42) = some (aI G 25 f42)) (m43 : gRd M (a 43) = some (aI G 25 f43)) (m44 : gRd M (a 44) = some (aI G 25 f44)) (h47 : s 47 = nI ln) (hi : i < ln) (hln : ln ≤ 24) (h38 : f38 i = nI g) (h39 : f39 i = nI e) (hge : g ≤ e) (he : e ≤ 120) (w : Int32) : Ev G 1 m_Mod_line [.ref A, .int (nI i), .int w] M (some (.int (mlI w (f41 i) (f40 i) (f42 i) (f43 i) (f44 i) (nI (ltF it (e - g) g))))) M := by
  refine Ev.of (Nat.le_of_ble_eq_true rfl) ?_
  show EvF G 1 m_Mod_line (0, [(0, .ref A), (1, .int (nI i)), (2, .int w)], [], M) _ _
  refine EvF.gop 1 (go_aload_n d_Mod_line_0 rfl 0 rfl) rfl ?_
  refine EvF.gop 2 (go_iload_n d_Mod_line_1 rfl 1 rfl) rfl ?_
  refine EvF.gop 5 (go_callV [.int (nI i)] [.int (bI (ilB (nI i) (s 47)))] c0_Mod_isLine im_Mod_isLine se_Mod_isLine lk_Mod_236 d_Mod_line_2 rfl rfl (hA) (e_Mod_isLine G M A a s c (nI i) hI hA) (by decide) rfl rfl (Nat.le_of_ble_eq_true rfl) rfl) rfl ?_
  refine EvF.gop 8 (go_if_eq_f 17 d_Mod_line_5 (by decide) (by rw [h47, ilB_t hi hln]; decide)) rfl ?_
  refine EvF.gop 9 (go_iload_n d_Mod_line_8 rfl 2 rfl) rfl ?_
  by_cases c1 : w < 0
  · have c1x : ¬ 0 ≤ w := Int32.not_le.mpr c1
    refine EvF.gop 17 (go_if_lt_t 17 d_Mod_line_9 (by decide) (c1)) rfl ?_
    refine EvF.gop 18 (go_iconst (v := (-1)) d_Mod_line_17 (by decide)) rfl ?_
    exact EvF.ri d_Mod_line_18 rfl (by first | (simp [bI, mlI, *]; done) | (simp_all [bI, mlI]; done)) (rfl)
  · have c1x : 0 ≤ w := Int32.not_lt.mp c1
    refine EvF.gop 12 (go_if_lt_f 17 d_Mod_line_9 (by decide) (c1)) rfl ?_
    refine EvF.gop 13 (go_iload_n d_Mod_line_12 rfl 2 rfl) rfl ?_
    refine EvF.gop 14 (go_iconst (v := 5) d_Mod_line_13 (by decide)) rfl ?_
    by_cases c2 : w ≤ 5
    · have c2x : ¬ 5 < w := Int32.not_lt.mpr c2
      refine EvF.gop 19 (go_icmp_le_t 19 d_Mod_line_14 (by decide) (c2)) rfl ?_
      refine EvF.gop 20 (go_iload_n d_Mod_line_19 rfl 2 rfl) rfl ?_
      refine EvF.gop 21 (go_iconst (v := 3) d_Mod_line_20 (by decide)) rfl ?_
      by_cases c3 : 3 ≤ w
      · have c3x : ¬ w < 3 := Int32.not_lt.mpr c3
        refine EvF.gop 58 (go_icmp_ge_t 58 d_Mod_line_21 (by decide) (c3)) rfl ?_
        refine EvF.gop 59 (go_iload_n d_Mod_line_58 rfl 2 rfl) rfl ?_
        refine EvF.gop 60 (go_iconst (v := 5) d_Mod_line_59 (by decide)) rfl ?_
        by_cases c4 : 5 ≤ w
        · have c4x : ¬ w < 5 := Int32.not_lt.mpr c4
          refine EvF.gop 84 (go_icmp_ge_t 84 d_Mod_line_60 (by decide) (c4)) rfl ?_
          refine EvF.gop 85 (go_iconst (v := nI 0) d_Mod_line_84 (rfl)) rfl ?_
          refine EvF.gop 86 (go_istore_n [(3, .int (nI 0)), (0, .ref A), (1, .int (nI i)), (2, .int w)] d_Mod_line_85 rfl (by decide) rfl) rfl ?_
          refine EvF.go (go_pick [1, 2, 3, 0] [(0, .ref A), (1, .int (nI i)), (2, .int w), (3, .int (nI 0))] rfl) ?_
          refine EvF.gop 87 (go_aload_n d_Mod_line_86 rfl 0 rfl) rfl ?_
          refine EvF.gop 90 (go_get f_Mod_84 d_Mod_line_87 (hA) rfl) rfl ?_
          refine EvF.gop 91 (go_iload_n d_Mod_line_90 rfl 1 rfl) rfl ?_
          refine EvF.gop 92 (go_iald (j := i) d_Mod_line_91 (m38) (rfl) (by omega) (by omega)) rfl ?_
          refine EvF.go (go_v (y := nI g) (h38)) ?_
          refine EvF.gop 94 (go_istore [(4, .int (nI g)), (0, .ref A), (1, .int (nI i)), (2, .int w), (3, .int (nI 0))] d_Mod_line_92 (by decide) rfl) rfl ?_
          refine EvF.go (go_pick [1, 2, 3, 4, 0] [(0, .ref A), (1, .int (nI i)), (2, .int w), (3, .int (nI 0)), (4, .int (nI g))] rfl) ?_
          refine EvF.go (g_Mod_line G M A a s c it f38 f39 f40 f41 f42 f43 f44 i ln e g hI hA m19 m38 m39 m40 m41 m42 m43 m44 h47 hi hln h38 h39 hge he w (e - g) g 0 rfl (by omega)) ?_
          rw [Nat.zero_add]
          refine EvF.gop 128 (go_iload_n d_Mod_line_127 rfl 3 rfl) rfl ?_
          exact EvF.ri d_Mod_line_128 rfl (by first | (simp [bI, mlI, *]; done) | (simp_all [bI, mlI]; done)) (rfl)
        · have c4x : w < 5 := Int32.not_le.mp c4
          refine EvF.gop 63 (go_icmp_ge_f 84 d_Mod_line_60 (by decide) (c4)) rfl ?_
          refine EvF.gop 64 (go_iload_n d_Mod_line_63 rfl 2 rfl) rfl ?_
          refine EvF.gop 65 (go_iconst (v := 3) d_Mod_line_64 (by decide)) rfl ?_
          by_cases c5 : w = 3
          · refine EvF.gop 68 (go_icmp_ne_f 77 d_Mod_line_65 (by decide) (c5)) rfl ?_
            refine EvF.gop 69 (go_aload_n d_Mod_line_68 rfl 0 rfl) rfl ?_
            refine EvF.gop 72 (go_get f_Mod_99 d_Mod_line_69 (hA) rfl) rfl ?_
            refine EvF.gop 73 (go_iload_n d_Mod_line_72 rfl 1 rfl) rfl ?_
            refine EvF.gop 74 (go_iald (j := i) d_Mod_line_73 (m43) (rfl) (by omega) (by omega)) rfl ?_
            refine EvF.gop 83 (go_goto 83 d_Mod_line_74 (by decide)) rfl ?_
            exact EvF.ri d_Mod_line_83 rfl (by first | (simp [bI, mlI, *]; done) | (simp_all [bI, mlI]; done)) (rfl)
          · refine EvF.gop 77 (go_icmp_ne_t 77 d_Mod_line_65 (by decide) (c5)) rfl ?_
            refine EvF.gop 78 (go_aload_n d_Mod_line_77 rfl 0 rfl) rfl ?_
            refine EvF.gop 81 (go_get f_Mod_102 d_Mod_line_78 (hA) rfl) rfl ?_
            refine EvF.gop 82 (go_iload_n d_Mod_line_81 rfl 1 rfl) rfl ?_
            refine EvF.gop 83 (go_iald (j := i) d_Mod_line_82 (m44) (rfl) (by omega) (by omega)) rfl ?_
            exact EvF.ri d_Mod_line_83 rfl (by first | (simp [bI, mlI, *]; done) | (simp_all [bI, mlI]; done)) (rfl)
      · have c3x : w < 3 := Int32.not_le.mp c3
        refine EvF.gop 24 (go_icmp_ge_f 58 d_Mod_line_21 (by decide) (c3)) rfl ?_
        refine EvF.gop 25 (go_iload_n d_Mod_line_24 rfl 2 rfl) rfl ?_
        by_cases c6 : w = 0
        · refine EvF.gop 28 (go_if_ne_f 37 d_Mod_line_25 (by decide) (c6)) rfl ?_
          refine EvF.gop 29 (go_aload_n d_Mod_line_28 rfl 0 rfl) rfl ?_
          refine EvF.gop 32 (go_get f_Mod_93 d_Mod_line_29 (hA) rfl) rfl ?_
          refine EvF.gop 33 (go_iload_n d_Mod_line_32 rfl 1 rfl) rfl ?_
          refine EvF.gop 34 (go_iald (j := i) d_Mod_line_33 (m41) (rfl) (by omega) (by omega)) rfl ?_
          refine EvF.gop 57 (go_goto 57 d_Mod_line_34 (by decide)) rfl ?_
          exact EvF.ri d_Mod_line_57 rfl (by first | (simp [bI, mlI, *]; done) | (simp_all [bI, mlI]; done)) (rfl)
        · refine EvF.gop 37 (go_if_ne_t 37 d_Mod_line_25 (by decide) (c6)) rfl ?_
          refine EvF.gop 38 (go_iload_n d_Mod_line_37 rfl 2 rfl) rfl ?_
          refine EvF.gop 39 (go_iconst (v := 1) d_Mod_line_38 (by decide)) rfl ?_
          by_cases c7 : w = 1
          · refine EvF.gop 42 (go_icmp_ne_f 51 d_Mod_line_39 (by decide) (c7)) rfl ?_
            refine EvF.gop 43 (go_aload_n d_Mod_line_42 rfl 0 rfl) rfl ?_
            refine EvF.gop 46 (go_get f_Mod_90 d_Mod_line_43 (hA) rfl) rfl ?_
            refine EvF.gop 47 (go_iload_n d_Mod_line_46 rfl 1 rfl) rfl ?_
            refine EvF.gop 48 (go_iald (j := i) d_Mod_line_47 (m40) (rfl) (by omega) (by omega)) rfl ?_
            refine EvF.gop 57 (go_goto 57 d_Mod_line_48 (by decide)) rfl ?_
            exact EvF.ri d_Mod_line_57 rfl (by first | (simp [bI, mlI, *]; done) | (simp_all [bI, mlI]; done)) (rfl)
          · refine EvF.gop 51 (go_icmp_ne_t 51 d_Mod_line_39 (by decide) (c7)) rfl ?_
            refine EvF.gop 52 (go_aload_n d_Mod_line_51 rfl 0 rfl) rfl ?_
            refine EvF.gop 55 (go_get f_Mod_96 d_Mod_line_52 (hA) rfl) rfl ?_
            refine EvF.gop 56 (go_iload_n d_Mod_line_55 rfl 1 rfl) rfl ?_
            refine EvF.gop 57 (go_iald (j := i) d_Mod_line_56 (m42) (rfl) (by omega) (by omega)) rfl ?_
            exact EvF.ri d_Mod_line_57 rfl (by first | (simp [bI, mlI, *]; done) | (simp_all [bI, mlI]; done)) (rfl)
    · have c2x : 5 < w := Int32.not_le.mp c2
      refine EvF.gop 17 (go_icmp_le_f 19 d_Mod_line_14 (by decide) (c2)) rfl ?_
      refine EvF.gop 18 (go_iconst (v := (-1)) d_Mod_line_17 (by decide)) rfl ?_
      exact EvF.ri d_Mod_line_18 rfl (by first | (simp [bI, mlI, *]; done) | (simp_all [bI, mlI]; done)) (rfl)
theorem e_Mod_characters (G : gG) (M : gM) (A : Nat) (a : Nat → Nat) (s : Nat → Int32) (c : Int64) (it f38 f39 f40 : Nat → Int32) (i ln e g : Nat) (hI : InjA A a) (hA : gRd M A = some (.inr (11, oMod a s c))) (m19 : gRd M (a 19) = some (aI G 120 it)) (m38 : gRd M (a 38) = some (aI G 25 f38)) (m39 : gRd M (a 39) = some (aI G 25 f39)) (m40 : gRd M (a 40) = some (aI G 25 f40)) (h47 : s 47 = nI ln) (hi : i < ln) (hln : ln ≤ 24) (h38 : f38 i = nI g) (h39 : f39 i = nI e) (hge : g ≤ e) (he : e ≤ 120) : Ev G 0 m_Mod_characters [.ref A, .int (nI i)] M (some (.int (nI (chN (f40 i) e g)))) M := by
  refine Ev.of (Nat.le_of_ble_eq_true rfl) ?_
  show EvF G 0 m_Mod_characters (0, [(0, .ref A), (1, .int (nI i))], [], M) _ _
  refine EvF.gop 1 (go_aload_n d_Mod_characters_0 rfl 0 rfl) rfl ?_
  refine EvF.gop 4 (go_get f_Mod_87 d_Mod_characters_1 (hA) rfl) rfl ?_
  refine EvF.gop 5 (go_iload_n d_Mod_characters_4 rfl 1 rfl) rfl ?_
  refine EvF.gop 6 (go_iald (j := i) d_Mod_characters_5 (m39) (rfl) (by omega) (by omega)) rfl ?_
  refine EvF.go (go_v (y := nI e) (h39)) ?_
  refine EvF.gop 7 (go_aload_n d_Mod_characters_6 rfl 0 rfl) rfl ?_
  refine EvF.gop 10 (go_get f_Mod_84 d_Mod_characters_7 (hA) rfl) rfl ?_
  refine EvF.gop 11 (go_iload_n d_Mod_characters_10 rfl 1 rfl) rfl ?_
  refine EvF.gop 12 (go_iald (j := i) d_Mod_characters_11 (m38) (rfl) (by omega) (by omega)) rfl ?_
  refine EvF.go (go_v (y := nI g) (h38)) ?_
  refine EvF.gop 13 (go_isub d_Mod_characters_12) rfl ?_
  refine EvF.go (go_v (y := nI (e - g)) (pk_sub hge)) ?_
  refine EvF.gop 14 (go_aload_n d_Mod_characters_13 rfl 0 rfl) rfl ?_
  refine EvF.gop 17 (go_get f_Mod_90 d_Mod_characters_14 (hA) rfl) rfl ?_
  refine EvF.gop 18 (go_iload_n d_Mod_characters_17 rfl 1 rfl) rfl ?_
  refine EvF.gop 19 (go_iald (j := i) d_Mod_characters_18 (m40) (rfl) (by omega) (by omega)) rfl ?_
  refine EvF.gop 20 (go_iconst (v := 2) d_Mod_characters_19 (by decide)) rfl ?_
  by_cases c1 : (f40 i) = 2
  · refine EvF.gop 23 (go_icmp_ne_f 27 d_Mod_characters_20 (by decide) (c1)) rfl ?_
    refine EvF.gop 24 (go_iconst (v := nI 1) d_Mod_characters_23 (rfl)) rfl ?_
    refine EvF.gop 28 (go_goto 28 d_Mod_characters_24 (by decide)) rfl ?_
    refine EvF.gop 29 (go_iadd d_Mod_characters_28) rfl ?_
    refine EvF.go (go_v (y := nI ((e - g) + 1)) (nI_add (e - g) 1)) ?_
    exact EvF.ri d_Mod_characters_29 rfl (by rw [show chN (f40 i) e g = e - g + 1 from by unfold chN; rw [if_pos c1]]) (rfl)
  · refine EvF.gop 27 (go_icmp_ne_t 27 d_Mod_characters_20 (by decide) (c1)) rfl ?_
    refine EvF.gop 28 (go_iconst (v := nI 0) d_Mod_characters_27 (rfl)) rfl ?_
    refine EvF.gop 29 (go_iadd d_Mod_characters_28) rfl ?_
    refine EvF.go (go_v (y := nI ((e - g) + 0)) (nI_add (e - g) 0)) ?_
    exact EvF.ri d_Mod_characters_29 rfl (by rw [show chN (f40 i) e g = e - g + 0 from by unfold chN; rw [if_neg c1]]) (rfl)
theorem e_Mod_characterN (G : gG) (M : gM) (A : Nat) (a : Nat → Nat) (s : Nat → Int32) (c : Int64) (x y : Int32) (hI : InjA A a) (hA : gRd M A = some (.inr (11, oMod a s c))) (hy : y < 0) : Ev G 1 m_Mod_character [.ref A, .int x, .int y] M (some (.int (-1))) M := by
  refine Ev.of (Nat.le_of_ble_eq_true rfl) ?_
  show EvF G 1 m_Mod_character (0, [(0, .ref A), (1, .int x), (2, .int y)], [], M) _ _
  refine EvF.gop 1 (go_aload_n d_Mod_character_0 rfl 0 rfl) rfl ?_
  refine EvF.gop 2 (go_iload_n d_Mod_character_1 rfl 1 rfl) rfl ?_
  refine EvF.gop 5 (go_callV [.int x] [.int (bI (ilB x (s 47)))] c0_Mod_isLine im_Mod_isLine se_Mod_isLine lk_Mod_236 d_Mod_character_2 rfl rfl (hA) (e_Mod_isLine G M A a s c x hI hA) (by decide) rfl rfl (Nat.le_of_ble_eq_true rfl) rfl) rfl ?_
  by_cases c1 : (bI (ilB x (s 47))) = 0
  · have c1x : (ilB x (s 47)) = false := bI_0.mp c1
    refine EvF.gop 12 (go_if_eq_t 12 d_Mod_character_5 (by decide) (c1)) rfl ?_
    refine EvF.gop 13 (go_iconst (v := (-1)) d_Mod_character_12 (by decide)) rfl ?_
    exact EvF.ri d_Mod_character_13 rfl (rfl) (rfl)
  · have c1x : (ilB x (s 47)) = true := bI_n0.mp c1
    refine EvF.gop 8 (go_if_eq_f 12 d_Mod_character_5 (by decide) (c1)) rfl ?_
    refine EvF.gop 9 (go_iload_n d_Mod_character_8 rfl 2 rfl) rfl ?_
    refine EvF.gop 12 (go_if_ge_f 14 d_Mod_character_9 (by decide) (Int32.not_le.mpr hy)) rfl ?_
    refine EvF.gop 13 (go_iconst (v := (-1)) d_Mod_character_12 (by decide)) rfl ?_
    exact EvF.ri d_Mod_character_13 rfl (rfl) (rfl)
theorem e_Mod_placeN (G : gG) (M : gM) (A : Nat) (a : Nat → Nat) (s : Nat → Int32) (c : Int64) (x y : Int32) (hI : InjA A a) (hA : gRd M A = some (.inr (11, oMod a s c))) (hy : y < 0) : Ev G 1 m_Mod_place [.ref A, .int x, .int y] M (some (.int (-1))) M := by
  refine Ev.of (Nat.le_of_ble_eq_true rfl) ?_
  show EvF G 1 m_Mod_place (0, [(0, .ref A), (1, .int x), (2, .int y)], [], M) _ _
  refine EvF.gop 1 (go_aload_n d_Mod_place_0 rfl 0 rfl) rfl ?_
  refine EvF.gop 2 (go_iload_n d_Mod_place_1 rfl 1 rfl) rfl ?_
  refine EvF.gop 5 (go_callV [.int x] [.int (bI (ilB x (s 47)))] c0_Mod_isLine im_Mod_isLine se_Mod_isLine lk_Mod_236 d_Mod_place_2 rfl rfl (hA) (e_Mod_isLine G M A a s c x hI hA) (by decide) rfl rfl (Nat.le_of_ble_eq_true rfl) rfl) rfl ?_
  by_cases c1 : (bI (ilB x (s 47))) = 0
  · have c1x : (ilB x (s 47)) = false := bI_0.mp c1
    refine EvF.gop 21 (go_if_eq_t 21 d_Mod_place_5 (by decide) (c1)) rfl ?_
    refine EvF.gop 22 (go_iconst (v := (-1)) d_Mod_place_21 (by decide)) rfl ?_
    exact EvF.ri d_Mod_place_22 rfl (rfl) (rfl)
  · have c1x : (ilB x (s 47)) = true := bI_n0.mp c1
    refine EvF.gop 8 (go_if_eq_f 21 d_Mod_place_5 (by decide) (c1)) rfl ?_
    refine EvF.gop 9 (go_iload_n d_Mod_place_8 rfl 2 rfl) rfl ?_
    refine EvF.gop 21 (go_if_lt_t 21 d_Mod_place_9 (by decide) (hy)) rfl ?_
    refine EvF.gop 22 (go_iconst (v := (-1)) d_Mod_place_21 (by decide)) rfl ?_
    exact EvF.ri d_Mod_place_22 rfl (rfl) (rfl)
theorem e_Mod_character (G : gG) (M : gM) (A : Nat) (a : Nat → Nat) (s : Nat → Int32) (c : Int64) (it f38 f39 f40 : Nat → Int32) (i ln e g : Nat) (hI : InjA A a) (hA : gRd M A = some (.inr (11, oMod a s c))) (m19 : gRd M (a 19) = some (aI G 120 it)) (m38 : gRd M (a 38) = some (aI G 25 f38)) (m39 : gRd M (a 39) = some (aI G 25 f39)) (m40 : gRd M (a 40) = some (aI G 25 f40)) (h47 : s 47 = nI ln) (hi : i < ln) (hln : ln ≤ 24) (h38 : f38 i = nI g) (h39 : f39 i = nI e) (hge : g ≤ e) (he : e ≤ 120) (k : Nat) (hk : k < 2 ^ 31) : Ev G 1 m_Mod_character [.ref A, .int (nI i), .int (nI k)] M (some (.int (chI it (f40 i) e g k))) M := by
  have hcl := chN_le (f40 i) e g
  refine Ev.of (Nat.le_of_ble_eq_true rfl) ?_
  show EvF G 1 m_Mod_character (0, [(0, .ref A), (1, .int (nI i)), (2, .int (nI k))], [], M) _ _
  refine EvF.gop 1 (go_aload_n d_Mod_character_0 rfl 0 rfl) rfl ?_
  refine EvF.gop 2 (go_iload_n d_Mod_character_1 rfl 1 rfl) rfl ?_
  refine EvF.gop 5 (go_callV [.int (nI i)] [.int (bI (ilB (nI i) (s 47)))] c0_Mod_isLine im_Mod_isLine se_Mod_isLine lk_Mod_236 d_Mod_character_2 rfl rfl (hA) (e_Mod_isLine G M A a s c (nI i) hI hA) (by decide) rfl rfl (Nat.le_of_ble_eq_true rfl) rfl) rfl ?_
  refine EvF.gop 8 (go_if_eq_f 12 d_Mod_character_5 (by decide) (by rw [h47, ilB_t hi hln]; decide)) rfl ?_
  refine EvF.gop 9 (go_iload_n d_Mod_character_8 rfl 2 rfl) rfl ?_
  refine EvF.gop 14 (go_if_ge_t 14 d_Mod_character_9 (by decide) (nI_pos' (by omega))) rfl ?_
  refine EvF.gop 15 (go_iload_n d_Mod_character_14 rfl 2 rfl) rfl ?_
  refine EvF.gop 16 (go_aload_n d_Mod_character_15 rfl 0 rfl) rfl ?_
  refine EvF.gop 17 (go_iload_n d_Mod_character_16 rfl 1 rfl) rfl ?_
  refine EvF.gop 20 (go_callV [.int (nI i)] [.int (nI (chN (f40 i) e g)), .int (nI k)] c0_Mod_characters im_Mod_characters se_Mod_characters lk_Mod_239 d_Mod_character_17 rfl rfl (hA) (e_Mod_characters G M A a s c it f38 f39 f40 i ln e g hI hA m19 m38 m39 m40 h47 hi hln h38 h39 hge he) (by decide) rfl rfl (Nat.le_of_ble_eq_true rfl) rfl) rfl ?_
  by_cases c1 : (nI k) < (nI (chN (f40 i) e g))
  · have c1x : k < (chN (f40 i) e g) := (nI_ltI (a := k) (b := (chN (f40 i) e g)) (by omega) (by omega)).mp c1
    have c1y : ¬ (chN (f40 i) e g) ≤ k := by omega
    refine EvF.gop 25 (go_icmp_lt_t 25 d_Mod_character_20 (by decide) (c1)) rfl ?_
    refine EvF.gop 26 (go_aload_n d_Mod_character_25 rfl 0 rfl) rfl ?_
    refine EvF.gop 29 (go_get f_Mod_84 d_Mod_character_26 (hA) rfl) rfl ?_
    refine EvF.gop 30 (go_iload_n d_Mod_character_29 rfl 1 rfl) rfl ?_
    refine EvF.gop 31 (go_iald (j := i) d_Mod_character_30 (m38) (rfl) (by omega) (by omega)) rfl ?_
    refine EvF.go (go_v (y := nI g) (h38)) ?_
    refine EvF.gop 32 (go_iload_n d_Mod_character_31 rfl 2 rfl) rfl ?_
    refine EvF.gop 33 (go_iadd d_Mod_character_32) rfl ?_
    refine EvF.go (go_v (y := nI (g + k)) (nI_add g k)) ?_
    refine EvF.gop 34 (go_istore_n [(3, .int (nI (g + k))), (0, .ref A), (1, .int (nI i)), (2, .int (nI k))] d_Mod_character_33 rfl (by decide) rfl) rfl ?_
    refine EvF.go (go_pick [1, 2, 3, 0] [(0, .ref A), (1, .int (nI i)), (2, .int (nI k)), (3, .int (nI (g + k)))] rfl) ?_
    refine EvF.gop 35 (go_iload_n d_Mod_character_34 rfl 3 rfl) rfl ?_
    refine EvF.gop 36 (go_aload_n d_Mod_character_35 rfl 0 rfl) rfl ?_
    refine EvF.gop 39 (go_get f_Mod_87 d_Mod_character_36 (hA) rfl) rfl ?_
    refine EvF.gop 40 (go_iload_n d_Mod_character_39 rfl 1 rfl) rfl ?_
    refine EvF.gop 41 (go_iald (j := i) d_Mod_character_40 (m39) (rfl) (by omega) (by omega)) rfl ?_
    refine EvF.go (go_v (y := nI e) (h39)) ?_
    by_cases c2 : (nI (g + k)) = (nI e)
    · have c2x : (g + k) = e := (nI_eq (a := (g + k)) (b := e) (by omega) (by omega)).mp c2
      refine EvF.gop 44 (go_icmp_ne_f 47 d_Mod_character_41 (by decide) (c2)) rfl ?_
      refine EvF.gop 46 (go_bipush (v := 45) d_Mod_character_44 (by decide)) rfl ?_
      exact EvF.ri d_Mod_character_46 rfl (by rw [show chI it (f40 i) e g k = 45 from (if_neg (show ¬ chN (f40 i) e g ≤ k by omega)).trans (if_pos (by omega))]) (rfl)
    · have c2x : ¬ (g + k) = e := fun q9 => c2 ((nI_eq (a := (g + k)) (b := e) (by omega) (by omega)).mpr q9)
      refine EvF.gop 47 (go_icmp_ne_t 47 d_Mod_character_41 (by decide) (c2)) rfl ?_
      refine EvF.gop 48 (go_aload_n d_Mod_character_47 rfl 0 rfl) rfl ?_
      refine EvF.gop 51 (go_get f_Mod_52 d_Mod_character_48 (hA) rfl) rfl ?_
      refine EvF.gop 52 (go_iload_n d_Mod_character_51 rfl 3 rfl) rfl ?_
      refine EvF.gop 53 (go_iald (j := (g + k)) d_Mod_character_52 (m19) (rfl) (by omega) (by omega)) rfl ?_
      refine EvF.gop 55 (go_bipush (v := 126) d_Mod_character_53 (by decide)) rfl ?_
      by_cases c3 : (it (g + k)) = 126
      · refine EvF.gop 58 (go_icmp_ne_f 63 d_Mod_character_55 (by decide) (c3)) rfl ?_
        refine EvF.gop 60 (go_bipush (v := 32) d_Mod_character_58 (by decide)) rfl ?_
        refine EvF.gop 69 (go_goto 69 d_Mod_character_60 (by decide)) rfl ?_
        exact EvF.ri d_Mod_character_69 rfl (by rw [show chI it (f40 i) e g k = 32 from (if_neg (show ¬ chN (f40 i) e g ≤ k by omega)).trans ((if_neg (show ¬ g + k = e by omega)).trans (if_pos (by assumption)))]) (rfl)
      · refine EvF.gop 63 (go_icmp_ne_t 63 d_Mod_character_55 (by decide) (c3)) rfl ?_
        refine EvF.gop 64 (go_aload_n d_Mod_character_63 rfl 0 rfl) rfl ?_
        refine EvF.gop 67 (go_get f_Mod_52 d_Mod_character_64 (hA) rfl) rfl ?_
        refine EvF.gop 68 (go_iload_n d_Mod_character_67 rfl 3 rfl) rfl ?_
        refine EvF.gop 69 (go_iald (j := (g + k)) d_Mod_character_68 (m19) (rfl) (by omega) (by omega)) rfl ?_
        exact EvF.ri d_Mod_character_69 rfl (by rw [show chI it (f40 i) e g k = it (g + k) from (if_neg (show ¬ chN (f40 i) e g ≤ k by omega)).trans ((if_neg (show ¬ g + k = e by omega)).trans (if_neg (by assumption)))]) (rfl)
  · have c1x : (chN (f40 i) e g) ≤ k := Nat.le_of_not_lt (fun q9 => c1 ((nI_ltI (a := k) (b := (chN (f40 i) e g)) (by omega) (by omega)).mpr q9))
    have c1y : ¬ k < (chN (f40 i) e g) := by omega
    refine EvF.gop 23 (go_icmp_lt_f 25 d_Mod_character_20 (by decide) (c1)) rfl ?_
    refine EvF.gop 24 (go_iconst (v := 0) d_Mod_character_23 (by decide)) rfl ?_
    exact EvF.ri d_Mod_character_24 rfl (by rw [show chI it (f40 i) e g k = 0 from if_pos (show chN (f40 i) e g ≤ k by omega)]) (rfl)
theorem g_Mod_place (G : gG) (M : gM) (A : Nat) (a : Nat → Nat) (s : Nat → Int32) (c : Int64) (it sz sp f38 f39 f40 f43 f45 f46 : Nat → Int32) (i ln e g : Nat) (hI : InjA A a) (hA : gRd M A = some (.inr (11, oMod a s c))) (m19 : gRd M (a 19) = some (aI G 120 it)) (m20 : gRd M (a 20) = some (aI G 120 sz)) (m21 : gRd M (a 21) = some (aI G 120 sp)) (m38 : gRd M (a 38) = some (aI G 25 f38)) (m39 : gRd M (a 39) = some (aI G 25 f39)) (m40 : gRd M (a 40) = some (aI G 25 f40)) (m43 : gRd M (a 43) = some (aI G 25 f43)) (m45 : gRd M (a 45) = some (aI G 25 f45)) (m46 : gRd M (a 46) = some (aI G 25 f46)) (h47 : s 47 = nI ln) (hi : i < ln) (hln : ln ≤ 24) (h38 : f38 i = nI g) (h39 : f39 i = nI e) (hge : g ≤ e) (he : e ≤ 120) (k : Nat) (hk : g + k ≤ 120) : ∀ (r t : Nat) (T : Int32 × Int32), t + r = g + k → Go G m_Mod_place 1 (44, [(0, .ref A), (1, .int (nI i)), (2, .int (nI k)), (3, .int T.1), (4, .int T.2), (5, .int (f43 i)), (6, .int (nI t))], [], M) (130, [(0, .ref A), (1, .int (nI i)), (2, .int (nI k)), (3, .int ((psF it sz sp (f43 i) r t T).1)), (4, .int ((psF it sz sp (f43 i) r t T).2)), (5, .int (f43 i)), (6, .int (nI (g + k)))], [], M) := by
  intro r
  induction r with
  | zero =>
    intro t T hr
    rw [show t = g + k from by omega]
    refine Go.trp 46 (go_iload d_Mod_place_44 6 rfl) rfl ?_
    refine Go.trp 47 (go_aload_n d_Mod_place_46 rfl 0 rfl) rfl ?_
    refine Go.trp 50 (go_get f_Mod_84 d_Mod_place_47 (hA) rfl) rfl ?_
    refine Go.trp 51 (go_iload_n d_Mod_place_50 rfl 1 rfl) rfl ?_
    refine Go.trp 52 (go_iald (j := i) d_Mod_place_51 (m38) (rfl) (by omega) (by omega)) rfl ?_
    refine (go_v (y := nI g) (h38)).tr ?_
    refine Go.trp 53 (go_iload_n d_Mod_place_52 rfl 2 rfl) rfl ?_
    refine Go.trp 54 (go_iadd d_Mod_place_53) rfl ?_
    refine (go_v (y := nI (g + k)) (nI_add g k)).tr ?_
    refine Go.trp 130 (go_icmp_ge_t 130 d_Mod_place_54 (by decide) (nI_le (Nat.le_refl _) (by omega))) rfl ?_
    exact Go.rf
  | succ r ih =>
    intro t T hr
    refine Go.trp 46 (go_iload d_Mod_place_44 6 rfl) rfl ?_
    refine Go.trp 47 (go_aload_n d_Mod_place_46 rfl 0 rfl) rfl ?_
    refine Go.trp 50 (go_get f_Mod_84 d_Mod_place_47 (hA) rfl) rfl ?_
    refine Go.trp 51 (go_iload_n d_Mod_place_50 rfl 1 rfl) rfl ?_
    refine Go.trp 52 (go_iald (j := i) d_Mod_place_51 (m38) (rfl) (by omega) (by omega)) rfl ?_
    refine (go_v (y := nI g) (h38)).tr ?_
    refine Go.trp 53 (go_iload_n d_Mod_place_52 rfl 2 rfl) rfl ?_
    refine Go.trp 54 (go_iadd d_Mod_place_53) rfl ?_
    refine (go_v (y := nI (g + k)) (nI_add g k)).tr ?_
    refine Go.trp 57 (go_icmp_ge_f 130 d_Mod_place_54 (by decide) (nI_ge (by omega) (by omega))) rfl ?_
    refine Go.trp 58 (go_iload_n d_Mod_place_57 rfl 3 rfl) rfl ?_
    refine Go.trp 59 (go_aload_n d_Mod_place_58 rfl 0 rfl) rfl ?_
    refine Go.trp 62 (go_get f_Mod_55 d_Mod_place_59 (hA) rfl) rfl ?_
    refine Go.trp 64 (go_iload d_Mod_place_62 6 rfl) rfl ?_
    refine Go.trp 65 (go_iald (j := t) d_Mod_place_64 (m20) (rfl) (by omega) (by omega)) rfl ?_
    refine Go.trp 66 (go_iadd d_Mod_place_65) rfl ?_
    refine Go.trp 67 (go_istore_n [(3, .int (T.1 + (sz t))), (0, .ref A), (1, .int (nI i)), (2, .int (nI k)), (4, .int T.2), (5, .int (f43 i)), (6, .int (nI t))] d_Mod_place_66 rfl (by decide) rfl) rfl ?_
    refine (go_pick [1, 2, 3, 0, 4, 5, 6] [(0, .ref A), (1, .int (nI i)), (2, .int (nI k)), (3, .int (T.1 + (sz t))), (4, .int T.2), (5, .int (f43 i)), (6, .int (nI t))] rfl).tr ?_
    refine Go.trp 68 (go_aload_n d_Mod_place_67 rfl 0 rfl) rfl ?_
    refine Go.trp 71 (go_get f_Mod_52 d_Mod_place_68 (hA) rfl) rfl ?_
    refine Go.trp 73 (go_iload d_Mod_place_71 6 rfl) rfl ?_
    refine Go.trp 74 (go_iald (j := t) d_Mod_place_73 (m19) (rfl) (by omega) (by omega)) rfl ?_
    refine Go.trp 76 (go_bipush (v := 32) d_Mod_place_74 (by decide)) rfl ?_
    by_cases c1 : (it t) = 32
    · refine Go.trp 91 (go_icmp_eq_t 91 d_Mod_place_76 (by decide) (c1)) rfl ?_
      refine Go.trp 93 (go_iload d_Mod_place_91 4 rfl) rfl ?_
      refine Go.trp 95 (go_iload d_Mod_place_93 5 rfl) rfl ?_
      by_cases c2 : (f43 i) ≤ 0
      · have c2x : ¬ 0 < (f43 i) := Int32.not_lt.mpr c2
        refine Go.trp 112 (go_if_le_t 112 d_Mod_place_95 (by decide) (c2)) rfl ?_
        refine Go.trp 113 (go_aload_n d_Mod_place_112 rfl 0 rfl) rfl ?_
        refine Go.trp 116 (go_get f_Mod_58 d_Mod_place_113 (hA) rfl) rfl ?_
        refine Go.trp 118 (go_iload d_Mod_place_116 6 rfl) rfl ?_
        refine Go.trp 119 (go_iald (j := t) d_Mod_place_118 (m21) (rfl) (by omega) (by omega)) rfl ?_
        refine Go.trp 120 (go_iconst (v := 3) d_Mod_place_119 (by decide)) rfl ?_
        refine Go.trp 121 (go_idiv d_Mod_place_120 (by decide)) rfl ?_
        refine Go.trp 122 (go_iadd d_Mod_place_121) rfl ?_
        refine Go.trp 124 (go_istore [(4, .int (T.2 + ((sp t) / 3))), (0, .ref A), (1, .int (nI i)), (2, .int (nI k)), (3, .int (T.1 + (sz t))), (5, .int (f43 i)), (6, .int (nI t))] d_Mod_place_122 (by decide) rfl) rfl ?_
        refine (go_pick [1, 2, 3, 4, 0, 5, 6] [(0, .ref A), (1, .int (nI i)), (2, .int (nI k)), (3, .int (T.1 + (sz t))), (4, .int (T.2 + ((sp t) / 3))), (5, .int (f43 i)), (6, .int (nI t))] rfl).tr ?_
        refine Go.trp 127 (go_inc1 (n0 := 6) (x := t) [(6, .int (nI (t + 1))), (0, .ref A), (1, .int (nI i)), (2, .int (nI k)), (3, .int (T.1 + (sz t))), (4, .int (T.2 + ((sp t) / 3))), (5, .int (f43 i))] d_Mod_place_124 rfl (by decide) rfl) rfl ?_
        refine (go_pick [1, 2, 3, 4, 5, 6, 0] [(0, .ref A), (1, .int (nI i)), (2, .int (nI k)), (3, .int (T.1 + (sz t))), (4, .int (T.2 + ((sp t) / 3))), (5, .int (f43 i)), (6, .int (nI (t + 1)))] rfl).tr ?_
        refine Go.trp 44 (go_goto 44 d_Mod_place_127 (by decide)) rfl ?_
        have hsp : cSpc (it t) = true := by clear ih; simp [cSpc, *]
        have e9 : (psF it sz sp (f43 i) (r + 1) t T) = (psF it sz sp (f43 i) r (t + 1) (T.1 + sz t, T.2 + ((sp t) / 3))) := by show psF it sz sp (f43 i) r (t + 1) (T.1 + sz t, if cSpc (it t) = true then T.2 + (if 0 < f43 i then (sp t + 1) / 2 else sp t / 3) else T.2) = _; rw [if_pos hsp, if_neg (by assumption)]
        rw [e9]
        exact ih (t + 1) (T.1 + sz t, T.2 + ((sp t) / 3)) (by omega)
      · have c2x : 0 < (f43 i) := Int32.not_le.mp c2
        refine Go.trp 98 (go_if_le_f 112 d_Mod_place_95 (by decide) (c2)) rfl ?_
        refine Go.trp 99 (go_aload_n d_Mod_place_98 rfl 0 rfl) rfl ?_
        refine Go.trp 102 (go_get f_Mod_58 d_Mod_place_99 (hA) rfl) rfl ?_
        refine Go.trp 104 (go_iload d_Mod_place_102 6 rfl) rfl ?_
        refine Go.trp 105 (go_iald (j := t) d_Mod_place_104 (m21) (rfl) (by omega) (by omega)) rfl ?_
        refine Go.trp 106 (go_iconst (v := 1) d_Mod_place_105 (by decide)) rfl ?_
        refine Go.trp 107 (go_iadd d_Mod_place_106) rfl ?_
        refine Go.trp 108 (go_iconst (v := 2) d_Mod_place_107 (by decide)) rfl ?_
        refine Go.trp 109 (go_idiv d_Mod_place_108 (by decide)) rfl ?_
        refine Go.trp 121 (go_goto 121 d_Mod_place_109 (by decide)) rfl ?_
        refine Go.trp 122 (go_iadd d_Mod_place_121) rfl ?_
        refine Go.trp 124 (go_istore [(4, .int (T.2 + (((sp t) + 1) / 2))), (0, .ref A), (1, .int (nI i)), (2, .int (nI k)), (3, .int (T.1 + (sz t))), (5, .int (f43 i)), (6, .int (nI t))] d_Mod_place_122 (by decide) rfl) rfl ?_
        refine (go_pick [1, 2, 3, 4, 0, 5, 6] [(0, .ref A), (1, .int (nI i)), (2, .int (nI k)), (3, .int (T.1 + (sz t))), (4, .int (T.2 + (((sp t) + 1) / 2))), (5, .int (f43 i)), (6, .int (nI t))] rfl).tr ?_
        refine Go.trp 127 (go_inc1 (n0 := 6) (x := t) [(6, .int (nI (t + 1))), (0, .ref A), (1, .int (nI i)), (2, .int (nI k)), (3, .int (T.1 + (sz t))), (4, .int (T.2 + (((sp t) + 1) / 2))), (5, .int (f43 i))] d_Mod_place_124 rfl (by decide) rfl) rfl ?_
        refine (go_pick [1, 2, 3, 4, 5, 6, 0] [(0, .ref A), (1, .int (nI i)), (2, .int (nI k)), (3, .int (T.1 + (sz t))), (4, .int (T.2 + (((sp t) + 1) / 2))), (5, .int (f43 i)), (6, .int (nI (t + 1)))] rfl).tr ?_
        refine Go.trp 44 (go_goto 44 d_Mod_place_127 (by decide)) rfl ?_
        have hsp : cSpc (it t) = true := by clear ih; simp [cSpc, *]
        have e9 : (psF it sz sp (f43 i) (r + 1) t T) = (psF it sz sp (f43 i) r (t + 1) (T.1 + sz t, T.2 + (((sp t) + 1) / 2))) := by show psF it sz sp (f43 i) r (t + 1) (T.1 + sz t, if cSpc (it t) = true then T.2 + (if 0 < f43 i then (sp t + 1) / 2 else sp t / 3) else T.2) = _; rw [if_pos hsp, if_pos (by assumption)]
        rw [e9]
        exact ih (t + 1) (T.1 + sz t, T.2 + (((sp t) + 1) / 2)) (by omega)
    · refine Go.trp 79 (go_icmp_eq_f 91 d_Mod_place_76 (by decide) (c1)) rfl ?_
      refine Go.trp 80 (go_aload_n d_Mod_place_79 rfl 0 rfl) rfl ?_
      refine Go.trp 83 (go_get f_Mod_52 d_Mod_place_80 (hA) rfl) rfl ?_
      refine Go.trp 85 (go_iload d_Mod_place_83 6 rfl) rfl ?_
      refine Go.trp 86 (go_iald (j := t) d_Mod_place_85 (m19) (rfl) (by omega) (by omega)) rfl ?_
      refine Go.trp 88 (go_bipush (v := 126) d_Mod_place_86 (by decide)) rfl ?_
      by_cases c3 : (it t) = 126
      · refine Go.trp 91 (go_icmp_ne_f 124 d_Mod_place_88 (by decide) (c3)) rfl ?_
        refine Go.trp 93 (go_iload d_Mod_place_91 4 rfl) rfl ?_
        refine Go.trp 95 (go_iload d_Mod_place_93 5 rfl) rfl ?_
        by_cases c4 : (f43 i) ≤ 0
        · have c4x : ¬ 0 < (f43 i) := Int32.not_lt.mpr c4
          refine Go.trp 112 (go_if_le_t 112 d_Mod_place_95 (by decide) (c4)) rfl ?_
          refine Go.trp 113 (go_aload_n d_Mod_place_112 rfl 0 rfl) rfl ?_
          refine Go.trp 116 (go_get f_Mod_58 d_Mod_place_113 (hA) rfl) rfl ?_
          refine Go.trp 118 (go_iload d_Mod_place_116 6 rfl) rfl ?_
          refine Go.trp 119 (go_iald (j := t) d_Mod_place_118 (m21) (rfl) (by omega) (by omega)) rfl ?_
          refine Go.trp 120 (go_iconst (v := 3) d_Mod_place_119 (by decide)) rfl ?_
          refine Go.trp 121 (go_idiv d_Mod_place_120 (by decide)) rfl ?_
          refine Go.trp 122 (go_iadd d_Mod_place_121) rfl ?_
          refine Go.trp 124 (go_istore [(4, .int (T.2 + ((sp t) / 3))), (0, .ref A), (1, .int (nI i)), (2, .int (nI k)), (3, .int (T.1 + (sz t))), (5, .int (f43 i)), (6, .int (nI t))] d_Mod_place_122 (by decide) rfl) rfl ?_
          refine (go_pick [1, 2, 3, 4, 0, 5, 6] [(0, .ref A), (1, .int (nI i)), (2, .int (nI k)), (3, .int (T.1 + (sz t))), (4, .int (T.2 + ((sp t) / 3))), (5, .int (f43 i)), (6, .int (nI t))] rfl).tr ?_
          refine Go.trp 127 (go_inc1 (n0 := 6) (x := t) [(6, .int (nI (t + 1))), (0, .ref A), (1, .int (nI i)), (2, .int (nI k)), (3, .int (T.1 + (sz t))), (4, .int (T.2 + ((sp t) / 3))), (5, .int (f43 i))] d_Mod_place_124 rfl (by decide) rfl) rfl ?_
          refine (go_pick [1, 2, 3, 4, 5, 6, 0] [(0, .ref A), (1, .int (nI i)), (2, .int (nI k)), (3, .int (T.1 + (sz t))), (4, .int (T.2 + ((sp t) / 3))), (5, .int (f43 i)), (6, .int (nI (t + 1)))] rfl).tr ?_
          refine Go.trp 44 (go_goto 44 d_Mod_place_127 (by decide)) rfl ?_
          have hsp : cSpc (it t) = true := by clear ih; simp [cSpc, *]
          have e9 : (psF it sz sp (f43 i) (r + 1) t T) = (psF it sz sp (f43 i) r (t + 1) (T.1 + sz t, T.2 + ((sp t) / 3))) := by show psF it sz sp (f43 i) r (t + 1) (T.1 + sz t, if cSpc (it t) = true then T.2 + (if 0 < f43 i then (sp t + 1) / 2 else sp t / 3) else T.2) = _; rw [if_pos hsp, if_neg (by assumption)]
          rw [e9]
          exact ih (t + 1) (T.1 + sz t, T.2 + ((sp t) / 3)) (by omega)
        · have c4x : 0 < (f43 i) := Int32.not_le.mp c4
          refine Go.trp 98 (go_if_le_f 112 d_Mod_place_95 (by decide) (c4)) rfl ?_
          refine Go.trp 99 (go_aload_n d_Mod_place_98 rfl 0 rfl) rfl ?_
          refine Go.trp 102 (go_get f_Mod_58 d_Mod_place_99 (hA) rfl) rfl ?_
          refine Go.trp 104 (go_iload d_Mod_place_102 6 rfl) rfl ?_
          refine Go.trp 105 (go_iald (j := t) d_Mod_place_104 (m21) (rfl) (by omega) (by omega)) rfl ?_
          refine Go.trp 106 (go_iconst (v := 1) d_Mod_place_105 (by decide)) rfl ?_
          refine Go.trp 107 (go_iadd d_Mod_place_106) rfl ?_
          refine Go.trp 108 (go_iconst (v := 2) d_Mod_place_107 (by decide)) rfl ?_
          refine Go.trp 109 (go_idiv d_Mod_place_108 (by decide)) rfl ?_
          refine Go.trp 121 (go_goto 121 d_Mod_place_109 (by decide)) rfl ?_
          refine Go.trp 122 (go_iadd d_Mod_place_121) rfl ?_
          refine Go.trp 124 (go_istore [(4, .int (T.2 + (((sp t) + 1) / 2))), (0, .ref A), (1, .int (nI i)), (2, .int (nI k)), (3, .int (T.1 + (sz t))), (5, .int (f43 i)), (6, .int (nI t))] d_Mod_place_122 (by decide) rfl) rfl ?_
          refine (go_pick [1, 2, 3, 4, 0, 5, 6] [(0, .ref A), (1, .int (nI i)), (2, .int (nI k)), (3, .int (T.1 + (sz t))), (4, .int (T.2 + (((sp t) + 1) / 2))), (5, .int (f43 i)), (6, .int (nI t))] rfl).tr ?_
          refine Go.trp 127 (go_inc1 (n0 := 6) (x := t) [(6, .int (nI (t + 1))), (0, .ref A), (1, .int (nI i)), (2, .int (nI k)), (3, .int (T.1 + (sz t))), (4, .int (T.2 + (((sp t) + 1) / 2))), (5, .int (f43 i))] d_Mod_place_124 rfl (by decide) rfl) rfl ?_
          refine (go_pick [1, 2, 3, 4, 5, 6, 0] [(0, .ref A), (1, .int (nI i)), (2, .int (nI k)), (3, .int (T.1 + (sz t))), (4, .int (T.2 + (((sp t) + 1) / 2))), (5, .int (f43 i)), (6, .int (nI (t + 1)))] rfl).tr ?_
          refine Go.trp 44 (go_goto 44 d_Mod_place_127 (by decide)) rfl ?_
          have hsp : cSpc (it t) = true := by clear ih; simp [cSpc, *]
          have e9 : (psF it sz sp (f43 i) (r + 1) t T) = (psF it sz sp (f43 i) r (t + 1) (T.1 + sz t, T.2 + (((sp t) + 1) / 2))) := by show psF it sz sp (f43 i) r (t + 1) (T.1 + sz t, if cSpc (it t) = true then T.2 + (if 0 < f43 i then (sp t + 1) / 2 else sp t / 3) else T.2) = _; rw [if_pos hsp, if_pos (by assumption)]
          rw [e9]
          exact ih (t + 1) (T.1 + sz t, T.2 + (((sp t) + 1) / 2)) (by omega)
      · refine Go.trp 124 (go_icmp_ne_t 124 d_Mod_place_88 (by decide) (c3)) rfl ?_
        refine Go.trp 127 (go_inc1 (n0 := 6) (x := t) [(6, .int (nI (t + 1))), (0, .ref A), (1, .int (nI i)), (2, .int (nI k)), (3, .int (T.1 + (sz t))), (4, .int T.2), (5, .int (f43 i))] d_Mod_place_124 rfl (by decide) rfl) rfl ?_
        refine (go_pick [1, 2, 3, 4, 5, 6, 0] [(0, .ref A), (1, .int (nI i)), (2, .int (nI k)), (3, .int (T.1 + (sz t))), (4, .int T.2), (5, .int (f43 i)), (6, .int (nI (t + 1)))] rfl).tr ?_
        refine Go.trp 44 (go_goto 44 d_Mod_place_127 (by decide)) rfl ?_
        have hsp : cSpc (it t) = false := by clear ih; simp [cSpc, *]
        have e9 : (psF it sz sp (f43 i) (r + 1) t T) = (psF it sz sp (f43 i) r (t + 1) (T.1 + sz t, T.2)) := by show psF it sz sp (f43 i) r (t + 1) (T.1 + sz t, if cSpc (it t) = true then T.2 + (if 0 < f43 i then (sp t + 1) / 2 else sp t / 3) else T.2) = _; rw [if_neg (by rw [hsp]; decide)]
        rw [e9]
        exact ih (t + 1) (T.1 + sz t, T.2) (by omega)
theorem e_Mod_place (G : gG) (M : gM) (A : Nat) (a : Nat → Nat) (s : Nat → Int32) (c : Int64) (it sz sp f38 f39 f40 f43 f45 f46 : Nat → Int32) (i ln e g : Nat) (hI : InjA A a) (hA : gRd M A = some (.inr (11, oMod a s c))) (m19 : gRd M (a 19) = some (aI G 120 it)) (m20 : gRd M (a 20) = some (aI G 120 sz)) (m21 : gRd M (a 21) = some (aI G 120 sp)) (m38 : gRd M (a 38) = some (aI G 25 f38)) (m39 : gRd M (a 39) = some (aI G 25 f39)) (m40 : gRd M (a 40) = some (aI G 25 f40)) (m43 : gRd M (a 43) = some (aI G 25 f43)) (m45 : gRd M (a 45) = some (aI G 25 f45)) (m46 : gRd M (a 46) = some (aI G 25 f46)) (h47 : s 47 = nI ln) (hi : i < ln) (hln : ln ≤ 24) (h38 : f38 i = nI g) (h39 : f39 i = nI e) (hge : g ≤ e) (he : e ≤ 120) (k : Nat) (hk : k < chN (f40 i) e g) (hz : ¬ f43 i = 0 → ¬ (0 < f43 i ∧ 3 ≤ f40 i) → ¬ (if 0 < f43 i then f45 i else f46 i) = 0) : Ev G 1 m_Mod_place [.ref A, .int (nI i), .int (nI k)] M (some (.int (pmI (f40 i) (f43 i) (f45 i) (f46 i) (psF it sz sp (f43 i) k g (0, 0))))) M := by
  have hcl := chN_le (f40 i) e g
  refine Ev.of (Nat.le_of_ble_eq_true rfl) ?_
  show EvF G 1 m_Mod_place (0, [(0, .ref A), (1, .int (nI i)), (2, .int (nI k))], [], M) _ _
  refine EvF.gop 1 (go_aload_n d_Mod_place_0 rfl 0 rfl) rfl ?_
  refine EvF.gop 2 (go_iload_n d_Mod_place_1 rfl 1 rfl) rfl ?_
  refine EvF.gop 5 (go_callV [.int (nI i)] [.int (bI (ilB (nI i) (s 47)))] c0_Mod_isLine im_Mod_isLine se_Mod_isLine lk_Mod_236 d_Mod_place_2 rfl rfl (hA) (e_Mod_isLine G M A a s c (nI i) hI hA) (by decide) rfl rfl (Nat.le_of_ble_eq_true rfl) rfl) rfl ?_
  refine EvF.gop 8 (go_if_eq_f 21 d_Mod_place_5 (by decide) (by rw [h47, ilB_t hi hln]; decide)) rfl ?_
  refine EvF.gop 9 (go_iload_n d_Mod_place_8 rfl 2 rfl) rfl ?_
  refine EvF.gop 12 (go_if_lt_f 21 d_Mod_place_9 (by decide) (nI_pos (by omega))) rfl ?_
  refine EvF.gop 13 (go_iload_n d_Mod_place_12 rfl 2 rfl) rfl ?_
  refine EvF.gop 14 (go_aload_n d_Mod_place_13 rfl 0 rfl) rfl ?_
  refine EvF.gop 15 (go_iload_n d_Mod_place_14 rfl 1 rfl) rfl ?_
  refine EvF.gop 18 (go_callV [.int (nI i)] [.int (nI (chN (f40 i) e g)), .int (nI k)] c0_Mod_characters im_Mod_characters se_Mod_characters lk_Mod_239 d_Mod_place_15 rfl rfl (hA) (e_Mod_characters G M A a s c it f38 f39 f40 i ln e g hI hA m19 m38 m39 m40 h47 hi hln h38 h39 hge he) (by decide) rfl rfl (Nat.le_of_ble_eq_true rfl) rfl) rfl ?_
  refine EvF.gop 23 (go_icmp_lt_t 23 d_Mod_place_18 (by decide) (nI_lt (by omega) (by omega))) rfl ?_
  refine EvF.gop 24 (go_iconst (v := 0) d_Mod_place_23 (by decide)) rfl ?_
  refine EvF.gop 25 (go_istore_n [(3, .int 0), (0, .ref A), (1, .int (nI i)), (2, .int (nI k))] d_Mod_place_24 rfl (by decide) rfl) rfl ?_
  refine EvF.go (go_pick [1, 2, 3, 0] [(0, .ref A), (1, .int (nI i)), (2, .int (nI k)), (3, .int 0)] rfl) ?_
  refine EvF.gop 26 (go_iconst (v := 0) d_Mod_place_25 (by decide)) rfl ?_
  refine EvF.gop 28 (go_istore [(4, .int 0), (0, .ref A), (1, .int (nI i)), (2, .int (nI k)), (3, .int 0)] d_Mod_place_26 (by decide) rfl) rfl ?_
  refine EvF.go (go_pick [1, 2, 3, 4, 0] [(0, .ref A), (1, .int (nI i)), (2, .int (nI k)), (3, .int 0), (4, .int 0)] rfl) ?_
  refine EvF.gop 29 (go_aload_n d_Mod_place_28 rfl 0 rfl) rfl ?_
  refine EvF.gop 32 (go_get f_Mod_99 d_Mod_place_29 (hA) rfl) rfl ?_
  refine EvF.gop 33 (go_iload_n d_Mod_place_32 rfl 1 rfl) rfl ?_
  refine EvF.gop 34 (go_iald (j := i) d_Mod_place_33 (m43) (rfl) (by omega) (by omega)) rfl ?_
  refine EvF.gop 36 (go_istore [(5, .int (f43 i)), (0, .ref A), (1, .int (nI i)), (2, .int (nI k)), (3, .int 0), (4, .int 0)] d_Mod_place_34 (by decide) rfl) rfl ?_
  refine EvF.go (go_pick [1, 2, 3, 4, 5, 0] [(0, .ref A), (1, .int (nI i)), (2, .int (nI k)), (3, .int 0), (4, .int 0), (5, .int (f43 i))] rfl) ?_
  refine EvF.gop 37 (go_aload_n d_Mod_place_36 rfl 0 rfl) rfl ?_
  refine EvF.gop 40 (go_get f_Mod_84 d_Mod_place_37 (hA) rfl) rfl ?_
  refine EvF.gop 41 (go_iload_n d_Mod_place_40 rfl 1 rfl) rfl ?_
  refine EvF.gop 42 (go_iald (j := i) d_Mod_place_41 (m38) (rfl) (by omega) (by omega)) rfl ?_
  refine EvF.go (go_v (y := nI g) (h38)) ?_
  refine EvF.gop 44 (go_istore [(6, .int (nI g)), (0, .ref A), (1, .int (nI i)), (2, .int (nI k)), (3, .int 0), (4, .int 0), (5, .int (f43 i))] d_Mod_place_42 (by decide) rfl) rfl ?_
  refine EvF.go (go_pick [1, 2, 3, 4, 5, 6, 0] [(0, .ref A), (1, .int (nI i)), (2, .int (nI k)), (3, .int 0), (4, .int 0), (5, .int (f43 i)), (6, .int (nI g))] rfl) ?_
  refine EvF.go (g_Mod_place G M A a s c it sz sp f38 f39 f40 f43 f45 f46 i ln e g hI hA m19 m20 m21 m38 m39 m40 m43 m45 m46 h47 hi hln h38 h39 hge he k (by omega) k g (0, 0) rfl) ?_
  generalize (psF it sz sp (f43 i) k g (0, 0)) = T
  refine EvF.gop 132 (go_iload d_Mod_place_130 5 rfl) rfl ?_
  by_cases c1 : (f43 i) = 0
  · refine EvF.gop 150 (go_if_eq_t 150 d_Mod_place_132 (by decide) (c1)) rfl ?_
    refine EvF.gop 151 (go_iload_n d_Mod_place_150 rfl 3 rfl) rfl ?_
    have eP : pmI (f40 i) (f43 i) (f45 i) (f46 i) T = T.1 := by unfold pmI; first | exact if_pos (by assumption) | exact (if_neg (by assumption)).trans (if_pos (And.intro (by assumption) (by assumption)))
    rw [eP]
    exact EvF.ri d_Mod_place_151 rfl (rfl) (rfl)
  · refine EvF.gop 135 (go_if_eq_f 150 d_Mod_place_132 (by decide) (c1)) rfl ?_
    refine EvF.gop 137 (go_iload d_Mod_place_135 5 rfl) rfl ?_
    by_cases c2 : (f43 i) ≤ 0
    · have c2x : ¬ 0 < (f43 i) := Int32.not_lt.mpr c2
      refine EvF.gop 152 (go_if_le_t 152 d_Mod_place_137 (by decide) (c2)) rfl ?_
      refine EvF.gop 154 (go_iload d_Mod_place_152 5 rfl) rfl ?_
      by_cases c3 : (f43 i) ≤ 0
      · have c3x : ¬ 0 < (f43 i) := Int32.not_lt.mpr c3
        refine EvF.gop 166 (go_if_le_t 166 d_Mod_place_154 (by decide) (c3)) rfl ?_
        refine EvF.gop 167 (go_aload_n d_Mod_place_166 rfl 0 rfl) rfl ?_
        refine EvF.gop 170 (go_get f_Mod_108 d_Mod_place_167 (hA) rfl) rfl ?_
        refine EvF.gop 171 (go_iload_n d_Mod_place_170 rfl 1 rfl) rfl ?_
        refine EvF.gop 172 (go_iald (j := i) d_Mod_place_171 (m46) (rfl) (by omega) (by omega)) rfl ?_
        refine EvF.go (go_v (y := (if 0 < f43 i then f45 i else f46 i)) ((if_neg (by assumption)).symm)) ?_
        have hgv : ¬ (if 0 < f43 i then f45 i else f46 i) = 0 := hz (by assumption) (by rintro ⟨q1, q2⟩; first | exact absurd q1 (by assumption) | exact absurd q2 (by assumption))
        generalize hgg : (if 0 < f43 i then f45 i else f46 i) = gv at *
        refine EvF.gop 174 (go_istore [(6, .int gv), (0, .ref A), (1, .int (nI i)), (2, .int (nI k)), (3, .int T.1), (4, .int T.2), (5, .int (f43 i))] d_Mod_place_172 (by decide) rfl) rfl ?_
        refine EvF.go (go_pick [1, 2, 3, 4, 5, 6, 0] [(0, .ref A), (1, .int (nI i)), (2, .int (nI k)), (3, .int T.1), (4, .int T.2), (5, .int (f43 i)), (6, .int gv)] rfl) ?_
        refine EvF.gop 176 (go_iload d_Mod_place_174 5 rfl) rfl ?_
        refine EvF.gop 178 (go_iload d_Mod_place_176 4 rfl) rfl ?_
        refine EvF.gop 179 (go_imul d_Mod_place_178) rfl ?_
        refine EvF.gop 181 (go_istore [(7, .int ((f43 i) * T.2)), (0, .ref A), (1, .int (nI i)), (2, .int (nI k)), (3, .int T.1), (4, .int T.2), (5, .int (f43 i)), (6, .int gv)] d_Mod_place_179 (by decide) rfl) rfl ?_
        refine EvF.go (go_pick [1, 2, 3, 4, 5, 6, 7, 0] [(0, .ref A), (1, .int (nI i)), (2, .int (nI k)), (3, .int T.1), (4, .int T.2), (5, .int (f43 i)), (6, .int gv), (7, .int ((f43 i) * T.2))] rfl) ?_
        refine EvF.gop 183 (go_iload d_Mod_place_181 7 rfl) rfl ?_
        refine EvF.gop 185 (go_iload d_Mod_place_183 6 rfl) rfl ?_
        refine EvF.gop 186 (go_idiv d_Mod_place_185 (hgv)) rfl ?_
        refine EvF.gop 188 (go_istore [(8, .int (((f43 i) * T.2) / gv)), (0, .ref A), (1, .int (nI i)), (2, .int (nI k)), (3, .int T.1), (4, .int T.2), (5, .int (f43 i)), (6, .int gv), (7, .int ((f43 i) * T.2))] d_Mod_place_186 (by decide) rfl) rfl ?_
        refine EvF.go (go_pick [1, 2, 3, 4, 5, 6, 7, 8, 0] [(0, .ref A), (1, .int (nI i)), (2, .int (nI k)), (3, .int T.1), (4, .int T.2), (5, .int (f43 i)), (6, .int gv), (7, .int ((f43 i) * T.2)), (8, .int (((f43 i) * T.2) / gv))] rfl) ?_
        refine EvF.gop 190 (go_iload d_Mod_place_188 7 rfl) rfl ?_
        by_cases c4 : 0 ≤ ((f43 i) * T.2)
        · have c4x : ¬ ((f43 i) * T.2) < 0 := Int32.not_lt.mpr c4
          refine EvF.gop 210 (go_if_ge_t 210 d_Mod_place_190 (by decide) (c4)) rfl ?_
          refine EvF.gop 211 (go_iload_n d_Mod_place_210 rfl 3 rfl) rfl ?_
          refine EvF.gop 213 (go_iload d_Mod_place_211 8 rfl) rfl ?_
          refine EvF.gop 214 (go_iadd d_Mod_place_213) rfl ?_
          have eP : pmI (f40 i) (f43 i) (f45 i) (f46 i) T = T.1 + (((f43 i) * T.2) / gv) := by unfold pmI; rw [hgg]; first | exact (if_neg (by assumption)).trans ((if_neg (by rintro ⟨q1, q2⟩; first | exact absurd q1 (by assumption) | exact absurd q2 (by assumption))).trans ((if_pos (by assumption)).trans (if_neg (by assumption)))) | exact (if_neg (by assumption)).trans ((if_neg (by rintro ⟨q1, q2⟩; first | exact absurd q1 (by assumption) | exact absurd q2 (by assumption))).trans ((if_pos (by assumption)).trans (if_pos (by assumption)))) | exact (if_neg (by assumption)).trans ((if_neg (by rintro ⟨q1, q2⟩; first | exact absurd q1 (by assumption) | exact absurd q2 (by assumption))).trans (if_neg (by assumption)))
          rw [eP]
          exact EvF.ri d_Mod_place_214 rfl (rfl) (rfl)
        · have c4x : ((f43 i) * T.2) < 0 := Int32.not_le.mp c4
          refine EvF.gop 193 (go_if_ge_f 210 d_Mod_place_190 (by decide) (c4)) rfl ?_
          refine EvF.gop 195 (go_iload d_Mod_place_193 7 rfl) rfl ?_
          refine EvF.gop 197 (go_iload d_Mod_place_195 6 rfl) rfl ?_
          refine EvF.gop 198 (go_irem d_Mod_place_197 (hgv)) rfl ?_
          by_cases c5 : (((f43 i) * T.2) - ((f43 i) * T.2) / gv * gv) = 0
          · refine EvF.gop 210 (go_if_eq_t 210 d_Mod_place_198 (by decide) (c5)) rfl ?_
            refine EvF.gop 211 (go_iload_n d_Mod_place_210 rfl 3 rfl) rfl ?_
            refine EvF.gop 213 (go_iload d_Mod_place_211 8 rfl) rfl ?_
            refine EvF.gop 214 (go_iadd d_Mod_place_213) rfl ?_
            have eP : pmI (f40 i) (f43 i) (f45 i) (f46 i) T = T.1 + (((f43 i) * T.2) / gv) := by unfold pmI; rw [hgg]; first | exact (if_neg (by assumption)).trans ((if_neg (by rintro ⟨q1, q2⟩; first | exact absurd q1 (by assumption) | exact absurd q2 (by assumption))).trans ((if_pos (by assumption)).trans (if_neg (by assumption)))) | exact (if_neg (by assumption)).trans ((if_neg (by rintro ⟨q1, q2⟩; first | exact absurd q1 (by assumption) | exact absurd q2 (by assumption))).trans ((if_pos (by assumption)).trans (if_pos (by assumption)))) | exact (if_neg (by assumption)).trans ((if_neg (by rintro ⟨q1, q2⟩; first | exact absurd q1 (by assumption) | exact absurd q2 (by assumption))).trans (if_neg (by assumption)))
            rw [eP]
            exact EvF.ri d_Mod_place_214 rfl (rfl) (rfl)
          · refine EvF.gop 201 (go_if_eq_f 210 d_Mod_place_198 (by decide) (c5)) rfl ?_
            refine EvF.gop 202 (go_iload_n d_Mod_place_201 rfl 3 rfl) rfl ?_
            refine EvF.gop 204 (go_iload d_Mod_place_202 8 rfl) rfl ?_
            refine EvF.gop 205 (go_iadd d_Mod_place_204) rfl ?_
            refine EvF.gop 206 (go_iconst (v := 1) d_Mod_place_205 (by decide)) rfl ?_
            refine EvF.gop 207 (go_isub d_Mod_place_206) rfl ?_
            refine EvF.gop 214 (go_goto 214 d_Mod_place_207 (by decide)) rfl ?_
            have eP : pmI (f40 i) (f43 i) (f45 i) (f46 i) T = (T.1 + (((f43 i) * T.2) / gv)) - 1 := by unfold pmI; rw [hgg]; first | exact (if_neg (by assumption)).trans ((if_neg (by rintro ⟨q1, q2⟩; first | exact absurd q1 (by assumption) | exact absurd q2 (by assumption))).trans ((if_pos (by assumption)).trans (if_neg (by assumption)))) | exact (if_neg (by assumption)).trans ((if_neg (by rintro ⟨q1, q2⟩; first | exact absurd q1 (by assumption) | exact absurd q2 (by assumption))).trans ((if_pos (by assumption)).trans (if_pos (by assumption)))) | exact (if_neg (by assumption)).trans ((if_neg (by rintro ⟨q1, q2⟩; first | exact absurd q1 (by assumption) | exact absurd q2 (by assumption))).trans (if_neg (by assumption)))
            rw [eP]
            exact EvF.ri d_Mod_place_214 rfl (rfl) (rfl)
      · have c3x : 0 < (f43 i) := Int32.not_le.mp c3
        refine EvF.gop 157 (go_if_le_f 166 d_Mod_place_154 (by decide) (c3)) rfl ?_
        refine EvF.gop 158 (go_aload_n d_Mod_place_157 rfl 0 rfl) rfl ?_
        refine EvF.gop 161 (go_get f_Mod_105 d_Mod_place_158 (hA) rfl) rfl ?_
        refine EvF.gop 162 (go_iload_n d_Mod_place_161 rfl 1 rfl) rfl ?_
        refine EvF.gop 163 (go_iald (j := i) d_Mod_place_162 (m45) (rfl) (by omega) (by omega)) rfl ?_
        refine EvF.gop 172 (go_goto 172 d_Mod_place_163 (by decide)) rfl ?_
        refine EvF.go (go_v (y := (if 0 < f43 i then f45 i else f46 i)) ((if_pos (by assumption)).symm)) ?_
        have hgv : ¬ (if 0 < f43 i then f45 i else f46 i) = 0 := hz (by assumption) (by rintro ⟨q1, q2⟩; first | exact absurd q1 (by assumption) | exact absurd q2 (by assumption))
        generalize hgg : (if 0 < f43 i then f45 i else f46 i) = gv at *
        refine EvF.gop 174 (go_istore [(6, .int gv), (0, .ref A), (1, .int (nI i)), (2, .int (nI k)), (3, .int T.1), (4, .int T.2), (5, .int (f43 i))] d_Mod_place_172 (by decide) rfl) rfl ?_
        refine EvF.go (go_pick [1, 2, 3, 4, 5, 6, 0] [(0, .ref A), (1, .int (nI i)), (2, .int (nI k)), (3, .int T.1), (4, .int T.2), (5, .int (f43 i)), (6, .int gv)] rfl) ?_
        refine EvF.gop 176 (go_iload d_Mod_place_174 5 rfl) rfl ?_
        refine EvF.gop 178 (go_iload d_Mod_place_176 4 rfl) rfl ?_
        refine EvF.gop 179 (go_imul d_Mod_place_178) rfl ?_
        refine EvF.gop 181 (go_istore [(7, .int ((f43 i) * T.2)), (0, .ref A), (1, .int (nI i)), (2, .int (nI k)), (3, .int T.1), (4, .int T.2), (5, .int (f43 i)), (6, .int gv)] d_Mod_place_179 (by decide) rfl) rfl ?_
        refine EvF.go (go_pick [1, 2, 3, 4, 5, 6, 7, 0] [(0, .ref A), (1, .int (nI i)), (2, .int (nI k)), (3, .int T.1), (4, .int T.2), (5, .int (f43 i)), (6, .int gv), (7, .int ((f43 i) * T.2))] rfl) ?_
        refine EvF.gop 183 (go_iload d_Mod_place_181 7 rfl) rfl ?_
        refine EvF.gop 185 (go_iload d_Mod_place_183 6 rfl) rfl ?_
        refine EvF.gop 186 (go_idiv d_Mod_place_185 (hgv)) rfl ?_
        refine EvF.gop 188 (go_istore [(8, .int (((f43 i) * T.2) / gv)), (0, .ref A), (1, .int (nI i)), (2, .int (nI k)), (3, .int T.1), (4, .int T.2), (5, .int (f43 i)), (6, .int gv), (7, .int ((f43 i) * T.2))] d_Mod_place_186 (by decide) rfl) rfl ?_
        refine EvF.go (go_pick [1, 2, 3, 4, 5, 6, 7, 8, 0] [(0, .ref A), (1, .int (nI i)), (2, .int (nI k)), (3, .int T.1), (4, .int T.2), (5, .int (f43 i)), (6, .int gv), (7, .int ((f43 i) * T.2)), (8, .int (((f43 i) * T.2) / gv))] rfl) ?_
        refine EvF.gop 190 (go_iload d_Mod_place_188 7 rfl) rfl ?_
        by_cases c6 : 0 ≤ ((f43 i) * T.2)
        · have c6x : ¬ ((f43 i) * T.2) < 0 := Int32.not_lt.mpr c6
          refine EvF.gop 210 (go_if_ge_t 210 d_Mod_place_190 (by decide) (c6)) rfl ?_
          refine EvF.gop 211 (go_iload_n d_Mod_place_210 rfl 3 rfl) rfl ?_
          refine EvF.gop 213 (go_iload d_Mod_place_211 8 rfl) rfl ?_
          refine EvF.gop 214 (go_iadd d_Mod_place_213) rfl ?_
          have eP : pmI (f40 i) (f43 i) (f45 i) (f46 i) T = T.1 + (((f43 i) * T.2) / gv) := by unfold pmI; rw [hgg]; first | exact (if_neg (by assumption)).trans ((if_neg (by rintro ⟨q1, q2⟩; first | exact absurd q1 (by assumption) | exact absurd q2 (by assumption))).trans ((if_pos (by assumption)).trans (if_neg (by assumption)))) | exact (if_neg (by assumption)).trans ((if_neg (by rintro ⟨q1, q2⟩; first | exact absurd q1 (by assumption) | exact absurd q2 (by assumption))).trans ((if_pos (by assumption)).trans (if_pos (by assumption)))) | exact (if_neg (by assumption)).trans ((if_neg (by rintro ⟨q1, q2⟩; first | exact absurd q1 (by assumption) | exact absurd q2 (by assumption))).trans (if_neg (by assumption)))
          rw [eP]
          exact EvF.ri d_Mod_place_214 rfl (rfl) (rfl)
        · have c6x : ((f43 i) * T.2) < 0 := Int32.not_le.mp c6
          refine EvF.gop 193 (go_if_ge_f 210 d_Mod_place_190 (by decide) (c6)) rfl ?_
          refine EvF.gop 195 (go_iload d_Mod_place_193 7 rfl) rfl ?_
          refine EvF.gop 197 (go_iload d_Mod_place_195 6 rfl) rfl ?_
          refine EvF.gop 198 (go_irem d_Mod_place_197 (hgv)) rfl ?_
          by_cases c7 : (((f43 i) * T.2) - ((f43 i) * T.2) / gv * gv) = 0
          · refine EvF.gop 210 (go_if_eq_t 210 d_Mod_place_198 (by decide) (c7)) rfl ?_
            refine EvF.gop 211 (go_iload_n d_Mod_place_210 rfl 3 rfl) rfl ?_
            refine EvF.gop 213 (go_iload d_Mod_place_211 8 rfl) rfl ?_
            refine EvF.gop 214 (go_iadd d_Mod_place_213) rfl ?_
            have eP : pmI (f40 i) (f43 i) (f45 i) (f46 i) T = T.1 + (((f43 i) * T.2) / gv) := by unfold pmI; rw [hgg]; first | exact (if_neg (by assumption)).trans ((if_neg (by rintro ⟨q1, q2⟩; first | exact absurd q1 (by assumption) | exact absurd q2 (by assumption))).trans ((if_pos (by assumption)).trans (if_neg (by assumption)))) | exact (if_neg (by assumption)).trans ((if_neg (by rintro ⟨q1, q2⟩; first | exact absurd q1 (by assumption) | exact absurd q2 (by assumption))).trans ((if_pos (by assumption)).trans (if_pos (by assumption)))) | exact (if_neg (by assumption)).trans ((if_neg (by rintro ⟨q1, q2⟩; first | exact absurd q1 (by assumption) | exact absurd q2 (by assumption))).trans (if_neg (by assumption)))
            rw [eP]
            exact EvF.ri d_Mod_place_214 rfl (rfl) (rfl)
          · refine EvF.gop 201 (go_if_eq_f 210 d_Mod_place_198 (by decide) (c7)) rfl ?_
            refine EvF.gop 202 (go_iload_n d_Mod_place_201 rfl 3 rfl) rfl ?_
            refine EvF.gop 204 (go_iload d_Mod_place_202 8 rfl) rfl ?_
            refine EvF.gop 205 (go_iadd d_Mod_place_204) rfl ?_
            refine EvF.gop 206 (go_iconst (v := 1) d_Mod_place_205 (by decide)) rfl ?_
            refine EvF.gop 207 (go_isub d_Mod_place_206) rfl ?_
            refine EvF.gop 214 (go_goto 214 d_Mod_place_207 (by decide)) rfl ?_
            have eP : pmI (f40 i) (f43 i) (f45 i) (f46 i) T = (T.1 + (((f43 i) * T.2) / gv)) - 1 := by unfold pmI; rw [hgg]; first | exact (if_neg (by assumption)).trans ((if_neg (by rintro ⟨q1, q2⟩; first | exact absurd q1 (by assumption) | exact absurd q2 (by assumption))).trans ((if_pos (by assumption)).trans (if_neg (by assumption)))) | exact (if_neg (by assumption)).trans ((if_neg (by rintro ⟨q1, q2⟩; first | exact absurd q1 (by assumption) | exact absurd q2 (by assumption))).trans ((if_pos (by assumption)).trans (if_pos (by assumption)))) | exact (if_neg (by assumption)).trans ((if_neg (by rintro ⟨q1, q2⟩; first | exact absurd q1 (by assumption) | exact absurd q2 (by assumption))).trans (if_neg (by assumption)))
            rw [eP]
            exact EvF.ri d_Mod_place_214 rfl (rfl) (rfl)
    · have c2x : 0 < (f43 i) := Int32.not_le.mp c2
      refine EvF.gop 140 (go_if_le_f 152 d_Mod_place_137 (by decide) (c2)) rfl ?_
      refine EvF.gop 141 (go_aload_n d_Mod_place_140 rfl 0 rfl) rfl ?_
      refine EvF.gop 144 (go_get f_Mod_90 d_Mod_place_141 (hA) rfl) rfl ?_
      refine EvF.gop 145 (go_iload_n d_Mod_place_144 rfl 1 rfl) rfl ?_
      refine EvF.gop 146 (go_iald (j := i) d_Mod_place_145 (m40) (rfl) (by omega) (by omega)) rfl ?_
      refine EvF.gop 147 (go_iconst (v := 3) d_Mod_place_146 (by decide)) rfl ?_
      by_cases c8 : (f40 i) < 3
      · have c8x : ¬ 3 ≤ (f40 i) := Int32.not_le.mpr c8
        refine EvF.gop 152 (go_icmp_lt_t 152 d_Mod_place_147 (by decide) (c8)) rfl ?_
        refine EvF.gop 154 (go_iload d_Mod_place_152 5 rfl) rfl ?_
        by_cases c9 : (f43 i) ≤ 0
        · have c9x : ¬ 0 < (f43 i) := Int32.not_lt.mpr c9
          refine EvF.gop 166 (go_if_le_t 166 d_Mod_place_154 (by decide) (c9)) rfl ?_
          refine EvF.gop 167 (go_aload_n d_Mod_place_166 rfl 0 rfl) rfl ?_
          refine EvF.gop 170 (go_get f_Mod_108 d_Mod_place_167 (hA) rfl) rfl ?_
          refine EvF.gop 171 (go_iload_n d_Mod_place_170 rfl 1 rfl) rfl ?_
          refine EvF.gop 172 (go_iald (j := i) d_Mod_place_171 (m46) (rfl) (by omega) (by omega)) rfl ?_
          refine EvF.go (go_v (y := (if 0 < f43 i then f45 i else f46 i)) ((if_neg (by assumption)).symm)) ?_
          have hgv : ¬ (if 0 < f43 i then f45 i else f46 i) = 0 := hz (by assumption) (by rintro ⟨q1, q2⟩; first | exact absurd q1 (by assumption) | exact absurd q2 (by assumption))
          generalize hgg : (if 0 < f43 i then f45 i else f46 i) = gv at *
          refine EvF.gop 174 (go_istore [(6, .int gv), (0, .ref A), (1, .int (nI i)), (2, .int (nI k)), (3, .int T.1), (4, .int T.2), (5, .int (f43 i))] d_Mod_place_172 (by decide) rfl) rfl ?_
          refine EvF.go (go_pick [1, 2, 3, 4, 5, 6, 0] [(0, .ref A), (1, .int (nI i)), (2, .int (nI k)), (3, .int T.1), (4, .int T.2), (5, .int (f43 i)), (6, .int gv)] rfl) ?_
          refine EvF.gop 176 (go_iload d_Mod_place_174 5 rfl) rfl ?_
          refine EvF.gop 178 (go_iload d_Mod_place_176 4 rfl) rfl ?_
          refine EvF.gop 179 (go_imul d_Mod_place_178) rfl ?_
          refine EvF.gop 181 (go_istore [(7, .int ((f43 i) * T.2)), (0, .ref A), (1, .int (nI i)), (2, .int (nI k)), (3, .int T.1), (4, .int T.2), (5, .int (f43 i)), (6, .int gv)] d_Mod_place_179 (by decide) rfl) rfl ?_
          refine EvF.go (go_pick [1, 2, 3, 4, 5, 6, 7, 0] [(0, .ref A), (1, .int (nI i)), (2, .int (nI k)), (3, .int T.1), (4, .int T.2), (5, .int (f43 i)), (6, .int gv), (7, .int ((f43 i) * T.2))] rfl) ?_
          refine EvF.gop 183 (go_iload d_Mod_place_181 7 rfl) rfl ?_
          refine EvF.gop 185 (go_iload d_Mod_place_183 6 rfl) rfl ?_
          refine EvF.gop 186 (go_idiv d_Mod_place_185 (hgv)) rfl ?_
          refine EvF.gop 188 (go_istore [(8, .int (((f43 i) * T.2) / gv)), (0, .ref A), (1, .int (nI i)), (2, .int (nI k)), (3, .int T.1), (4, .int T.2), (5, .int (f43 i)), (6, .int gv), (7, .int ((f43 i) * T.2))] d_Mod_place_186 (by decide) rfl) rfl ?_
          refine EvF.go (go_pick [1, 2, 3, 4, 5, 6, 7, 8, 0] [(0, .ref A), (1, .int (nI i)), (2, .int (nI k)), (3, .int T.1), (4, .int T.2), (5, .int (f43 i)), (6, .int gv), (7, .int ((f43 i) * T.2)), (8, .int (((f43 i) * T.2) / gv))] rfl) ?_
          refine EvF.gop 190 (go_iload d_Mod_place_188 7 rfl) rfl ?_
          by_cases c10 : 0 ≤ ((f43 i) * T.2)
          · have c10x : ¬ ((f43 i) * T.2) < 0 := Int32.not_lt.mpr c10
            refine EvF.gop 210 (go_if_ge_t 210 d_Mod_place_190 (by decide) (c10)) rfl ?_
            refine EvF.gop 211 (go_iload_n d_Mod_place_210 rfl 3 rfl) rfl ?_
            refine EvF.gop 213 (go_iload d_Mod_place_211 8 rfl) rfl ?_
            refine EvF.gop 214 (go_iadd d_Mod_place_213) rfl ?_
            have eP : pmI (f40 i) (f43 i) (f45 i) (f46 i) T = T.1 + (((f43 i) * T.2) / gv) := by unfold pmI; rw [hgg]; first | exact (if_neg (by assumption)).trans ((if_neg (by rintro ⟨q1, q2⟩; first | exact absurd q1 (by assumption) | exact absurd q2 (by assumption))).trans ((if_pos (by assumption)).trans (if_neg (by assumption)))) | exact (if_neg (by assumption)).trans ((if_neg (by rintro ⟨q1, q2⟩; first | exact absurd q1 (by assumption) | exact absurd q2 (by assumption))).trans ((if_pos (by assumption)).trans (if_pos (by assumption)))) | exact (if_neg (by assumption)).trans ((if_neg (by rintro ⟨q1, q2⟩; first | exact absurd q1 (by assumption) | exact absurd q2 (by assumption))).trans (if_neg (by assumption)))
            rw [eP]
            exact EvF.ri d_Mod_place_214 rfl (rfl) (rfl)
          · have c10x : ((f43 i) * T.2) < 0 := Int32.not_le.mp c10
            refine EvF.gop 193 (go_if_ge_f 210 d_Mod_place_190 (by decide) (c10)) rfl ?_
            refine EvF.gop 195 (go_iload d_Mod_place_193 7 rfl) rfl ?_
            refine EvF.gop 197 (go_iload d_Mod_place_195 6 rfl) rfl ?_
            refine EvF.gop 198 (go_irem d_Mod_place_197 (hgv)) rfl ?_
            by_cases c11 : (((f43 i) * T.2) - ((f43 i) * T.2) / gv * gv) = 0
            · refine EvF.gop 210 (go_if_eq_t 210 d_Mod_place_198 (by decide) (c11)) rfl ?_
              refine EvF.gop 211 (go_iload_n d_Mod_place_210 rfl 3 rfl) rfl ?_
              refine EvF.gop 213 (go_iload d_Mod_place_211 8 rfl) rfl ?_
              refine EvF.gop 214 (go_iadd d_Mod_place_213) rfl ?_
              have eP : pmI (f40 i) (f43 i) (f45 i) (f46 i) T = T.1 + (((f43 i) * T.2) / gv) := by unfold pmI; rw [hgg]; first | exact (if_neg (by assumption)).trans ((if_neg (by rintro ⟨q1, q2⟩; first | exact absurd q1 (by assumption) | exact absurd q2 (by assumption))).trans ((if_pos (by assumption)).trans (if_neg (by assumption)))) | exact (if_neg (by assumption)).trans ((if_neg (by rintro ⟨q1, q2⟩; first | exact absurd q1 (by assumption) | exact absurd q2 (by assumption))).trans ((if_pos (by assumption)).trans (if_pos (by assumption)))) | exact (if_neg (by assumption)).trans ((if_neg (by rintro ⟨q1, q2⟩; first | exact absurd q1 (by assumption) | exact absurd q2 (by assumption))).trans (if_neg (by assumption)))
              rw [eP]
              exact EvF.ri d_Mod_place_214 rfl (rfl) (rfl)
            · refine EvF.gop 201 (go_if_eq_f 210 d_Mod_place_198 (by decide) (c11)) rfl ?_
              refine EvF.gop 202 (go_iload_n d_Mod_place_201 rfl 3 rfl) rfl ?_
              refine EvF.gop 204 (go_iload d_Mod_place_202 8 rfl) rfl ?_
              refine EvF.gop 205 (go_iadd d_Mod_place_204) rfl ?_
              refine EvF.gop 206 (go_iconst (v := 1) d_Mod_place_205 (by decide)) rfl ?_
              refine EvF.gop 207 (go_isub d_Mod_place_206) rfl ?_
              refine EvF.gop 214 (go_goto 214 d_Mod_place_207 (by decide)) rfl ?_
              have eP : pmI (f40 i) (f43 i) (f45 i) (f46 i) T = (T.1 + (((f43 i) * T.2) / gv)) - 1 := by unfold pmI; rw [hgg]; first | exact (if_neg (by assumption)).trans ((if_neg (by rintro ⟨q1, q2⟩; first | exact absurd q1 (by assumption) | exact absurd q2 (by assumption))).trans ((if_pos (by assumption)).trans (if_neg (by assumption)))) | exact (if_neg (by assumption)).trans ((if_neg (by rintro ⟨q1, q2⟩; first | exact absurd q1 (by assumption) | exact absurd q2 (by assumption))).trans ((if_pos (by assumption)).trans (if_pos (by assumption)))) | exact (if_neg (by assumption)).trans ((if_neg (by rintro ⟨q1, q2⟩; first | exact absurd q1 (by assumption) | exact absurd q2 (by assumption))).trans (if_neg (by assumption)))
              rw [eP]
              exact EvF.ri d_Mod_place_214 rfl (rfl) (rfl)
        · have c9x : 0 < (f43 i) := Int32.not_le.mp c9
          refine EvF.gop 157 (go_if_le_f 166 d_Mod_place_154 (by decide) (c9)) rfl ?_
          refine EvF.gop 158 (go_aload_n d_Mod_place_157 rfl 0 rfl) rfl ?_
          refine EvF.gop 161 (go_get f_Mod_105 d_Mod_place_158 (hA) rfl) rfl ?_
          refine EvF.gop 162 (go_iload_n d_Mod_place_161 rfl 1 rfl) rfl ?_
          refine EvF.gop 163 (go_iald (j := i) d_Mod_place_162 (m45) (rfl) (by omega) (by omega)) rfl ?_
          refine EvF.gop 172 (go_goto 172 d_Mod_place_163 (by decide)) rfl ?_
          refine EvF.go (go_v (y := (if 0 < f43 i then f45 i else f46 i)) ((if_pos (by assumption)).symm)) ?_
          have hgv : ¬ (if 0 < f43 i then f45 i else f46 i) = 0 := hz (by assumption) (by rintro ⟨q1, q2⟩; first | exact absurd q1 (by assumption) | exact absurd q2 (by assumption))
          generalize hgg : (if 0 < f43 i then f45 i else f46 i) = gv at *
          refine EvF.gop 174 (go_istore [(6, .int gv), (0, .ref A), (1, .int (nI i)), (2, .int (nI k)), (3, .int T.1), (4, .int T.2), (5, .int (f43 i))] d_Mod_place_172 (by decide) rfl) rfl ?_
          refine EvF.go (go_pick [1, 2, 3, 4, 5, 6, 0] [(0, .ref A), (1, .int (nI i)), (2, .int (nI k)), (3, .int T.1), (4, .int T.2), (5, .int (f43 i)), (6, .int gv)] rfl) ?_
          refine EvF.gop 176 (go_iload d_Mod_place_174 5 rfl) rfl ?_
          refine EvF.gop 178 (go_iload d_Mod_place_176 4 rfl) rfl ?_
          refine EvF.gop 179 (go_imul d_Mod_place_178) rfl ?_
          refine EvF.gop 181 (go_istore [(7, .int ((f43 i) * T.2)), (0, .ref A), (1, .int (nI i)), (2, .int (nI k)), (3, .int T.1), (4, .int T.2), (5, .int (f43 i)), (6, .int gv)] d_Mod_place_179 (by decide) rfl) rfl ?_
          refine EvF.go (go_pick [1, 2, 3, 4, 5, 6, 7, 0] [(0, .ref A), (1, .int (nI i)), (2, .int (nI k)), (3, .int T.1), (4, .int T.2), (5, .int (f43 i)), (6, .int gv), (7, .int ((f43 i) * T.2))] rfl) ?_
          refine EvF.gop 183 (go_iload d_Mod_place_181 7 rfl) rfl ?_
          refine EvF.gop 185 (go_iload d_Mod_place_183 6 rfl) rfl ?_
          refine EvF.gop 186 (go_idiv d_Mod_place_185 (hgv)) rfl ?_
          refine EvF.gop 188 (go_istore [(8, .int (((f43 i) * T.2) / gv)), (0, .ref A), (1, .int (nI i)), (2, .int (nI k)), (3, .int T.1), (4, .int T.2), (5, .int (f43 i)), (6, .int gv), (7, .int ((f43 i) * T.2))] d_Mod_place_186 (by decide) rfl) rfl ?_
          refine EvF.go (go_pick [1, 2, 3, 4, 5, 6, 7, 8, 0] [(0, .ref A), (1, .int (nI i)), (2, .int (nI k)), (3, .int T.1), (4, .int T.2), (5, .int (f43 i)), (6, .int gv), (7, .int ((f43 i) * T.2)), (8, .int (((f43 i) * T.2) / gv))] rfl) ?_
          refine EvF.gop 190 (go_iload d_Mod_place_188 7 rfl) rfl ?_
          by_cases c12 : 0 ≤ ((f43 i) * T.2)
          · have c12x : ¬ ((f43 i) * T.2) < 0 := Int32.not_lt.mpr c12
            refine EvF.gop 210 (go_if_ge_t 210 d_Mod_place_190 (by decide) (c12)) rfl ?_
            refine EvF.gop 211 (go_iload_n d_Mod_place_210 rfl 3 rfl) rfl ?_
            refine EvF.gop 213 (go_iload d_Mod_place_211 8 rfl) rfl ?_
            refine EvF.gop 214 (go_iadd d_Mod_place_213) rfl ?_
            have eP : pmI (f40 i) (f43 i) (f45 i) (f46 i) T = T.1 + (((f43 i) * T.2) / gv) := by unfold pmI; rw [hgg]; first | exact (if_neg (by assumption)).trans ((if_neg (by rintro ⟨q1, q2⟩; first | exact absurd q1 (by assumption) | exact absurd q2 (by assumption))).trans ((if_pos (by assumption)).trans (if_neg (by assumption)))) | exact (if_neg (by assumption)).trans ((if_neg (by rintro ⟨q1, q2⟩; first | exact absurd q1 (by assumption) | exact absurd q2 (by assumption))).trans ((if_pos (by assumption)).trans (if_pos (by assumption)))) | exact (if_neg (by assumption)).trans ((if_neg (by rintro ⟨q1, q2⟩; first | exact absurd q1 (by assumption) | exact absurd q2 (by assumption))).trans (if_neg (by assumption)))
            rw [eP]
            exact EvF.ri d_Mod_place_214 rfl (rfl) (rfl)
          · have c12x : ((f43 i) * T.2) < 0 := Int32.not_le.mp c12
            refine EvF.gop 193 (go_if_ge_f 210 d_Mod_place_190 (by decide) (c12)) rfl ?_
            refine EvF.gop 195 (go_iload d_Mod_place_193 7 rfl) rfl ?_
            refine EvF.gop 197 (go_iload d_Mod_place_195 6 rfl) rfl ?_
            refine EvF.gop 198 (go_irem d_Mod_place_197 (hgv)) rfl ?_
            by_cases c13 : (((f43 i) * T.2) - ((f43 i) * T.2) / gv * gv) = 0
            · refine EvF.gop 210 (go_if_eq_t 210 d_Mod_place_198 (by decide) (c13)) rfl ?_
              refine EvF.gop 211 (go_iload_n d_Mod_place_210 rfl 3 rfl) rfl ?_
              refine EvF.gop 213 (go_iload d_Mod_place_211 8 rfl) rfl ?_
              refine EvF.gop 214 (go_iadd d_Mod_place_213) rfl ?_
              have eP : pmI (f40 i) (f43 i) (f45 i) (f46 i) T = T.1 + (((f43 i) * T.2) / gv) := by unfold pmI; rw [hgg]; first | exact (if_neg (by assumption)).trans ((if_neg (by rintro ⟨q1, q2⟩; first | exact absurd q1 (by assumption) | exact absurd q2 (by assumption))).trans ((if_pos (by assumption)).trans (if_neg (by assumption)))) | exact (if_neg (by assumption)).trans ((if_neg (by rintro ⟨q1, q2⟩; first | exact absurd q1 (by assumption) | exact absurd q2 (by assumption))).trans ((if_pos (by assumption)).trans (if_pos (by assumption)))) | exact (if_neg (by assumption)).trans ((if_neg (by rintro ⟨q1, q2⟩; first | exact absurd q1 (by assumption) | exact absurd q2 (by assumption))).trans (if_neg (by assumption)))
              rw [eP]
              exact EvF.ri d_Mod_place_214 rfl (rfl) (rfl)
            · refine EvF.gop 201 (go_if_eq_f 210 d_Mod_place_198 (by decide) (c13)) rfl ?_
              refine EvF.gop 202 (go_iload_n d_Mod_place_201 rfl 3 rfl) rfl ?_
              refine EvF.gop 204 (go_iload d_Mod_place_202 8 rfl) rfl ?_
              refine EvF.gop 205 (go_iadd d_Mod_place_204) rfl ?_
              refine EvF.gop 206 (go_iconst (v := 1) d_Mod_place_205 (by decide)) rfl ?_
              refine EvF.gop 207 (go_isub d_Mod_place_206) rfl ?_
              refine EvF.gop 214 (go_goto 214 d_Mod_place_207 (by decide)) rfl ?_
              have eP : pmI (f40 i) (f43 i) (f45 i) (f46 i) T = (T.1 + (((f43 i) * T.2) / gv)) - 1 := by unfold pmI; rw [hgg]; first | exact (if_neg (by assumption)).trans ((if_neg (by rintro ⟨q1, q2⟩; first | exact absurd q1 (by assumption) | exact absurd q2 (by assumption))).trans ((if_pos (by assumption)).trans (if_neg (by assumption)))) | exact (if_neg (by assumption)).trans ((if_neg (by rintro ⟨q1, q2⟩; first | exact absurd q1 (by assumption) | exact absurd q2 (by assumption))).trans ((if_pos (by assumption)).trans (if_pos (by assumption)))) | exact (if_neg (by assumption)).trans ((if_neg (by rintro ⟨q1, q2⟩; first | exact absurd q1 (by assumption) | exact absurd q2 (by assumption))).trans (if_neg (by assumption)))
              rw [eP]
              exact EvF.ri d_Mod_place_214 rfl (rfl) (rfl)
      · have c8x : 3 ≤ (f40 i) := Int32.not_lt.mp c8
        refine EvF.gop 150 (go_icmp_lt_f 152 d_Mod_place_147 (by decide) (c8)) rfl ?_
        refine EvF.gop 151 (go_iload_n d_Mod_place_150 rfl 3 rfl) rfl ?_
        have eP : pmI (f40 i) (f43 i) (f45 i) (f46 i) T = T.1 := by unfold pmI; first | exact if_pos (by assumption) | exact (if_neg (by assumption)).trans (if_pos (And.intro (by assumption) (by assumption)))
        rw [eP]
        exact EvF.ri d_Mod_place_151 rfl (rfl) (rfl)
