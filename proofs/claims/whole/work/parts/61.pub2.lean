/-- the cells of a setting that begins at b -/
def sA (b k : Nat) : Nat := b + ([0, 1, 4, 8, 14, 15, 5, 6, 7, 9, 10, 11, 12, 13] : List Nat).getD k 0
theorem lenN_le2 (K : Nat → Int32) (x1 e g : Nat) : lenN K x1 e g ≤ e - g + 1 := by unfold lenN; split <;> omega
theorem e_PS_cost (G : gG) (M : gM) (p lb db : Nat) (ln : Int32) (dw cl : Int32) (tt : Int64) (bn : Int32) (K E B W ST SH L DD PP X : Nat → Int32) (h0 : gRd M p = some (.inr (10, [.ref (p + 1), .ref (p + 3), .ref (p + 4), .ref (p + 5), .ref (p + 23), .ref (p + 86), .ref lb, .ref db]))) (hq : StgAt G M (sA lb) dw cl ln tt bn K E B W ST SH L DD PP X) : Ev G 0 m_PS_cost [.ref p] M (some (.long tt)) M := by
  have q0 : gRd M lb = some (.inr (8, [.ref (lb + 1), .ref (lb + 4), .ref (lb + 8), .ref (lb + 14), .int dw, .int cl, .ref (lb + 15), .int ln, .long tt])) := hq.1
  have q2 : gRd M (lb + 4) = some (.inr (6, [.ref (lb + 5), .ref (lb + 6), .ref (lb + 7), .int bn])) := hq.2.1
  have q5 : gRd M (lb + 5) = some (aI G 25 K) := hq.2.2.1
  have q15 : gRd M (lb + 15) = some (aI G 25 X) := hq.2.2.2.2.2.2.2.2.2.2.2.2
  refine Ev.of (Nat.le_of_ble_eq_true rfl) ?_
  show EvF G 0 m_PS_cost (0, [(0, .ref p)], [], M) _ _
  refine EvF.gop 1 (go_aload_n d_PS_cost_0 rfl 0 rfl) rfl ?_
  refine EvF.gop 4 (go_get f_PS_52 d_PS_cost_1 (h0) rfl) rfl ?_
  refine EvF.gop 7 (go_get f_PS_151 d_PS_cost_4 (q0) rfl) rfl ?_
  exact EvF.rl d_PS_cost_7 rfl (rfl) (rfl)
theorem e_PS_count0 (G : gG) (M : gM) (p lb db : Nat) (ln : Int32) (dw cl : Int32) (tt : Int64) (bn : Int32) (K E B W ST SH L DD PP X : Nat → Int32) (tn np n n9 : Nat) (lc : Nat → Int32) (h0 : gRd M p = some (.inr (10, [.ref (p + 1), .ref (p + 3), .ref (p + 4), .ref (p + 5), .ref (p + 23), .ref (p + 86), .ref lb, .ref db]))) (t1 : gRd M (lb + 1) = some (.inr (3, [.ref (lb + 2), .ref (lb + 3), .int (nI tn)]))) (y1 : gRd M (p + 23) = some (.inr (5, [.ref (p + 24), .int (nI np), .ref (p + 25)]))) (h1 : gRd M (p + 1) = some (.inr (0, [.ref (p + 2), .int (nI n)]))) (hq : StgAt G M (sA lb) dw cl ln tt bn K E B W ST SH L DD PP X) (hb9 : bn = nI n9) (hn9 : n9 ≤ 24) : Ev G 1 m_PS_count [.ref p, .int 0] M (some (.int (ln))) M := by
  have q0 : gRd M lb = some (.inr (8, [.ref (lb + 1), .ref (lb + 4), .ref (lb + 8), .ref (lb + 14), .int dw, .int cl, .ref (lb + 15), .int ln, .long tt])) := hq.1
  have q2 : gRd M (lb + 4) = some (.inr (6, [.ref (lb + 5), .ref (lb + 6), .ref (lb + 7), .int bn])) := hq.2.1
  have q5 : gRd M (lb + 5) = some (aI G 25 K) := hq.2.2.1
  have q15 : gRd M (lb + 15) = some (aI G 25 X) := hq.2.2.2.2.2.2.2.2.2.2.2.2
  refine Ev.of (Nat.le_of_ble_eq_true rfl) ?_
  show EvF G 1 m_PS_count (0, [(0, .ref p), (1, .int 0)], [], M) _ _
  refine EvF.gop 1 (go_iload_n d_PS_count_0 rfl 1 rfl) rfl ?_
  refine EvF.gop 44 (go_tableIn (x := 0) (off := 43) 44 d_PS_count_1 (by decide) (by decide) (by decide) (by decide)) rfl ?_
  refine EvF.gop 45 (go_aload_n d_PS_count_44 rfl 0 rfl) rfl ?_
  refine EvF.gop 48 (go_get f_PS_52 d_PS_count_45 (h0) rfl) rfl ?_
  refine EvF.gop 51 (go_get f_PS_148 d_PS_count_48 (q0) rfl) rfl ?_
  exact EvF.ri d_PS_count_51 rfl (rfl) (rfl)
theorem e_PS_count1 (G : gG) (M : gM) (p lb db : Nat) (ln : Int32) (dw cl : Int32) (tt : Int64) (bn : Int32) (K E B W ST SH L DD PP X : Nat → Int32) (tn np n n9 : Nat) (lc : Nat → Int32) (h0 : gRd M p = some (.inr (10, [.ref (p + 1), .ref (p + 3), .ref (p + 4), .ref (p + 5), .ref (p + 23), .ref (p + 86), .ref lb, .ref db]))) (t1 : gRd M (lb + 1) = some (.inr (3, [.ref (lb + 2), .ref (lb + 3), .int (nI tn)]))) (y1 : gRd M (p + 23) = some (.inr (5, [.ref (p + 24), .int (nI np), .ref (p + 25)]))) (h1 : gRd M (p + 1) = some (.inr (0, [.ref (p + 2), .int (nI n)]))) (hq : StgAt G M (sA lb) dw cl ln tt bn K E B W ST SH L DD PP X) (hb9 : bn = nI n9) (hn9 : n9 ≤ 24) : Ev G 1 m_PS_count [.ref p, .int 1] M (some (.int (nI tn))) M := by
  have q0 : gRd M lb = some (.inr (8, [.ref (lb + 1), .ref (lb + 4), .ref (lb + 8), .ref (lb + 14), .int dw, .int cl, .ref (lb + 15), .int ln, .long tt])) := hq.1
  have q2 : gRd M (lb + 4) = some (.inr (6, [.ref (lb + 5), .ref (lb + 6), .ref (lb + 7), .int bn])) := hq.2.1
  have q5 : gRd M (lb + 5) = some (aI G 25 K) := hq.2.2.1
  have q15 : gRd M (lb + 15) = some (aI G 25 X) := hq.2.2.2.2.2.2.2.2.2.2.2.2
  refine Ev.of (Nat.le_of_ble_eq_true rfl) ?_
  show EvF G 1 m_PS_count (0, [(0, .ref p), (1, .int 1)], [], M) _ _
  refine EvF.gop 1 (go_iload_n d_PS_count_0 rfl 1 rfl) rfl ?_
  refine EvF.gop 52 (go_tableIn (x := 1) (off := 51) 52 d_PS_count_1 (by decide) (by decide) (by decide) (by decide)) rfl ?_
  refine EvF.gop 53 (go_aload_n d_PS_count_52 rfl 0 rfl) rfl ?_
  refine EvF.gop 56 (go_get f_PS_52 d_PS_count_53 (h0) rfl) rfl ?_
  refine EvF.gop 59 (go_get f_PS_106 d_PS_count_56 (q0) rfl) rfl ?_
  refine EvF.gop 62 (go_get f_PS_187 d_PS_count_59 (t1) rfl) rfl ?_
  exact EvF.ri d_PS_count_62 rfl (rfl) (rfl)
theorem e_PS_count2 (G : gG) (M : gM) (p lb db : Nat) (ln : Int32) (dw cl : Int32) (tt : Int64) (bn : Int32) (K E B W ST SH L DD PP X : Nat → Int32) (tn np n n9 : Nat) (lc : Nat → Int32) (h0 : gRd M p = some (.inr (10, [.ref (p + 1), .ref (p + 3), .ref (p + 4), .ref (p + 5), .ref (p + 23), .ref (p + 86), .ref lb, .ref db]))) (t1 : gRd M (lb + 1) = some (.inr (3, [.ref (lb + 2), .ref (lb + 3), .int (nI tn)]))) (y1 : gRd M (p + 23) = some (.inr (5, [.ref (p + 24), .int (nI np), .ref (p + 25)]))) (h1 : gRd M (p + 1) = some (.inr (0, [.ref (p + 2), .int (nI n)]))) (hq : StgAt G M (sA lb) dw cl ln tt bn K E B W ST SH L DD PP X) (hb9 : bn = nI n9) (hn9 : n9 ≤ 24) : Ev G 1 m_PS_count [.ref p, .int 2] M (some (.int (bn))) M := by
  have q0 : gRd M lb = some (.inr (8, [.ref (lb + 1), .ref (lb + 4), .ref (lb + 8), .ref (lb + 14), .int dw, .int cl, .ref (lb + 15), .int ln, .long tt])) := hq.1
  have q2 : gRd M (lb + 4) = some (.inr (6, [.ref (lb + 5), .ref (lb + 6), .ref (lb + 7), .int bn])) := hq.2.1
  have q5 : gRd M (lb + 5) = some (aI G 25 K) := hq.2.2.1
  have q15 : gRd M (lb + 15) = some (aI G 25 X) := hq.2.2.2.2.2.2.2.2.2.2.2.2
  refine Ev.of (Nat.le_of_ble_eq_true rfl) ?_
  show EvF G 1 m_PS_count (0, [(0, .ref p), (1, .int 2)], [], M) _ _
  refine EvF.gop 1 (go_iload_n d_PS_count_0 rfl 1 rfl) rfl ?_
  refine EvF.gop 63 (go_tableIn (x := 2) (off := 62) 63 d_PS_count_1 (by decide) (by decide) (by decide) (by decide)) rfl ?_
  refine EvF.gop 64 (go_aload_n d_PS_count_63 rfl 0 rfl) rfl ?_
  refine EvF.gop 67 (go_get f_PS_52 d_PS_count_64 (h0) rfl) rfl ?_
  refine EvF.gop 70 (go_get f_PS_127 d_PS_count_67 (q0) rfl) rfl ?_
  refine EvF.gop 73 (go_get f_PS_188 d_PS_count_70 (q2) rfl) rfl ?_
  exact EvF.ri d_PS_count_73 rfl (rfl) (rfl)
theorem e_PS_count3 (G : gG) (M : gM) (p lb db : Nat) (ln : Int32) (dw cl : Int32) (tt : Int64) (bn : Int32) (K E B W ST SH L DD PP X : Nat → Int32) (tn np n n9 : Nat) (lc : Nat → Int32) (h0 : gRd M p = some (.inr (10, [.ref (p + 1), .ref (p + 3), .ref (p + 4), .ref (p + 5), .ref (p + 23), .ref (p + 86), .ref lb, .ref db]))) (t1 : gRd M (lb + 1) = some (.inr (3, [.ref (lb + 2), .ref (lb + 3), .int (nI tn)]))) (y1 : gRd M (p + 23) = some (.inr (5, [.ref (p + 24), .int (nI np), .ref (p + 25)]))) (h1 : gRd M (p + 1) = some (.inr (0, [.ref (p + 2), .int (nI n)]))) (hq : StgAt G M (sA lb) dw cl ln tt bn K E B W ST SH L DD PP X) (hb9 : bn = nI n9) (hn9 : n9 ≤ 24) : Ev G 1 m_PS_count [.ref p, .int 3] M (some (.int (nI (cnt2 K n9)))) M := by
  have q0 : gRd M lb = some (.inr (8, [.ref (lb + 1), .ref (lb + 4), .ref (lb + 8), .ref (lb + 14), .int dw, .int cl, .ref (lb + 15), .int ln, .long tt])) := hq.1
  have q2 : gRd M (lb + 4) = some (.inr (6, [.ref (lb + 5), .ref (lb + 6), .ref (lb + 7), .int bn])) := hq.2.1
  have q5 : gRd M (lb + 5) = some (aI G 25 K) := hq.2.2.1
  have q15 : gRd M (lb + 15) = some (aI G 25 X) := hq.2.2.2.2.2.2.2.2.2.2.2.2
  refine Ev.of (Nat.le_of_ble_eq_true rfl) ?_
  show EvF G 1 m_PS_count (0, [(0, .ref p), (1, .int 3)], [], M) _ _
  refine EvF.gop 1 (go_iload_n d_PS_count_0 rfl 1 rfl) rfl ?_
  refine EvF.gop 74 (go_tableIn (x := 3) (off := 73) 74 d_PS_count_1 (by decide) (by decide) (by decide) (by decide)) rfl ?_
  refine EvF.gop 75 (go_aload_n d_PS_count_74 rfl 0 rfl) rfl ?_
  refine EvF.gop 78 (go_get f_PS_52 d_PS_count_75 (h0) rfl) rfl ?_
  refine EvF.gop 81 (go_get f_PS_127 d_PS_count_78 (q0) rfl) rfl ?_
  refine EvF.gop 84 (go_callV [] [.int (nI (cnt2 K n9))] c0_Brk_points im_Brk_points se_Brk_points lk_PS_189 d_PS_count_81 rfl rfl (q2) (e_Brk_points G M (lb + 4) (lb + 5) (lb + 6) (lb + 7) n9 K (hb9 ▸ q2) q5 hn9) (by decide) rfl rfl (Nat.le_of_ble_eq_true rfl) rfl) rfl ?_
  exact EvF.ri d_PS_count_84 rfl (rfl) (rfl)
theorem e_PS_count4 (G : gG) (M : gM) (p lb db : Nat) (ln : Int32) (dw cl : Int32) (tt : Int64) (bn : Int32) (K E B W ST SH L DD PP X : Nat → Int32) (tn np n n9 : Nat) (lc : Nat → Int32) (h0 : gRd M p = some (.inr (10, [.ref (p + 1), .ref (p + 3), .ref (p + 4), .ref (p + 5), .ref (p + 23), .ref (p + 86), .ref lb, .ref db]))) (t1 : gRd M (lb + 1) = some (.inr (3, [.ref (lb + 2), .ref (lb + 3), .int (nI tn)]))) (y1 : gRd M (p + 23) = some (.inr (5, [.ref (p + 24), .int (nI np), .ref (p + 25)]))) (h1 : gRd M (p + 1) = some (.inr (0, [.ref (p + 2), .int (nI n)]))) (hq : StgAt G M (sA lb) dw cl ln tt bn K E B W ST SH L DD PP X) (hb9 : bn = nI n9) (hn9 : n9 ≤ 24) : Ev G 1 m_PS_count [.ref p, .int 4] M (some (.int (cl))) M := by
  have q0 : gRd M lb = some (.inr (8, [.ref (lb + 1), .ref (lb + 4), .ref (lb + 8), .ref (lb + 14), .int dw, .int cl, .ref (lb + 15), .int ln, .long tt])) := hq.1
  have q2 : gRd M (lb + 4) = some (.inr (6, [.ref (lb + 5), .ref (lb + 6), .ref (lb + 7), .int bn])) := hq.2.1
  have q5 : gRd M (lb + 5) = some (aI G 25 K) := hq.2.2.1
  have q15 : gRd M (lb + 15) = some (aI G 25 X) := hq.2.2.2.2.2.2.2.2.2.2.2.2
  refine Ev.of (Nat.le_of_ble_eq_true rfl) ?_
  show EvF G 1 m_PS_count (0, [(0, .ref p), (1, .int 4)], [], M) _ _
  refine EvF.gop 1 (go_iload_n d_PS_count_0 rfl 1 rfl) rfl ?_
  refine EvF.gop 85 (go_tableIn (x := 4) (off := 84) 85 d_PS_count_1 (by decide) (by decide) (by decide) (by decide)) rfl ?_
  refine EvF.gop 86 (go_aload_n d_PS_count_85 rfl 0 rfl) rfl ?_
  refine EvF.gop 89 (go_get f_PS_52 d_PS_count_86 (h0) rfl) rfl ?_
  refine EvF.gop 92 (go_get f_PS_117 d_PS_count_89 (q0) rfl) rfl ?_
  exact EvF.ri d_PS_count_92 rfl (rfl) (rfl)
theorem e_PS_count5 (G : gG) (M : gM) (p lb db : Nat) (ln : Int32) (dw cl : Int32) (tt : Int64) (bn : Int32) (K E B W ST SH L DD PP X : Nat → Int32) (tn np n n9 : Nat) (lc : Nat → Int32) (h0 : gRd M p = some (.inr (10, [.ref (p + 1), .ref (p + 3), .ref (p + 4), .ref (p + 5), .ref (p + 23), .ref (p + 86), .ref lb, .ref db]))) (t1 : gRd M (lb + 1) = some (.inr (3, [.ref (lb + 2), .ref (lb + 3), .int (nI tn)]))) (y1 : gRd M (p + 23) = some (.inr (5, [.ref (p + 24), .int (nI np), .ref (p + 25)]))) (h1 : gRd M (p + 1) = some (.inr (0, [.ref (p + 2), .int (nI n)]))) (hq : StgAt G M (sA lb) dw cl ln tt bn K E B W ST SH L DD PP X) (hb9 : bn = nI n9) (hn9 : n9 ≤ 24) : Ev G 1 m_PS_count [.ref p, .int 5] M (some (.int (nI np))) M := by
  have q0 : gRd M lb = some (.inr (8, [.ref (lb + 1), .ref (lb + 4), .ref (lb + 8), .ref (lb + 14), .int dw, .int cl, .ref (lb + 15), .int ln, .long tt])) := hq.1
  have q2 : gRd M (lb + 4) = some (.inr (6, [.ref (lb + 5), .ref (lb + 6), .ref (lb + 7), .int bn])) := hq.2.1
  have q5 : gRd M (lb + 5) = some (aI G 25 K) := hq.2.2.1
  have q15 : gRd M (lb + 15) = some (aI G 25 X) := hq.2.2.2.2.2.2.2.2.2.2.2.2
  refine Ev.of (Nat.le_of_ble_eq_true rfl) ?_
  show EvF G 1 m_PS_count (0, [(0, .ref p), (1, .int 5)], [], M) _ _
  refine EvF.gop 1 (go_iload_n d_PS_count_0 rfl 1 rfl) rfl ?_
  refine EvF.gop 93 (go_tableIn (x := 5) (off := 92) 93 d_PS_count_1 (by decide) (by decide) (by decide) (by decide)) rfl ?_
  refine EvF.gop 94 (go_aload_n d_PS_count_93 rfl 0 rfl) rfl ?_
  refine EvF.gop 97 (go_get f_PS_38 d_PS_count_94 (h0) rfl) rfl ?_
  refine EvF.gop 100 (go_get f_PS_105 d_PS_count_97 (y1) rfl) rfl ?_
  exact EvF.ri d_PS_count_100 rfl (rfl) (rfl)
theorem e_PS_count6 (G : gG) (M : gM) (p lb db : Nat) (ln : Int32) (dw cl : Int32) (tt : Int64) (bn : Int32) (K E B W ST SH L DD PP X : Nat → Int32) (tn np n n9 : Nat) (lc : Nat → Int32) (h0 : gRd M p = some (.inr (10, [.ref (p + 1), .ref (p + 3), .ref (p + 4), .ref (p + 5), .ref (p + 23), .ref (p + 86), .ref lb, .ref db]))) (t1 : gRd M (lb + 1) = some (.inr (3, [.ref (lb + 2), .ref (lb + 3), .int (nI tn)]))) (y1 : gRd M (p + 23) = some (.inr (5, [.ref (p + 24), .int (nI np), .ref (p + 25)]))) (h1 : gRd M (p + 1) = some (.inr (0, [.ref (p + 2), .int (nI n)]))) (hq : StgAt G M (sA lb) dw cl ln tt bn K E B W ST SH L DD PP X) (hb9 : bn = nI n9) (hn9 : n9 ≤ 24) : Ev G 1 m_PS_count [.ref p, .int 6] M (some (.int (nI n))) M := by
  have q0 : gRd M lb = some (.inr (8, [.ref (lb + 1), .ref (lb + 4), .ref (lb + 8), .ref (lb + 14), .int dw, .int cl, .ref (lb + 15), .int ln, .long tt])) := hq.1
  have q2 : gRd M (lb + 4) = some (.inr (6, [.ref (lb + 5), .ref (lb + 6), .ref (lb + 7), .int bn])) := hq.2.1
  have q5 : gRd M (lb + 5) = some (aI G 25 K) := hq.2.2.1
  have q15 : gRd M (lb + 15) = some (aI G 25 X) := hq.2.2.2.2.2.2.2.2.2.2.2.2
  refine Ev.of (Nat.le_of_ble_eq_true rfl) ?_
  show EvF G 1 m_PS_count (0, [(0, .ref p), (1, .int 6)], [], M) _ _
  refine EvF.gop 1 (go_iload_n d_PS_count_0 rfl 1 rfl) rfl ?_
  refine EvF.gop 101 (go_tableIn (x := 6) (off := 100) 101 d_PS_count_1 (by decide) (by decide) (by decide) (by decide)) rfl ?_
  refine EvF.gop 102 (go_aload_n d_PS_count_101 rfl 0 rfl) rfl ?_
  refine EvF.gop 105 (go_get f_PS_14 d_PS_count_102 (h0) rfl) rfl ?_
  refine EvF.gop 108 (go_get f_PS_70 d_PS_count_105 (h1) rfl) rfl ?_
  exact EvF.ri d_PS_count_108 rfl (rfl) (rfl)
theorem e_PS_countR (G : gG) (M : gM) (p lb db : Nat) (ln : Int32) (dw cl : Int32) (tt : Int64) (bn : Int32) (K E B W ST SH L DD PP X : Nat → Int32) (x : Int32) (h0 : gRd M p = some (.inr (10, [.ref (p + 1), .ref (p + 3), .ref (p + 4), .ref (p + 5), .ref (p + 23), .ref (p + 86), .ref lb, .ref db]))) (hq : StgAt G M (sA lb) dw cl ln tt bn K E B W ST SH L DD PP X) (hx : x.toInt < 0 ∨ 6 < x.toInt) : Ev G 1 m_PS_count [.ref p, .int x] M (some (.int (-1))) M := by
  have q0 : gRd M lb = some (.inr (8, [.ref (lb + 1), .ref (lb + 4), .ref (lb + 8), .ref (lb + 14), .int dw, .int cl, .ref (lb + 15), .int ln, .long tt])) := hq.1
  have q2 : gRd M (lb + 4) = some (.inr (6, [.ref (lb + 5), .ref (lb + 6), .ref (lb + 7), .int bn])) := hq.2.1
  have q5 : gRd M (lb + 5) = some (aI G 25 K) := hq.2.2.1
  have q15 : gRd M (lb + 15) = some (aI G 25 X) := hq.2.2.2.2.2.2.2.2.2.2.2.2
  refine Ev.of (Nat.le_of_ble_eq_true rfl) ?_
  show EvF G 1 m_PS_count (0, [(0, .ref p), (1, .int x)], [], M) _ _
  refine EvF.gop 1 (go_iload_n d_PS_count_0 rfl 1 rfl) rfl ?_
  refine EvF.gop 109 (go_tableOut 109 d_PS_count_1 (by rcases hx with q | q; exact Or.inl (show x.toInt < 0 by omega); exact Or.inr (show 6 < x.toInt by omega)) (by decide)) rfl ?_
  refine EvF.gop 110 (go_iconst (v := (-1)) d_PS_count_109 (by decide)) rfl ?_
  exact EvF.ri d_PS_count_110 rfl (rfl) (rfl)
theorem e_PS_lineR (G : gG) (M : gM) (p lb db : Nat) (ln : Int32) (dw cl : Int32) (tt : Int64) (bn : Int32) (K E B W ST SH L DD PP X : Nat → Int32) (x y : Int32) (h0 : gRd M p = some (.inr (10, [.ref (p + 1), .ref (p + 3), .ref (p + 4), .ref (p + 5), .ref (p + 23), .ref (p + 86), .ref lb, .ref db]))) (hq : StgAt G M (sA lb) dw cl ln tt bn K E B W ST SH L DD PP X) (hx : (decide (0 ≤ x) && decide (x < ln)) = false) : Ev G 4 m_PS_line [.ref p, .int x, .int y] M (some (.int (-1))) M := by
  have q0 : gRd M lb = some (.inr (8, [.ref (lb + 1), .ref (lb + 4), .ref (lb + 8), .ref (lb + 14), .int dw, .int cl, .ref (lb + 15), .int ln, .long tt])) := hq.1
  have q2 : gRd M (lb + 4) = some (.inr (6, [.ref (lb + 5), .ref (lb + 6), .ref (lb + 7), .int bn])) := hq.2.1
  have q5 : gRd M (lb + 5) = some (aI G 25 K) := hq.2.2.1
  have q15 : gRd M (lb + 15) = some (aI G 25 X) := hq.2.2.2.2.2.2.2.2.2.2.2.2
  refine Ev.of (Nat.le_of_ble_eq_true rfl) ?_
  show EvF G 4 m_PS_line (0, [(0, .ref p), (1, .int x), (2, .int y)], [], M) _ _
  refine EvF.gop 1 (go_aload_n d_PS_line_0 rfl 0 rfl) rfl ?_
  refine EvF.gop 4 (go_get f_PS_52 d_PS_line_1 (h0) rfl) rfl ?_
  refine EvF.gop 5 (go_iload_n d_PS_line_4 rfl 1 rfl) rfl ?_
  refine EvF.gop 8 (go_callV [.int x] [.int (bI (decide (0 ≤ x) && decide (x < ln)))] c0_Stg_hasLine im_Stg_hasLine se_Stg_hasLine lk_PS_155 d_PS_line_5 rfl rfl (q0) (e_Stg_hasLine G M (sA lb) dw cl ln tt bn K E B W ST SH L DD PP X x hq) (by decide) rfl rfl (Nat.le_of_ble_eq_true rfl) rfl) rfl ?_
  refine EvF.gop 11 (go_if_ne_f 13 d_PS_line_8 (by decide) (by rw [hx]; rfl)) rfl ?_
  refine EvF.gop 12 (go_iconst (v := (-1)) d_PS_line_11 (by decide)) rfl ?_
  exact EvF.ri d_PS_line_12 rfl (rfl) (rfl)
theorem e_PS_characterR (G : gG) (M : gM) (p lb db : Nat) (ln : Int32) (dw cl : Int32) (tt : Int64) (bn : Int32) (K E B W ST SH L DD PP X : Nat → Int32) (x y : Int32) (h0 : gRd M p = some (.inr (10, [.ref (p + 1), .ref (p + 3), .ref (p + 4), .ref (p + 5), .ref (p + 23), .ref (p + 86), .ref lb, .ref db]))) (hq : StgAt G M (sA lb) dw cl ln tt bn K E B W ST SH L DD PP X) (hx : (decide (0 ≤ x) && decide (x < ln)) = false) : Ev G 4 m_PS_character [.ref p, .int x, .int y] M (some (.int (-1))) M := by
  have q0 : gRd M lb = some (.inr (8, [.ref (lb + 1), .ref (lb + 4), .ref (lb + 8), .ref (lb + 14), .int dw, .int cl, .ref (lb + 15), .int ln, .long tt])) := hq.1
  have q2 : gRd M (lb + 4) = some (.inr (6, [.ref (lb + 5), .ref (lb + 6), .ref (lb + 7), .int bn])) := hq.2.1
  have q5 : gRd M (lb + 5) = some (aI G 25 K) := hq.2.2.1
  have q15 : gRd M (lb + 15) = some (aI G 25 X) := hq.2.2.2.2.2.2.2.2.2.2.2.2
  refine Ev.of (Nat.le_of_ble_eq_true rfl) ?_
  show EvF G 4 m_PS_character (0, [(0, .ref p), (1, .int x), (2, .int y)], [], M) _ _
  refine EvF.gop 1 (go_aload_n d_PS_character_0 rfl 0 rfl) rfl ?_
  refine EvF.gop 4 (go_get f_PS_52 d_PS_character_1 (h0) rfl) rfl ?_
  refine EvF.gop 5 (go_iload_n d_PS_character_4 rfl 1 rfl) rfl ?_
  refine EvF.gop 8 (go_callV [.int x] [.int (bI (decide (0 ≤ x) && decide (x < ln)))] c0_Stg_hasLine im_Stg_hasLine se_Stg_hasLine lk_PS_155 d_PS_character_5 rfl rfl (q0) (e_Stg_hasLine G M (sA lb) dw cl ln tt bn K E B W ST SH L DD PP X x hq) (by decide) rfl rfl (Nat.le_of_ble_eq_true rfl) rfl) rfl ?_
  refine EvF.gop 15 (go_if_eq_t 15 d_PS_character_8 (by decide) (by rw [hx]; rfl)) rfl ?_
  refine EvF.gop 16 (go_iconst (v := (-1)) d_PS_character_15 (by decide)) rfl ?_
  exact EvF.ri d_PS_character_16 rfl (rfl) (rfl)
theorem e_PS_placeR (G : gG) (M : gM) (p lb db : Nat) (ln : Int32) (dw cl : Int32) (tt : Int64) (bn : Int32) (K E B W ST SH L DD PP X : Nat → Int32) (x y : Int32) (h0 : gRd M p = some (.inr (10, [.ref (p + 1), .ref (p + 3), .ref (p + 4), .ref (p + 5), .ref (p + 23), .ref (p + 86), .ref lb, .ref db]))) (hq : StgAt G M (sA lb) dw cl ln tt bn K E B W ST SH L DD PP X) (hx : (decide (0 ≤ x) && decide (x < ln)) = false) : Ev G 4 m_PS_place [.ref p, .int x, .int y] M (some (.int (-1))) M := by
  have q0 : gRd M lb = some (.inr (8, [.ref (lb + 1), .ref (lb + 4), .ref (lb + 8), .ref (lb + 14), .int dw, .int cl, .ref (lb + 15), .int ln, .long tt])) := hq.1
  have q2 : gRd M (lb + 4) = some (.inr (6, [.ref (lb + 5), .ref (lb + 6), .ref (lb + 7), .int bn])) := hq.2.1
  have q5 : gRd M (lb + 5) = some (aI G 25 K) := hq.2.2.1
  have q15 : gRd M (lb + 15) = some (aI G 25 X) := hq.2.2.2.2.2.2.2.2.2.2.2.2
  refine Ev.of (Nat.le_of_ble_eq_true rfl) ?_
  show EvF G 4 m_PS_place (0, [(0, .ref p), (1, .int x), (2, .int y)], [], M) _ _
  refine EvF.gop 1 (go_aload_n d_PS_place_0 rfl 0 rfl) rfl ?_
  refine EvF.gop 4 (go_get f_PS_52 d_PS_place_1 (h0) rfl) rfl ?_
  refine EvF.gop 5 (go_iload_n d_PS_place_4 rfl 1 rfl) rfl ?_
  refine EvF.gop 8 (go_callV [.int x] [.int (bI (decide (0 ≤ x) && decide (x < ln)))] c0_Stg_hasLine im_Stg_hasLine se_Stg_hasLine lk_PS_155 d_PS_place_5 rfl rfl (q0) (e_Stg_hasLine G M (sA lb) dw cl ln tt bn K E B W ST SH L DD PP X x hq) (by decide) rfl rfl (Nat.le_of_ble_eq_true rfl) rfl) rfl ?_
  refine EvF.gop 27 (go_if_eq_t 27 d_PS_place_8 (by decide) (by rw [hx]; rfl)) rfl ?_
  refine EvF.gop 28 (go_iconst (v := (-1)) d_PS_place_27 (by decide)) rfl ?_
  exact EvF.ri d_PS_place_28 rfl (rfl) (rfl)
theorem e_PS_line0 (G : gG) (M : gM) (p lb db : Nat) (l9 : Nat) (dw cl : Int32) (tt : Int64) (bn : Int32) (K E B W ST SH L DD PP X : Nat → Int32) (i x0 x1 e g : Nat) (h0 : gRd M p = some (.inr (10, [.ref (p + 1), .ref (p + 3), .ref (p + 4), .ref (p + 5), .ref (p + 23), .ref (p + 86), .ref lb, .ref db]))) (hq : StgAt G M (sA lb) dw cl (nI l9) tt bn K E B W ST SH L DD PP X) (hi : i < l9) (hl9 : l9 ≤ 24) (hX0 : X i = nI x0) (hX1 : X (i + 1) = nI x1) (k0 : x0 < 25) (k1 : x1 < 25) (hE : E x1 = nI e) (hB : B x0 = nI g) (he : e < 121) (hg : g < 121) (hz : ∀ x : Int32, (x = ST e - ST g ∨ x = SH e - SH g) → ¬ x = 0 → ¬ x.toInt64 * x.toInt64 * x.toInt64 = 0) : Ev G 4 m_PS_line [.ref p, .int (nI i), .int 0] M (some (.int (nI x1))) M := by
  have q0 : gRd M lb = some (.inr (8, [.ref (lb + 1), .ref (lb + 4), .ref (lb + 8), .ref (lb + 14), .int dw, .int cl, .ref (lb + 15), .int (nI l9), .long tt])) := hq.1
  have q2 : gRd M (lb + 4) = some (.inr (6, [.ref (lb + 5), .ref (lb + 6), .ref (lb + 7), .int bn])) := hq.2.1
  have q5 : gRd M (lb + 5) = some (aI G 25 K) := hq.2.2.1
  have q15 : gRd M (lb + 15) = some (aI G 25 X) := hq.2.2.2.2.2.2.2.2.2.2.2.2
  refine Ev.of (Nat.le_of_ble_eq_true rfl) ?_
  show EvF G 4 m_PS_line (0, [(0, .ref p), (1, .int (nI i)), (2, .int 0)], [], M) _ _
  refine EvF.gop 1 (go_aload_n d_PS_line_0 rfl 0 rfl) rfl ?_
  refine EvF.gop 4 (go_get f_PS_52 d_PS_line_1 (h0) rfl) rfl ?_
  refine EvF.gop 5 (go_iload_n d_PS_line_4 rfl 1 rfl) rfl ?_
  refine EvF.gop 8 (go_callV [.int (nI i)] [.int (bI (decide (0 ≤ nI i) && decide (nI i < nI l9)))] c0_Stg_hasLine im_Stg_hasLine se_Stg_hasLine lk_PS_155 d_PS_line_5 rfl rfl (q0) (e_Stg_hasLine G M (sA lb) dw cl (nI l9) tt bn K E B W ST SH L DD PP X (nI i) hq) (by decide) rfl rfl (Nat.le_of_ble_eq_true rfl) rfl) rfl ?_
  refine EvF.gop 13 (go_if_ne_t 13 d_PS_line_8 (by decide) (by rw [show (decide (0 ≤ nI i) && decide (nI i < nI l9)) = true from by rw [decide_eq_true (nI_pos' (by omega)), decide_eq_true (nI_lt hi (by omega))]; rfl]; decide)) rfl ?_
  refine EvF.gop 14 (go_aload_n d_PS_line_13 rfl 0 rfl) rfl ?_
  refine EvF.gop 17 (go_get f_PS_52 d_PS_line_14 (h0) rfl) rfl ?_
  refine EvF.gop 20 (go_get f_PS_158 d_PS_line_17 (q0) rfl) rfl ?_
  refine EvF.gop 21 (go_iload_n d_PS_line_20 rfl 1 rfl) rfl ?_
  refine EvF.gop 22 (go_iald (j := i) d_PS_line_21 (q15) (rfl) (by omega) (by omega)) rfl ?_
  refine EvF.go (go_v (y := nI x0) (hX0)) ?_
  refine EvF.gop 23 (go_istore_n [(3, .int (nI x0)), (0, .ref p), (1, .int (nI i)), (2, .int 0)] d_PS_line_22 rfl (by decide) rfl) rfl ?_
  refine EvF.go (go_pick [1, 2, 3, 0] [(0, .ref p), (1, .int (nI i)), (2, .int 0), (3, .int (nI x0))] rfl) ?_
  refine EvF.gop 24 (go_aload_n d_PS_line_23 rfl 0 rfl) rfl ?_
  refine EvF.gop 27 (go_get f_PS_52 d_PS_line_24 (h0) rfl) rfl ?_
  refine EvF.gop 30 (go_get f_PS_158 d_PS_line_27 (q0) rfl) rfl ?_
  refine EvF.gop 31 (go_iload_n d_PS_line_30 rfl 1 rfl) rfl ?_
  refine EvF.gop 32 (go_iconst (v := 1) d_PS_line_31 (by decide)) rfl ?_
  refine EvF.gop 33 (go_iadd d_PS_line_32) rfl ?_
  refine EvF.go (go_v (y := nI (i + 1)) (nI_add i 1)) ?_
  refine EvF.gop 34 (go_iald (j := (i + 1)) d_PS_line_33 (q15) (rfl) (by omega) (by omega)) rfl ?_
  refine EvF.go (go_v (y := nI x1) (hX1)) ?_
  refine EvF.gop 36 (go_istore [(4, .int (nI x1)), (0, .ref p), (1, .int (nI i)), (2, .int 0), (3, .int (nI x0))] d_PS_line_34 (by decide) rfl) rfl ?_
  refine EvF.go (go_pick [1, 2, 3, 4, 0] [(0, .ref p), (1, .int (nI i)), (2, .int 0), (3, .int (nI x0)), (4, .int (nI x1))] rfl) ?_
  refine EvF.gop 37 (go_iload_n d_PS_line_36 rfl 2 rfl) rfl ?_
  refine EvF.gop 76 (go_tableIn (x := 0) (off := 39) 76 d_PS_line_37 (by decide) (by decide) (by decide) (by decide)) rfl ?_
  refine EvF.gop 78 (go_iload d_PS_line_76 4 rfl) rfl ?_
  exact EvF.ri d_PS_line_78 rfl (rfl) (rfl)
theorem e_PS_line1 (G : gG) (M : gM) (p lb db : Nat) (l9 : Nat) (dw cl : Int32) (tt : Int64) (bn : Int32) (K E B W ST SH L DD PP X : Nat → Int32) (i x0 x1 e g : Nat) (h0 : gRd M p = some (.inr (10, [.ref (p + 1), .ref (p + 3), .ref (p + 4), .ref (p + 5), .ref (p + 23), .ref (p + 86), .ref lb, .ref db]))) (hq : StgAt G M (sA lb) dw cl (nI l9) tt bn K E B W ST SH L DD PP X) (hi : i < l9) (hl9 : l9 ≤ 24) (hX0 : X i = nI x0) (hX1 : X (i + 1) = nI x1) (k0 : x0 < 25) (k1 : x1 < 25) (hE : E x1 = nI e) (hB : B x0 = nI g) (he : e < 121) (hg : g < 121) (hz : ∀ x : Int32, (x = ST e - ST g ∨ x = SH e - SH g) → ¬ x = 0 → ¬ x.toInt64 * x.toInt64 * x.toInt64 = 0) : Ev G 4 m_PS_line [.ref p, .int (nI i), .int 1] M (some (.int (K x1))) M := by
  have q0 : gRd M lb = some (.inr (8, [.ref (lb + 1), .ref (lb + 4), .ref (lb + 8), .ref (lb + 14), .int dw, .int cl, .ref (lb + 15), .int (nI l9), .long tt])) := hq.1
  have q2 : gRd M (lb + 4) = some (.inr (6, [.ref (lb + 5), .ref (lb + 6), .ref (lb + 7), .int bn])) := hq.2.1
  have q5 : gRd M (lb + 5) = some (aI G 25 K) := hq.2.2.1
  have q15 : gRd M (lb + 15) = some (aI G 25 X) := hq.2.2.2.2.2.2.2.2.2.2.2.2
  refine Ev.of (Nat.le_of_ble_eq_true rfl) ?_
  show EvF G 4 m_PS_line (0, [(0, .ref p), (1, .int (nI i)), (2, .int 1)], [], M) _ _
  refine EvF.gop 1 (go_aload_n d_PS_line_0 rfl 0 rfl) rfl ?_
  refine EvF.gop 4 (go_get f_PS_52 d_PS_line_1 (h0) rfl) rfl ?_
  refine EvF.gop 5 (go_iload_n d_PS_line_4 rfl 1 rfl) rfl ?_
  refine EvF.gop 8 (go_callV [.int (nI i)] [.int (bI (decide (0 ≤ nI i) && decide (nI i < nI l9)))] c0_Stg_hasLine im_Stg_hasLine se_Stg_hasLine lk_PS_155 d_PS_line_5 rfl rfl (q0) (e_Stg_hasLine G M (sA lb) dw cl (nI l9) tt bn K E B W ST SH L DD PP X (nI i) hq) (by decide) rfl rfl (Nat.le_of_ble_eq_true rfl) rfl) rfl ?_
  refine EvF.gop 13 (go_if_ne_t 13 d_PS_line_8 (by decide) (by rw [show (decide (0 ≤ nI i) && decide (nI i < nI l9)) = true from by rw [decide_eq_true (nI_pos' (by omega)), decide_eq_true (nI_lt hi (by omega))]; rfl]; decide)) rfl ?_
  refine EvF.gop 14 (go_aload_n d_PS_line_13 rfl 0 rfl) rfl ?_
  refine EvF.gop 17 (go_get f_PS_52 d_PS_line_14 (h0) rfl) rfl ?_
  refine EvF.gop 20 (go_get f_PS_158 d_PS_line_17 (q0) rfl) rfl ?_
  refine EvF.gop 21 (go_iload_n d_PS_line_20 rfl 1 rfl) rfl ?_
  refine EvF.gop 22 (go_iald (j := i) d_PS_line_21 (q15) (rfl) (by omega) (by omega)) rfl ?_
  refine EvF.go (go_v (y := nI x0) (hX0)) ?_
  refine EvF.gop 23 (go_istore_n [(3, .int (nI x0)), (0, .ref p), (1, .int (nI i)), (2, .int 1)] d_PS_line_22 rfl (by decide) rfl) rfl ?_
  refine EvF.go (go_pick [1, 2, 3, 0] [(0, .ref p), (1, .int (nI i)), (2, .int 1), (3, .int (nI x0))] rfl) ?_
  refine EvF.gop 24 (go_aload_n d_PS_line_23 rfl 0 rfl) rfl ?_
  refine EvF.gop 27 (go_get f_PS_52 d_PS_line_24 (h0) rfl) rfl ?_
  refine EvF.gop 30 (go_get f_PS_158 d_PS_line_27 (q0) rfl) rfl ?_
  refine EvF.gop 31 (go_iload_n d_PS_line_30 rfl 1 rfl) rfl ?_
  refine EvF.gop 32 (go_iconst (v := 1) d_PS_line_31 (by decide)) rfl ?_
  refine EvF.gop 33 (go_iadd d_PS_line_32) rfl ?_
  refine EvF.go (go_v (y := nI (i + 1)) (nI_add i 1)) ?_
  refine EvF.gop 34 (go_iald (j := (i + 1)) d_PS_line_33 (q15) (rfl) (by omega) (by omega)) rfl ?_
  refine EvF.go (go_v (y := nI x1) (hX1)) ?_
  refine EvF.gop 36 (go_istore [(4, .int (nI x1)), (0, .ref p), (1, .int (nI i)), (2, .int 1), (3, .int (nI x0))] d_PS_line_34 (by decide) rfl) rfl ?_
  refine EvF.go (go_pick [1, 2, 3, 4, 0] [(0, .ref p), (1, .int (nI i)), (2, .int 1), (3, .int (nI x0)), (4, .int (nI x1))] rfl) ?_
  refine EvF.gop 37 (go_iload_n d_PS_line_36 rfl 2 rfl) rfl ?_
  refine EvF.gop 79 (go_tableIn (x := 1) (off := 42) 79 d_PS_line_37 (by decide) (by decide) (by decide) (by decide)) rfl ?_
  refine EvF.gop 80 (go_aload_n d_PS_line_79 rfl 0 rfl) rfl ?_
  refine EvF.gop 83 (go_get f_PS_52 d_PS_line_80 (h0) rfl) rfl ?_
  refine EvF.gop 86 (go_get f_PS_127 d_PS_line_83 (q0) rfl) rfl ?_
  refine EvF.gop 89 (go_get f_PS_161 d_PS_line_86 (q2) rfl) rfl ?_
  refine EvF.gop 91 (go_iload d_PS_line_89 4 rfl) rfl ?_
  refine EvF.gop 92 (go_iald (j := x1) d_PS_line_91 (q5) (rfl) (by omega) (by omega)) rfl ?_
  exact EvF.ri d_PS_line_92 rfl (rfl) (rfl)
theorem e_PS_line2 (G : gG) (M : gM) (p lb db : Nat) (l9 : Nat) (dw cl : Int32) (tt : Int64) (bn : Int32) (K E B W ST SH L DD PP X : Nat → Int32) (i x0 x1 e g : Nat) (h0 : gRd M p = some (.inr (10, [.ref (p + 1), .ref (p + 3), .ref (p + 4), .ref (p + 5), .ref (p + 23), .ref (p + 86), .ref lb, .ref db]))) (hq : StgAt G M (sA lb) dw cl (nI l9) tt bn K E B W ST SH L DD PP X) (hi : i < l9) (hl9 : l9 ≤ 24) (hX0 : X i = nI x0) (hX1 : X (i + 1) = nI x1) (k0 : x0 < 25) (k1 : x1 < 25) (hE : E x1 = nI e) (hB : B x0 = nI g) (he : e < 121) (hg : g < 121) (hz : ∀ x : Int32, (x = ST e - ST g ∨ x = SH e - SH g) → ¬ x = 0 → ¬ x.toInt64 * x.toInt64 * x.toInt64 = 0) : Ev G 4 m_PS_line [.ref p, .int (nI i), .int 2] M (some (.int (naI W K dw x1 e g))) M := by
  have q0 : gRd M lb = some (.inr (8, [.ref (lb + 1), .ref (lb + 4), .ref (lb + 8), .ref (lb + 14), .int dw, .int cl, .ref (lb + 15), .int (nI l9), .long tt])) := hq.1
  have q2 : gRd M (lb + 4) = some (.inr (6, [.ref (lb + 5), .ref (lb + 6), .ref (lb + 7), .int bn])) := hq.2.1
  have q5 : gRd M (lb + 5) = some (aI G 25 K) := hq.2.2.1
  have q15 : gRd M (lb + 15) = some (aI G 25 X) := hq.2.2.2.2.2.2.2.2.2.2.2.2
  refine Ev.of (Nat.le_of_ble_eq_true rfl) ?_
  show EvF G 4 m_PS_line (0, [(0, .ref p), (1, .int (nI i)), (2, .int 2)], [], M) _ _
  refine EvF.gop 1 (go_aload_n d_PS_line_0 rfl 0 rfl) rfl ?_
  refine EvF.gop 4 (go_get f_PS_52 d_PS_line_1 (h0) rfl) rfl ?_
  refine EvF.gop 5 (go_iload_n d_PS_line_4 rfl 1 rfl) rfl ?_
  refine EvF.gop 8 (go_callV [.int (nI i)] [.int (bI (decide (0 ≤ nI i) && decide (nI i < nI l9)))] c0_Stg_hasLine im_Stg_hasLine se_Stg_hasLine lk_PS_155 d_PS_line_5 rfl rfl (q0) (e_Stg_hasLine G M (sA lb) dw cl (nI l9) tt bn K E B W ST SH L DD PP X (nI i) hq) (by decide) rfl rfl (Nat.le_of_ble_eq_true rfl) rfl) rfl ?_
  refine EvF.gop 13 (go_if_ne_t 13 d_PS_line_8 (by decide) (by rw [show (decide (0 ≤ nI i) && decide (nI i < nI l9)) = true from by rw [decide_eq_true (nI_pos' (by omega)), decide_eq_true (nI_lt hi (by omega))]; rfl]; decide)) rfl ?_
  refine EvF.gop 14 (go_aload_n d_PS_line_13 rfl 0 rfl) rfl ?_
  refine EvF.gop 17 (go_get f_PS_52 d_PS_line_14 (h0) rfl) rfl ?_
  refine EvF.gop 20 (go_get f_PS_158 d_PS_line_17 (q0) rfl) rfl ?_
  refine EvF.gop 21 (go_iload_n d_PS_line_20 rfl 1 rfl) rfl ?_
  refine EvF.gop 22 (go_iald (j := i) d_PS_line_21 (q15) (rfl) (by omega) (by omega)) rfl ?_
  refine EvF.go (go_v (y := nI x0) (hX0)) ?_
  refine EvF.gop 23 (go_istore_n [(3, .int (nI x0)), (0, .ref p), (1, .int (nI i)), (2, .int 2)] d_PS_line_22 rfl (by decide) rfl) rfl ?_
  refine EvF.go (go_pick [1, 2, 3, 0] [(0, .ref p), (1, .int (nI i)), (2, .int 2), (3, .int (nI x0))] rfl) ?_
  refine EvF.gop 24 (go_aload_n d_PS_line_23 rfl 0 rfl) rfl ?_
  refine EvF.gop 27 (go_get f_PS_52 d_PS_line_24 (h0) rfl) rfl ?_
  refine EvF.gop 30 (go_get f_PS_158 d_PS_line_27 (q0) rfl) rfl ?_
  refine EvF.gop 31 (go_iload_n d_PS_line_30 rfl 1 rfl) rfl ?_
  refine EvF.gop 32 (go_iconst (v := 1) d_PS_line_31 (by decide)) rfl ?_
  refine EvF.gop 33 (go_iadd d_PS_line_32) rfl ?_
  refine EvF.go (go_v (y := nI (i + 1)) (nI_add i 1)) ?_
  refine EvF.gop 34 (go_iald (j := (i + 1)) d_PS_line_33 (q15) (rfl) (by omega) (by omega)) rfl ?_
  refine EvF.go (go_v (y := nI x1) (hX1)) ?_
  refine EvF.gop 36 (go_istore [(4, .int (nI x1)), (0, .ref p), (1, .int (nI i)), (2, .int 2), (3, .int (nI x0))] d_PS_line_34 (by decide) rfl) rfl ?_
  refine EvF.go (go_pick [1, 2, 3, 4, 0] [(0, .ref p), (1, .int (nI i)), (2, .int 2), (3, .int (nI x0)), (4, .int (nI x1))] rfl) ?_
  refine EvF.gop 37 (go_iload_n d_PS_line_36 rfl 2 rfl) rfl ?_
  refine EvF.gop 93 (go_tableIn (x := 2) (off := 56) 93 d_PS_line_37 (by decide) (by decide) (by decide) (by decide)) rfl ?_
  refine EvF.gop 94 (go_aload_n d_PS_line_93 rfl 0 rfl) rfl ?_
  refine EvF.gop 97 (go_get f_PS_52 d_PS_line_94 (h0) rfl) rfl ?_
  refine EvF.gop 98 (go_iload_n d_PS_line_97 rfl 3 rfl) rfl ?_
  refine EvF.gop 100 (go_iload d_PS_line_98 4 rfl) rfl ?_
  refine EvF.gop 103 (go_callV [.int (nI x0), .int (nI x1)] [.int (naI W K dw x1 e g)] c0_Stg_natural im_Stg_natural se_Stg_natural lk_PS_164 d_PS_line_100 rfl rfl (q0) (e_Stg_natural G M (sA lb) dw cl (nI l9) tt bn K E B W ST SH L DD PP X x0 x1 e g hq k0 k1 hE hB he hg) (by decide) rfl rfl (Nat.le_of_ble_eq_true rfl) rfl) rfl ?_
  exact EvF.ri d_PS_line_103 rfl (rfl) (rfl)
theorem e_PS_line3 (G : gG) (M : gM) (p lb db : Nat) (l9 : Nat) (dw cl : Int32) (tt : Int64) (bn : Int32) (K E B W ST SH L DD PP X : Nat → Int32) (i x0 x1 e g : Nat) (h0 : gRd M p = some (.inr (10, [.ref (p + 1), .ref (p + 3), .ref (p + 4), .ref (p + 5), .ref (p + 23), .ref (p + 86), .ref lb, .ref db]))) (hq : StgAt G M (sA lb) dw cl (nI l9) tt bn K E B W ST SH L DD PP X) (hi : i < l9) (hl9 : l9 ≤ 24) (hX0 : X i = nI x0) (hX1 : X (i + 1) = nI x1) (k0 : x0 < 25) (k1 : x1 < 25) (hE : E x1 = nI e) (hB : B x0 = nI g) (he : e < 121) (hg : g < 121) (hz : ∀ x : Int32, (x = ST e - ST g ∨ x = SH e - SH g) → ¬ x = 0 → ¬ x.toInt64 * x.toInt64 * x.toInt64 = 0) : Ev G 4 m_PS_line [.ref p, .int (nI i), .int 3] M (some (.int (dfI W K PP dw x1 e g))) M := by
  have q0 : gRd M lb = some (.inr (8, [.ref (lb + 1), .ref (lb + 4), .ref (lb + 8), .ref (lb + 14), .int dw, .int cl, .ref (lb + 15), .int (nI l9), .long tt])) := hq.1
  have q2 : gRd M (lb + 4) = some (.inr (6, [.ref (lb + 5), .ref (lb + 6), .ref (lb + 7), .int bn])) := hq.2.1
  have q5 : gRd M (lb + 5) = some (aI G 25 K) := hq.2.2.1
  have q15 : gRd M (lb + 15) = some (aI G 25 X) := hq.2.2.2.2.2.2.2.2.2.2.2.2
  refine Ev.of (Nat.le_of_ble_eq_true rfl) ?_
  show EvF G 4 m_PS_line (0, [(0, .ref p), (1, .int (nI i)), (2, .int 3)], [], M) _ _
  refine EvF.gop 1 (go_aload_n d_PS_line_0 rfl 0 rfl) rfl ?_
  refine EvF.gop 4 (go_get f_PS_52 d_PS_line_1 (h0) rfl) rfl ?_
  refine EvF.gop 5 (go_iload_n d_PS_line_4 rfl 1 rfl) rfl ?_
  refine EvF.gop 8 (go_callV [.int (nI i)] [.int (bI (decide (0 ≤ nI i) && decide (nI i < nI l9)))] c0_Stg_hasLine im_Stg_hasLine se_Stg_hasLine lk_PS_155 d_PS_line_5 rfl rfl (q0) (e_Stg_hasLine G M (sA lb) dw cl (nI l9) tt bn K E B W ST SH L DD PP X (nI i) hq) (by decide) rfl rfl (Nat.le_of_ble_eq_true rfl) rfl) rfl ?_
  refine EvF.gop 13 (go_if_ne_t 13 d_PS_line_8 (by decide) (by rw [show (decide (0 ≤ nI i) && decide (nI i < nI l9)) = true from by rw [decide_eq_true (nI_pos' (by omega)), decide_eq_true (nI_lt hi (by omega))]; rfl]; decide)) rfl ?_
  refine EvF.gop 14 (go_aload_n d_PS_line_13 rfl 0 rfl) rfl ?_
  refine EvF.gop 17 (go_get f_PS_52 d_PS_line_14 (h0) rfl) rfl ?_
  refine EvF.gop 20 (go_get f_PS_158 d_PS_line_17 (q0) rfl) rfl ?_
  refine EvF.gop 21 (go_iload_n d_PS_line_20 rfl 1 rfl) rfl ?_
  refine EvF.gop 22 (go_iald (j := i) d_PS_line_21 (q15) (rfl) (by omega) (by omega)) rfl ?_
  refine EvF.go (go_v (y := nI x0) (hX0)) ?_
  refine EvF.gop 23 (go_istore_n [(3, .int (nI x0)), (0, .ref p), (1, .int (nI i)), (2, .int 3)] d_PS_line_22 rfl (by decide) rfl) rfl ?_
  refine EvF.go (go_pick [1, 2, 3, 0] [(0, .ref p), (1, .int (nI i)), (2, .int 3), (3, .int (nI x0))] rfl) ?_
  refine EvF.gop 24 (go_aload_n d_PS_line_23 rfl 0 rfl) rfl ?_
  refine EvF.gop 27 (go_get f_PS_52 d_PS_line_24 (h0) rfl) rfl ?_
  refine EvF.gop 30 (go_get f_PS_158 d_PS_line_27 (q0) rfl) rfl ?_
  refine EvF.gop 31 (go_iload_n d_PS_line_30 rfl 1 rfl) rfl ?_
  refine EvF.gop 32 (go_iconst (v := 1) d_PS_line_31 (by decide)) rfl ?_
  refine EvF.gop 33 (go_iadd d_PS_line_32) rfl ?_
  refine EvF.go (go_v (y := nI (i + 1)) (nI_add i 1)) ?_
  refine EvF.gop 34 (go_iald (j := (i + 1)) d_PS_line_33 (q15) (rfl) (by omega) (by omega)) rfl ?_
  refine EvF.go (go_v (y := nI x1) (hX1)) ?_
  refine EvF.gop 36 (go_istore [(4, .int (nI x1)), (0, .ref p), (1, .int (nI i)), (2, .int 3), (3, .int (nI x0))] d_PS_line_34 (by decide) rfl) rfl ?_
  refine EvF.go (go_pick [1, 2, 3, 4, 0] [(0, .ref p), (1, .int (nI i)), (2, .int 3), (3, .int (nI x0)), (4, .int (nI x1))] rfl) ?_
  refine EvF.gop 37 (go_iload_n d_PS_line_36 rfl 2 rfl) rfl ?_
  refine EvF.gop 104 (go_tableIn (x := 3) (off := 67) 104 d_PS_line_37 (by decide) (by decide) (by decide) (by decide)) rfl ?_
  refine EvF.gop 105 (go_aload_n d_PS_line_104 rfl 0 rfl) rfl ?_
  refine EvF.gop 108 (go_get f_PS_52 d_PS_line_105 (h0) rfl) rfl ?_
  refine EvF.gop 109 (go_iload_n d_PS_line_108 rfl 3 rfl) rfl ?_
  refine EvF.gop 111 (go_iload d_PS_line_109 4 rfl) rfl ?_
  refine EvF.gop 114 (go_callV [.int (nI x0), .int (nI x1)] [.int (dfI W K PP dw x1 e g)] c0_Stg_difference im_Stg_difference se_Stg_difference lk_PS_168 d_PS_line_111 rfl rfl (q0) (e_Stg_difference G M (sA lb) dw cl (nI l9) tt bn K E B W ST SH L DD PP X x0 x1 e g hq k0 k1 hE hB he hg) (by decide) rfl rfl (Nat.le_of_ble_eq_true rfl) rfl) rfl ?_
  exact EvF.ri d_PS_line_114 rfl (rfl) (rfl)
theorem e_PS_line4 (G : gG) (M : gM) (p lb db : Nat) (l9 : Nat) (dw cl : Int32) (tt : Int64) (bn : Int32) (K E B W ST SH L DD PP X : Nat → Int32) (i x0 x1 e g : Nat) (h0 : gRd M p = some (.inr (10, [.ref (p + 1), .ref (p + 3), .ref (p + 4), .ref (p + 5), .ref (p + 23), .ref (p + 86), .ref lb, .ref db]))) (hq : StgAt G M (sA lb) dw cl (nI l9) tt bn K E B W ST SH L DD PP X) (hi : i < l9) (hl9 : l9 ≤ 24) (hX0 : X i = nI x0) (hX1 : X (i + 1) = nI x1) (k0 : x0 < 25) (k1 : x1 < 25) (hE : E x1 = nI e) (hB : B x0 = nI g) (he : e < 121) (hg : g < 121) (hz : ∀ x : Int32, (x = ST e - ST g ∨ x = SH e - SH g) → ¬ x = 0 → ¬ x.toInt64 * x.toInt64 * x.toInt64 = 0) : Ev G 4 m_PS_line [.ref p, .int (nI i), .int 4] M (some (.int ((bdI (L e - L g) (DD e - DD g) (dfI W K PP dw x1 e g) (loI K (dfI W K PP dw x1 e g) x1) (ST e - ST g) (SH e - SH g) (PP 1)).toInt32))) M := by
  have q0 : gRd M lb = some (.inr (8, [.ref (lb + 1), .ref (lb + 4), .ref (lb + 8), .ref (lb + 14), .int dw, .int cl, .ref (lb + 15), .int (nI l9), .long tt])) := hq.1
  have q2 : gRd M (lb + 4) = some (.inr (6, [.ref (lb + 5), .ref (lb + 6), .ref (lb + 7), .int bn])) := hq.2.1
  have q5 : gRd M (lb + 5) = some (aI G 25 K) := hq.2.2.1
  have q15 : gRd M (lb + 15) = some (aI G 25 X) := hq.2.2.2.2.2.2.2.2.2.2.2.2
  refine Ev.of (Nat.le_of_ble_eq_true rfl) ?_
  show EvF G 4 m_PS_line (0, [(0, .ref p), (1, .int (nI i)), (2, .int 4)], [], M) _ _
  refine EvF.gop 1 (go_aload_n d_PS_line_0 rfl 0 rfl) rfl ?_
  refine EvF.gop 4 (go_get f_PS_52 d_PS_line_1 (h0) rfl) rfl ?_
  refine EvF.gop 5 (go_iload_n d_PS_line_4 rfl 1 rfl) rfl ?_
  refine EvF.gop 8 (go_callV [.int (nI i)] [.int (bI (decide (0 ≤ nI i) && decide (nI i < nI l9)))] c0_Stg_hasLine im_Stg_hasLine se_Stg_hasLine lk_PS_155 d_PS_line_5 rfl rfl (q0) (e_Stg_hasLine G M (sA lb) dw cl (nI l9) tt bn K E B W ST SH L DD PP X (nI i) hq) (by decide) rfl rfl (Nat.le_of_ble_eq_true rfl) rfl) rfl ?_
  refine EvF.gop 13 (go_if_ne_t 13 d_PS_line_8 (by decide) (by rw [show (decide (0 ≤ nI i) && decide (nI i < nI l9)) = true from by rw [decide_eq_true (nI_pos' (by omega)), decide_eq_true (nI_lt hi (by omega))]; rfl]; decide)) rfl ?_
  refine EvF.gop 14 (go_aload_n d_PS_line_13 rfl 0 rfl) rfl ?_
  refine EvF.gop 17 (go_get f_PS_52 d_PS_line_14 (h0) rfl) rfl ?_
  refine EvF.gop 20 (go_get f_PS_158 d_PS_line_17 (q0) rfl) rfl ?_
  refine EvF.gop 21 (go_iload_n d_PS_line_20 rfl 1 rfl) rfl ?_
  refine EvF.gop 22 (go_iald (j := i) d_PS_line_21 (q15) (rfl) (by omega) (by omega)) rfl ?_
  refine EvF.go (go_v (y := nI x0) (hX0)) ?_
  refine EvF.gop 23 (go_istore_n [(3, .int (nI x0)), (0, .ref p), (1, .int (nI i)), (2, .int 4)] d_PS_line_22 rfl (by decide) rfl) rfl ?_
  refine EvF.go (go_pick [1, 2, 3, 0] [(0, .ref p), (1, .int (nI i)), (2, .int 4), (3, .int (nI x0))] rfl) ?_
  refine EvF.gop 24 (go_aload_n d_PS_line_23 rfl 0 rfl) rfl ?_
  refine EvF.gop 27 (go_get f_PS_52 d_PS_line_24 (h0) rfl) rfl ?_
  refine EvF.gop 30 (go_get f_PS_158 d_PS_line_27 (q0) rfl) rfl ?_
  refine EvF.gop 31 (go_iload_n d_PS_line_30 rfl 1 rfl) rfl ?_
  refine EvF.gop 32 (go_iconst (v := 1) d_PS_line_31 (by decide)) rfl ?_
  refine EvF.gop 33 (go_iadd d_PS_line_32) rfl ?_
  refine EvF.go (go_v (y := nI (i + 1)) (nI_add i 1)) ?_
  refine EvF.gop 34 (go_iald (j := (i + 1)) d_PS_line_33 (q15) (rfl) (by omega) (by omega)) rfl ?_
  refine EvF.go (go_v (y := nI x1) (hX1)) ?_
  refine EvF.gop 36 (go_istore [(4, .int (nI x1)), (0, .ref p), (1, .int (nI i)), (2, .int 4), (3, .int (nI x0))] d_PS_line_34 (by decide) rfl) rfl ?_
  refine EvF.go (go_pick [1, 2, 3, 4, 0] [(0, .ref p), (1, .int (nI i)), (2, .int 4), (3, .int (nI x0)), (4, .int (nI x1))] rfl) ?_
  refine EvF.gop 37 (go_iload_n d_PS_line_36 rfl 2 rfl) rfl ?_
  refine EvF.gop 115 (go_tableIn (x := 4) (off := 78) 115 d_PS_line_37 (by decide) (by decide) (by decide) (by decide)) rfl ?_
  refine EvF.gop 116 (go_aload_n d_PS_line_115 rfl 0 rfl) rfl ?_
  refine EvF.gop 119 (go_get f_PS_52 d_PS_line_116 (h0) rfl) rfl ?_
  refine EvF.gop 120 (go_iload_n d_PS_line_119 rfl 3 rfl) rfl ?_
  refine EvF.gop 122 (go_iload d_PS_line_120 4 rfl) rfl ?_
  refine EvF.gop 125 (go_callV [.int (nI x0), .int (nI x1)] [.long (bdI (L e - L g) (DD e - DD g) (dfI W K PP dw x1 e g) (loI K (dfI W K PP dw x1 e g) x1) (ST e - ST g) (SH e - SH g) (PP 1))] c0_Stg_badness im_Stg_badness se_Stg_badness lk_PS_171 d_PS_line_122 rfl rfl (q0) (e_Stg_badness G M (sA lb) dw cl (nI l9) tt bn K E B W ST SH L DD PP X x0 x1 e g hq k0 k1 hE hB he hg hz) (by decide) rfl rfl (Nat.le_of_ble_eq_true rfl) rfl) rfl ?_
  refine EvF.gop 126 (go_l2i d_PS_line_125) rfl ?_
  exact EvF.ri d_PS_line_126 rfl (rfl) (rfl)
theorem e_PS_line5 (G : gG) (M : gM) (p lb db : Nat) (l9 : Nat) (dw cl : Int32) (tt : Int64) (bn : Int32) (K E B W ST SH L DD PP X : Nat → Int32) (i x0 x1 e g : Nat) (h0 : gRd M p = some (.inr (10, [.ref (p + 1), .ref (p + 3), .ref (p + 4), .ref (p + 5), .ref (p + 23), .ref (p + 86), .ref lb, .ref db]))) (hq : StgAt G M (sA lb) dw cl (nI l9) tt bn K E B W ST SH L DD PP X) (hi : i < l9) (hl9 : l9 ≤ 24) (hX0 : X i = nI x0) (hX1 : X (i + 1) = nI x1) (k0 : x0 < 25) (k1 : x1 < 25) (hE : E x1 = nI e) (hB : B x0 = nI g) (he : e < 121) (hg : g < 121) (hz : ∀ x : Int32, (x = ST e - ST g ∨ x = SH e - SH g) → ¬ x = 0 → ¬ x.toInt64 * x.toInt64 * x.toInt64 = 0) : Ev G 4 m_PS_line [.ref p, .int (nI i), .int 5] M (some (.int (L e - L g))) M := by
  have q0 : gRd M lb = some (.inr (8, [.ref (lb + 1), .ref (lb + 4), .ref (lb + 8), .ref (lb + 14), .int dw, .int cl, .ref (lb + 15), .int (nI l9), .long tt])) := hq.1
  have q2 : gRd M (lb + 4) = some (.inr (6, [.ref (lb + 5), .ref (lb + 6), .ref (lb + 7), .int bn])) := hq.2.1
  have q5 : gRd M (lb + 5) = some (aI G 25 K) := hq.2.2.1
  have q15 : gRd M (lb + 15) = some (aI G 25 X) := hq.2.2.2.2.2.2.2.2.2.2.2.2
  refine Ev.of (Nat.le_of_ble_eq_true rfl) ?_
  show EvF G 4 m_PS_line (0, [(0, .ref p), (1, .int (nI i)), (2, .int 5)], [], M) _ _
  refine EvF.gop 1 (go_aload_n d_PS_line_0 rfl 0 rfl) rfl ?_
  refine EvF.gop 4 (go_get f_PS_52 d_PS_line_1 (h0) rfl) rfl ?_
  refine EvF.gop 5 (go_iload_n d_PS_line_4 rfl 1 rfl) rfl ?_
  refine EvF.gop 8 (go_callV [.int (nI i)] [.int (bI (decide (0 ≤ nI i) && decide (nI i < nI l9)))] c0_Stg_hasLine im_Stg_hasLine se_Stg_hasLine lk_PS_155 d_PS_line_5 rfl rfl (q0) (e_Stg_hasLine G M (sA lb) dw cl (nI l9) tt bn K E B W ST SH L DD PP X (nI i) hq) (by decide) rfl rfl (Nat.le_of_ble_eq_true rfl) rfl) rfl ?_
  refine EvF.gop 13 (go_if_ne_t 13 d_PS_line_8 (by decide) (by rw [show (decide (0 ≤ nI i) && decide (nI i < nI l9)) = true from by rw [decide_eq_true (nI_pos' (by omega)), decide_eq_true (nI_lt hi (by omega))]; rfl]; decide)) rfl ?_
  refine EvF.gop 14 (go_aload_n d_PS_line_13 rfl 0 rfl) rfl ?_
  refine EvF.gop 17 (go_get f_PS_52 d_PS_line_14 (h0) rfl) rfl ?_
  refine EvF.gop 20 (go_get f_PS_158 d_PS_line_17 (q0) rfl) rfl ?_
  refine EvF.gop 21 (go_iload_n d_PS_line_20 rfl 1 rfl) rfl ?_
  refine EvF.gop 22 (go_iald (j := i) d_PS_line_21 (q15) (rfl) (by omega) (by omega)) rfl ?_
  refine EvF.go (go_v (y := nI x0) (hX0)) ?_
  refine EvF.gop 23 (go_istore_n [(3, .int (nI x0)), (0, .ref p), (1, .int (nI i)), (2, .int 5)] d_PS_line_22 rfl (by decide) rfl) rfl ?_
  refine EvF.go (go_pick [1, 2, 3, 0] [(0, .ref p), (1, .int (nI i)), (2, .int 5), (3, .int (nI x0))] rfl) ?_
  refine EvF.gop 24 (go_aload_n d_PS_line_23 rfl 0 rfl) rfl ?_
  refine EvF.gop 27 (go_get f_PS_52 d_PS_line_24 (h0) rfl) rfl ?_
  refine EvF.gop 30 (go_get f_PS_158 d_PS_line_27 (q0) rfl) rfl ?_
  refine EvF.gop 31 (go_iload_n d_PS_line_30 rfl 1 rfl) rfl ?_
  refine EvF.gop 32 (go_iconst (v := 1) d_PS_line_31 (by decide)) rfl ?_
  refine EvF.gop 33 (go_iadd d_PS_line_32) rfl ?_
  refine EvF.go (go_v (y := nI (i + 1)) (nI_add i 1)) ?_
  refine EvF.gop 34 (go_iald (j := (i + 1)) d_PS_line_33 (q15) (rfl) (by omega) (by omega)) rfl ?_
  refine EvF.go (go_v (y := nI x1) (hX1)) ?_
  refine EvF.gop 36 (go_istore [(4, .int (nI x1)), (0, .ref p), (1, .int (nI i)), (2, .int 5), (3, .int (nI x0))] d_PS_line_34 (by decide) rfl) rfl ?_
  refine EvF.go (go_pick [1, 2, 3, 4, 0] [(0, .ref p), (1, .int (nI i)), (2, .int 5), (3, .int (nI x0)), (4, .int (nI x1))] rfl) ?_
  refine EvF.gop 37 (go_iload_n d_PS_line_36 rfl 2 rfl) rfl ?_
  refine EvF.gop 127 (go_tableIn (x := 5) (off := 90) 127 d_PS_line_37 (by decide) (by decide) (by decide) (by decide)) rfl ?_
  refine EvF.gop 128 (go_aload_n d_PS_line_127 rfl 0 rfl) rfl ?_
  refine EvF.gop 131 (go_get f_PS_52 d_PS_line_128 (h0) rfl) rfl ?_
  refine EvF.gop 132 (go_iload_n d_PS_line_131 rfl 3 rfl) rfl ?_
  refine EvF.gop 134 (go_iload d_PS_line_132 4 rfl) rfl ?_
  refine EvF.gop 137 (go_callV [.int (nI x0), .int (nI x1)] [.int (L e - L g)] c0_Stg_letters im_Stg_letters se_Stg_letters lk_PS_175 d_PS_line_134 rfl rfl (q0) (e_Stg_letters G M (sA lb) dw cl (nI l9) tt bn K E B W ST SH L DD PP X x0 x1 e g hq k0 k1 hE hB he hg) (by decide) rfl rfl (Nat.le_of_ble_eq_true rfl) rfl) rfl ?_
  exact EvF.ri d_PS_line_137 rfl (rfl) (rfl)
theorem e_PS_lineO (G : gG) (M : gM) (p lb db : Nat) (l9 : Nat) (dw cl : Int32) (tt : Int64) (bn : Int32) (K E B W ST SH L DD PP X : Nat → Int32) (i x0 x1 e g : Nat) (x : Int32) (h0 : gRd M p = some (.inr (10, [.ref (p + 1), .ref (p + 3), .ref (p + 4), .ref (p + 5), .ref (p + 23), .ref (p + 86), .ref lb, .ref db]))) (hq : StgAt G M (sA lb) dw cl (nI l9) tt bn K E B W ST SH L DD PP X) (hi : i < l9) (hl9 : l9 ≤ 24) (hX0 : X i = nI x0) (hX1 : X (i + 1) = nI x1) (k0 : x0 < 25) (k1 : x1 < 25) (hE : E x1 = nI e) (hB : B x0 = nI g) (he : e < 121) (hg : g < 121) (hx : x.toInt < 0 ∨ 5 < x.toInt) : Ev G 4 m_PS_line [.ref p, .int (nI i), .int x] M (some (.int (-1))) M := by
  have q0 : gRd M lb = some (.inr (8, [.ref (lb + 1), .ref (lb + 4), .ref (lb + 8), .ref (lb + 14), .int dw, .int cl, .ref (lb + 15), .int (nI l9), .long tt])) := hq.1
  have q2 : gRd M (lb + 4) = some (.inr (6, [.ref (lb + 5), .ref (lb + 6), .ref (lb + 7), .int bn])) := hq.2.1
  have q5 : gRd M (lb + 5) = some (aI G 25 K) := hq.2.2.1
  have q15 : gRd M (lb + 15) = some (aI G 25 X) := hq.2.2.2.2.2.2.2.2.2.2.2.2
  refine Ev.of (Nat.le_of_ble_eq_true rfl) ?_
  show EvF G 4 m_PS_line (0, [(0, .ref p), (1, .int (nI i)), (2, .int x)], [], M) _ _
  refine EvF.gop 1 (go_aload_n d_PS_line_0 rfl 0 rfl) rfl ?_
  refine EvF.gop 4 (go_get f_PS_52 d_PS_line_1 (h0) rfl) rfl ?_
  refine EvF.gop 5 (go_iload_n d_PS_line_4 rfl 1 rfl) rfl ?_
  refine EvF.gop 8 (go_callV [.int (nI i)] [.int (bI (decide (0 ≤ nI i) && decide (nI i < nI l9)))] c0_Stg_hasLine im_Stg_hasLine se_Stg_hasLine lk_PS_155 d_PS_line_5 rfl rfl (q0) (e_Stg_hasLine G M (sA lb) dw cl (nI l9) tt bn K E B W ST SH L DD PP X (nI i) hq) (by decide) rfl rfl (Nat.le_of_ble_eq_true rfl) rfl) rfl ?_
  refine EvF.gop 13 (go_if_ne_t 13 d_PS_line_8 (by decide) (by rw [show (decide (0 ≤ nI i) && decide (nI i < nI l9)) = true from by rw [decide_eq_true (nI_pos' (by omega)), decide_eq_true (nI_lt hi (by omega))]; rfl]; decide)) rfl ?_
  refine EvF.gop 14 (go_aload_n d_PS_line_13 rfl 0 rfl) rfl ?_
  refine EvF.gop 17 (go_get f_PS_52 d_PS_line_14 (h0) rfl) rfl ?_
  refine EvF.gop 20 (go_get f_PS_158 d_PS_line_17 (q0) rfl) rfl ?_
  refine EvF.gop 21 (go_iload_n d_PS_line_20 rfl 1 rfl) rfl ?_
  refine EvF.gop 22 (go_iald (j := i) d_PS_line_21 (q15) (rfl) (by omega) (by omega)) rfl ?_
  refine EvF.go (go_v (y := nI x0) (hX0)) ?_
  refine EvF.gop 23 (go_istore_n [(3, .int (nI x0)), (0, .ref p), (1, .int (nI i)), (2, .int x)] d_PS_line_22 rfl (by decide) rfl) rfl ?_
  refine EvF.go (go_pick [1, 2, 3, 0] [(0, .ref p), (1, .int (nI i)), (2, .int x), (3, .int (nI x0))] rfl) ?_
  refine EvF.gop 24 (go_aload_n d_PS_line_23 rfl 0 rfl) rfl ?_
  refine EvF.gop 27 (go_get f_PS_52 d_PS_line_24 (h0) rfl) rfl ?_
  refine EvF.gop 30 (go_get f_PS_158 d_PS_line_27 (q0) rfl) rfl ?_
  refine EvF.gop 31 (go_iload_n d_PS_line_30 rfl 1 rfl) rfl ?_
  refine EvF.gop 32 (go_iconst (v := 1) d_PS_line_31 (by decide)) rfl ?_
  refine EvF.gop 33 (go_iadd d_PS_line_32) rfl ?_
  refine EvF.go (go_v (y := nI (i + 1)) (nI_add i 1)) ?_
  refine EvF.gop 34 (go_iald (j := (i + 1)) d_PS_line_33 (q15) (rfl) (by omega) (by omega)) rfl ?_
  refine EvF.go (go_v (y := nI x1) (hX1)) ?_
  refine EvF.gop 36 (go_istore [(4, .int (nI x1)), (0, .ref p), (1, .int (nI i)), (2, .int x), (3, .int (nI x0))] d_PS_line_34 (by decide) rfl) rfl ?_
  refine EvF.go (go_pick [1, 2, 3, 4, 0] [(0, .ref p), (1, .int (nI i)), (2, .int x), (3, .int (nI x0)), (4, .int (nI x1))] rfl) ?_
  refine EvF.gop 37 (go_iload_n d_PS_line_36 rfl 2 rfl) rfl ?_
  refine EvF.gop 138 (go_tableOut 138 d_PS_line_37 (by rcases hx with q | q; exact Or.inl (show x.toInt < 0 by omega); exact Or.inr (show 5 < x.toInt by omega)) (by decide)) rfl ?_
  refine EvF.gop 139 (go_iconst (v := (-1)) d_PS_line_138 (by decide)) rfl ?_
  exact EvF.ri d_PS_line_139 rfl (rfl) (rfl)
theorem e_PS_character (G : gG) (M : gM) (p lb db : Nat) (l9 : Nat) (dw cl : Int32) (tt : Int64) (bn : Int32) (K E B W ST SH L DD PP X : Nat → Int32) (i x0 x1 e g : Nat) (k : Nat) (tn : Int32) (ct : Nat → Int32) (h0 : gRd M p = some (.inr (10, [.ref (p + 1), .ref (p + 3), .ref (p + 4), .ref (p + 5), .ref (p + 23), .ref (p + 86), .ref lb, .ref db]))) (t1 : gRd M (lb + 1) = some (.inr (3, [.ref (lb + 2), .ref (lb + 3), .int tn]))) (t2 : gRd M (lb + 2) = some (aI G 120 ct)) (hq : StgAt G M (sA lb) dw cl (nI l9) tt bn K E B W ST SH L DD PP X) (hi : i < l9) (hl9 : l9 ≤ 24) (hX0 : X i = nI x0) (hX1 : X (i + 1) = nI x1) (k0 : x0 < 25) (k1 : x1 < 25) (hE : E x1 = nI e) (hB : B x0 = nI g) (he : e < 121) (hg : g < 121) (hge : g ≤ e) (hk : k < 2 ^ 31) : Ev G 4 m_PS_character [.ref p, .int (nI i), .int (nI k)] M (some (.int (coI K ct x1 e g k))) M := by
  have q0 : gRd M lb = some (.inr (8, [.ref (lb + 1), .ref (lb + 4), .ref (lb + 8), .ref (lb + 14), .int dw, .int cl, .ref (lb + 15), .int (nI l9), .long tt])) := hq.1
  have q2 : gRd M (lb + 4) = some (.inr (6, [.ref (lb + 5), .ref (lb + 6), .ref (lb + 7), .int bn])) := hq.2.1
  have q5 : gRd M (lb + 5) = some (aI G 25 K) := hq.2.2.1
  have q15 : gRd M (lb + 15) = some (aI G 25 X) := hq.2.2.2.2.2.2.2.2.2.2.2.2
  refine Ev.of (Nat.le_of_ble_eq_true rfl) ?_
  show EvF G 4 m_PS_character (0, [(0, .ref p), (1, .int (nI i)), (2, .int (nI k))], [], M) _ _
  refine EvF.gop 1 (go_aload_n d_PS_character_0 rfl 0 rfl) rfl ?_
  refine EvF.gop 4 (go_get f_PS_52 d_PS_character_1 (h0) rfl) rfl ?_
  refine EvF.gop 5 (go_iload_n d_PS_character_4 rfl 1 rfl) rfl ?_
  refine EvF.gop 8 (go_callV [.int (nI i)] [.int (bI (decide (0 ≤ nI i) && decide (nI i < nI l9)))] c0_Stg_hasLine im_Stg_hasLine se_Stg_hasLine lk_PS_155 d_PS_character_5 rfl rfl (q0) (e_Stg_hasLine G M (sA lb) dw cl (nI l9) tt bn K E B W ST SH L DD PP X (nI i) hq) (by decide) rfl rfl (Nat.le_of_ble_eq_true rfl) rfl) rfl ?_
  refine EvF.gop 11 (go_if_eq_f 15 d_PS_character_8 (by decide) (by rw [show (decide (0 ≤ nI i) && decide (nI i < nI l9)) = true from by rw [decide_eq_true (nI_pos' (by omega)), decide_eq_true (nI_lt hi (by omega))]; rfl]; decide)) rfl ?_
  refine EvF.gop 12 (go_iload_n d_PS_character_11 rfl 2 rfl) rfl ?_
  refine EvF.gop 17 (go_if_ge_t 17 d_PS_character_12 (by decide) (nI_pos' (by omega))) rfl ?_
  refine EvF.gop 18 (go_aload_n d_PS_character_17 rfl 0 rfl) rfl ?_
  refine EvF.gop 21 (go_get f_PS_52 d_PS_character_18 (h0) rfl) rfl ?_
  refine EvF.gop 22 (go_iload_n d_PS_character_21 rfl 1 rfl) rfl ?_
  refine EvF.gop 23 (go_iload_n d_PS_character_22 rfl 2 rfl) rfl ?_
  refine EvF.gop 26 (go_callV [.int (nI i), .int (nI k)] [.int (coI K ct x1 e g k)] c0_Stg_codeAt im_Stg_codeAt se_Stg_codeAt lk_PS_178 d_PS_character_23 rfl rfl (q0) (e_Stg_codeAt G M (sA lb) dw cl (nI l9) tt bn K E B W ST SH L DD PP X i x0 x1 e g k (lb + 2) (lb + 3) tn ct hq (by omega) hX0 hX1 k0 k1 hE hB he hg hge hk t1 t2) (by decide) rfl rfl (Nat.le_of_ble_eq_true rfl) rfl) rfl ?_
  exact EvF.ri d_PS_character_26 rfl (rfl) (rfl)
theorem e_PS_characterN (G : gG) (M : gM) (p lb db : Nat) (l9 : Nat) (dw cl : Int32) (tt : Int64) (bn : Int32) (K E B W ST SH L DD PP X : Nat → Int32) (x y : Int32) (h0 : gRd M p = some (.inr (10, [.ref (p + 1), .ref (p + 3), .ref (p + 4), .ref (p + 5), .ref (p + 23), .ref (p + 86), .ref lb, .ref db]))) (hq : StgAt G M (sA lb) dw cl (nI l9) tt bn K E B W ST SH L DD PP X) (hy : y < 0) : Ev G 4 m_PS_character [.ref p, .int x, .int y] M (some (.int (-1))) M := by
  have q0 : gRd M lb = some (.inr (8, [.ref (lb + 1), .ref (lb + 4), .ref (lb + 8), .ref (lb + 14), .int dw, .int cl, .ref (lb + 15), .int (nI l9), .long tt])) := hq.1
  have q2 : gRd M (lb + 4) = some (.inr (6, [.ref (lb + 5), .ref (lb + 6), .ref (lb + 7), .int bn])) := hq.2.1
  have q5 : gRd M (lb + 5) = some (aI G 25 K) := hq.2.2.1
  have q15 : gRd M (lb + 15) = some (aI G 25 X) := hq.2.2.2.2.2.2.2.2.2.2.2.2
  refine Ev.of (Nat.le_of_ble_eq_true rfl) ?_
  show EvF G 4 m_PS_character (0, [(0, .ref p), (1, .int x), (2, .int y)], [], M) _ _
  refine EvF.gop 1 (go_aload_n d_PS_character_0 rfl 0 rfl) rfl ?_
  refine EvF.gop 4 (go_get f_PS_52 d_PS_character_1 (h0) rfl) rfl ?_
  refine EvF.gop 5 (go_iload_n d_PS_character_4 rfl 1 rfl) rfl ?_
  refine EvF.gop 8 (go_callV [.int x] [.int (bI (decide (0 ≤ x) && decide (x < nI l9)))] c0_Stg_hasLine im_Stg_hasLine se_Stg_hasLine lk_PS_155 d_PS_character_5 rfl rfl (q0) (e_Stg_hasLine G M (sA lb) dw cl (nI l9) tt bn K E B W ST SH L DD PP X x hq) (by decide) rfl rfl (Nat.le_of_ble_eq_true rfl) rfl) rfl ?_
  by_cases c1 : (bI (decide (0 ≤ x) && decide (x < nI l9))) = 0
  · have c1x : (decide (0 ≤ x) && decide (x < nI l9)) = false := bI_0.mp c1
    refine EvF.gop 15 (go_if_eq_t 15 d_PS_character_8 (by decide) (c1)) rfl ?_
    refine EvF.gop 16 (go_iconst (v := (-1)) d_PS_character_15 (by decide)) rfl ?_
    exact EvF.ri d_PS_character_16 rfl (rfl) (rfl)
  · have c1x : (decide (0 ≤ x) && decide (x < nI l9)) = true := bI_n0.mp c1
    refine EvF.gop 11 (go_if_eq_f 15 d_PS_character_8 (by decide) (c1)) rfl ?_
    refine EvF.gop 12 (go_iload_n d_PS_character_11 rfl 2 rfl) rfl ?_
    refine EvF.gop 15 (go_if_ge_f 17 d_PS_character_12 (by decide) (Int32.not_le.mpr hy)) rfl ?_
    refine EvF.gop 16 (go_iconst (v := (-1)) d_PS_character_15 (by decide)) rfl ?_
    exact EvF.ri d_PS_character_16 rfl (rfl) (rfl)
theorem e_PS_placeN (G : gG) (M : gM) (p lb db : Nat) (l9 : Nat) (dw cl : Int32) (tt : Int64) (bn : Int32) (K E B W ST SH L DD PP X : Nat → Int32) (x y : Int32) (h0 : gRd M p = some (.inr (10, [.ref (p + 1), .ref (p + 3), .ref (p + 4), .ref (p + 5), .ref (p + 23), .ref (p + 86), .ref lb, .ref db]))) (hq : StgAt G M (sA lb) dw cl (nI l9) tt bn K E B W ST SH L DD PP X) (hy : y < 0) : Ev G 4 m_PS_place [.ref p, .int x, .int y] M (some (.int (-1))) M := by
  have q0 : gRd M lb = some (.inr (8, [.ref (lb + 1), .ref (lb + 4), .ref (lb + 8), .ref (lb + 14), .int dw, .int cl, .ref (lb + 15), .int (nI l9), .long tt])) := hq.1
  have q2 : gRd M (lb + 4) = some (.inr (6, [.ref (lb + 5), .ref (lb + 6), .ref (lb + 7), .int bn])) := hq.2.1
  have q5 : gRd M (lb + 5) = some (aI G 25 K) := hq.2.2.1
  have q15 : gRd M (lb + 15) = some (aI G 25 X) := hq.2.2.2.2.2.2.2.2.2.2.2.2
  refine Ev.of (Nat.le_of_ble_eq_true rfl) ?_
  show EvF G 4 m_PS_place (0, [(0, .ref p), (1, .int x), (2, .int y)], [], M) _ _
  refine EvF.gop 1 (go_aload_n d_PS_place_0 rfl 0 rfl) rfl ?_
  refine EvF.gop 4 (go_get f_PS_52 d_PS_place_1 (h0) rfl) rfl ?_
  refine EvF.gop 5 (go_iload_n d_PS_place_4 rfl 1 rfl) rfl ?_
  refine EvF.gop 8 (go_callV [.int x] [.int (bI (decide (0 ≤ x) && decide (x < nI l9)))] c0_Stg_hasLine im_Stg_hasLine se_Stg_hasLine lk_PS_155 d_PS_place_5 rfl rfl (q0) (e_Stg_hasLine G M (sA lb) dw cl (nI l9) tt bn K E B W ST SH L DD PP X x hq) (by decide) rfl rfl (Nat.le_of_ble_eq_true rfl) rfl) rfl ?_
  by_cases c1 : (bI (decide (0 ≤ x) && decide (x < nI l9))) = 0
  · have c1x : (decide (0 ≤ x) && decide (x < nI l9)) = false := bI_0.mp c1
    refine EvF.gop 27 (go_if_eq_t 27 d_PS_place_8 (by decide) (c1)) rfl ?_
    refine EvF.gop 28 (go_iconst (v := (-1)) d_PS_place_27 (by decide)) rfl ?_
    exact EvF.ri d_PS_place_28 rfl (rfl) (rfl)
  · have c1x : (decide (0 ≤ x) && decide (x < nI l9)) = true := bI_n0.mp c1
    refine EvF.gop 11 (go_if_eq_f 27 d_PS_place_8 (by decide) (c1)) rfl ?_
    refine EvF.gop 12 (go_iload_n d_PS_place_11 rfl 2 rfl) rfl ?_
    refine EvF.gop 27 (go_if_lt_t 27 d_PS_place_12 (by decide) (hy)) rfl ?_
    refine EvF.gop 28 (go_iconst (v := (-1)) d_PS_place_27 (by decide)) rfl ?_
    exact EvF.ri d_PS_place_28 rfl (rfl) (rfl)
theorem e_PS_place (G : gG) (M : gM) (p lb db : Nat) (l9 : Nat) (dw cl : Int32) (tt : Int64) (bn : Int32) (K E B W ST SH L DD PP X : Nat → Int32) (i x0 x1 e g : Nat) (k : Nat) (h0 : gRd M p = some (.inr (10, [.ref (p + 1), .ref (p + 3), .ref (p + 4), .ref (p + 5), .ref (p + 23), .ref (p + 86), .ref lb, .ref db]))) (hq : StgAt G M (sA lb) dw cl (nI l9) tt bn K E B W ST SH L DD PP X) (hi : i < l9) (hl9 : l9 ≤ 24) (hX0 : X i = nI x0) (hX1 : X (i + 1) = nI x1) (k0 : x0 < 25) (k1 : x1 < 25) (hE : E x1 = nI e) (hB : B x0 = nI g) (he : e < 121) (hg : g < 121) (hge : g ≤ e) (hk : k < lenN K x1 e g) : Ev G 4 m_PS_place [.ref p, .int (nI i), .int (nI k)] M (some (.int (plI W ST SH K PP dw x1 e g k))) M := by
  have q0 : gRd M lb = some (.inr (8, [.ref (lb + 1), .ref (lb + 4), .ref (lb + 8), .ref (lb + 14), .int dw, .int cl, .ref (lb + 15), .int (nI l9), .long tt])) := hq.1
  have q2 : gRd M (lb + 4) = some (.inr (6, [.ref (lb + 5), .ref (lb + 6), .ref (lb + 7), .int bn])) := hq.2.1
  have q5 : gRd M (lb + 5) = some (aI G 25 K) := hq.2.2.1
  have q15 : gRd M (lb + 15) = some (aI G 25 X) := hq.2.2.2.2.2.2.2.2.2.2.2.2
  have hle9 := lenN_le K x1 e g
  refine Ev.of (Nat.le_of_ble_eq_true rfl) ?_
  show EvF G 4 m_PS_place (0, [(0, .ref p), (1, .int (nI i)), (2, .int (nI k))], [], M) _ _
  refine EvF.gop 1 (go_aload_n d_PS_place_0 rfl 0 rfl) rfl ?_
  refine EvF.gop 4 (go_get f_PS_52 d_PS_place_1 (h0) rfl) rfl ?_
  refine EvF.gop 5 (go_iload_n d_PS_place_4 rfl 1 rfl) rfl ?_
  refine EvF.gop 8 (go_callV [.int (nI i)] [.int (bI (decide (0 ≤ nI i) && decide (nI i < nI l9)))] c0_Stg_hasLine im_Stg_hasLine se_Stg_hasLine lk_PS_155 d_PS_place_5 rfl rfl (q0) (e_Stg_hasLine G M (sA lb) dw cl (nI l9) tt bn K E B W ST SH L DD PP X (nI i) hq) (by decide) rfl rfl (Nat.le_of_ble_eq_true rfl) rfl) rfl ?_
  refine EvF.gop 11 (go_if_eq_f 27 d_PS_place_8 (by decide) (by rw [show (decide (0 ≤ nI i) && decide (nI i < nI l9)) = true from by rw [decide_eq_true (nI_pos' (by omega)), decide_eq_true (nI_lt hi (by omega))]; rfl]; decide)) rfl ?_
  refine EvF.gop 12 (go_iload_n d_PS_place_11 rfl 2 rfl) rfl ?_
  refine EvF.gop 15 (go_if_lt_f 27 d_PS_place_12 (by decide) (nI_pos (by omega))) rfl ?_
  refine EvF.gop 16 (go_iload_n d_PS_place_15 rfl 2 rfl) rfl ?_
  refine EvF.gop 17 (go_aload_n d_PS_place_16 rfl 0 rfl) rfl ?_
  refine EvF.gop 20 (go_get f_PS_52 d_PS_place_17 (h0) rfl) rfl ?_
  refine EvF.gop 21 (go_iload_n d_PS_place_20 rfl 1 rfl) rfl ?_
  refine EvF.gop 24 (go_callV [.int (nI i)] [.int (nI (lenN K x1 e g)), .int (nI k)] c0_Stg_length im_Stg_length se_Stg_length lk_PS_181 d_PS_place_21 rfl rfl (q0) (e_Stg_length G M (sA lb) dw cl (nI l9) tt bn K E B W ST SH L DD PP X i x0 x1 e g hq (by omega) hX0 hX1 k0 k1 hE hB he hg hge) (by decide) rfl rfl (Nat.le_of_ble_eq_true rfl) rfl) rfl ?_
  refine EvF.gop 29 (go_icmp_lt_t 29 d_PS_place_24 (by decide) (nI_lt hk (by have := lenN_le K x1 e g; omega))) rfl ?_
  refine EvF.gop 30 (go_aload_n d_PS_place_29 rfl 0 rfl) rfl ?_
  refine EvF.gop 33 (go_get f_PS_52 d_PS_place_30 (h0) rfl) rfl ?_
  refine EvF.gop 34 (go_iload_n d_PS_place_33 rfl 1 rfl) rfl ?_
  refine EvF.gop 35 (go_iload_n d_PS_place_34 rfl 2 rfl) rfl ?_
  refine EvF.gop 38 (go_callV [.int (nI i), .int (nI k)] [.int (plI W ST SH K PP dw x1 e g k)] c0_Stg_placeOf im_Stg_placeOf se_Stg_placeOf lk_PS_184 d_PS_place_35 rfl rfl (q0) (e_Stg_placeOf G M (sA lb) dw cl (nI l9) tt bn K E B W ST SH L DD PP X i x0 x1 e g k hq (by omega) hX0 hX1 k0 k1 hE hB he hg hge (by have := lenN_le2 K x1 e g; omega)) (by decide) rfl rfl (Nat.le_of_ble_eq_true rfl) rfl) rfl ?_
  exact EvF.ri d_PS_place_38 rfl (rfl) (rfl)
theorem e_PS_placeL (G : gG) (M : gM) (p lb db : Nat) (l9 : Nat) (dw cl : Int32) (tt : Int64) (bn : Int32) (K E B W ST SH L DD PP X : Nat → Int32) (i x0 x1 e g : Nat) (k : Nat) (h0 : gRd M p = some (.inr (10, [.ref (p + 1), .ref (p + 3), .ref (p + 4), .ref (p + 5), .ref (p + 23), .ref (p + 86), .ref lb, .ref db]))) (hq : StgAt G M (sA lb) dw cl (nI l9) tt bn K E B W ST SH L DD PP X) (hi : i < l9) (hl9 : l9 ≤ 24) (hX0 : X i = nI x0) (hX1 : X (i + 1) = nI x1) (k0 : x0 < 25) (k1 : x1 < 25) (hE : E x1 = nI e) (hB : B x0 = nI g) (he : e < 121) (hg : g < 121) (hge : g ≤ e) (hk : lenN K x1 e g ≤ k) (hk2 : k < 2 ^ 31) : Ev G 4 m_PS_place [.ref p, .int (nI i), .int (nI k)] M (some (.int (-1))) M := by
  have q0 : gRd M lb = some (.inr (8, [.ref (lb + 1), .ref (lb + 4), .ref (lb + 8), .ref (lb + 14), .int dw, .int cl, .ref (lb + 15), .int (nI l9), .long tt])) := hq.1
  have q2 : gRd M (lb + 4) = some (.inr (6, [.ref (lb + 5), .ref (lb + 6), .ref (lb + 7), .int bn])) := hq.2.1
  have q5 : gRd M (lb + 5) = some (aI G 25 K) := hq.2.2.1
  have q15 : gRd M (lb + 15) = some (aI G 25 X) := hq.2.2.2.2.2.2.2.2.2.2.2.2
  refine Ev.of (Nat.le_of_ble_eq_true rfl) ?_
  show EvF G 4 m_PS_place (0, [(0, .ref p), (1, .int (nI i)), (2, .int (nI k))], [], M) _ _
  refine EvF.gop 1 (go_aload_n d_PS_place_0 rfl 0 rfl) rfl ?_
  refine EvF.gop 4 (go_get f_PS_52 d_PS_place_1 (h0) rfl) rfl ?_
  refine EvF.gop 5 (go_iload_n d_PS_place_4 rfl 1 rfl) rfl ?_
  refine EvF.gop 8 (go_callV [.int (nI i)] [.int (bI (decide (0 ≤ nI i) && decide (nI i < nI l9)))] c0_Stg_hasLine im_Stg_hasLine se_Stg_hasLine lk_PS_155 d_PS_place_5 rfl rfl (q0) (e_Stg_hasLine G M (sA lb) dw cl (nI l9) tt bn K E B W ST SH L DD PP X (nI i) hq) (by decide) rfl rfl (Nat.le_of_ble_eq_true rfl) rfl) rfl ?_
  refine EvF.gop 11 (go_if_eq_f 27 d_PS_place_8 (by decide) (by rw [show (decide (0 ≤ nI i) && decide (nI i < nI l9)) = true from by rw [decide_eq_true (nI_pos' (by omega)), decide_eq_true (nI_lt hi (by omega))]; rfl]; decide)) rfl ?_
  refine EvF.gop 12 (go_iload_n d_PS_place_11 rfl 2 rfl) rfl ?_
  refine EvF.gop 15 (go_if_lt_f 27 d_PS_place_12 (by decide) (nI_pos (by omega))) rfl ?_
  refine EvF.gop 16 (go_iload_n d_PS_place_15 rfl 2 rfl) rfl ?_
  refine EvF.gop 17 (go_aload_n d_PS_place_16 rfl 0 rfl) rfl ?_
  refine EvF.gop 20 (go_get f_PS_52 d_PS_place_17 (h0) rfl) rfl ?_
  refine EvF.gop 21 (go_iload_n d_PS_place_20 rfl 1 rfl) rfl ?_
  refine EvF.gop 24 (go_callV [.int (nI i)] [.int (nI (lenN K x1 e g)), .int (nI k)] c0_Stg_length im_Stg_length se_Stg_length lk_PS_181 d_PS_place_21 rfl rfl (q0) (e_Stg_length G M (sA lb) dw cl (nI l9) tt bn K E B W ST SH L DD PP X i x0 x1 e g hq (by omega) hX0 hX1 k0 k1 hE hB he hg hge) (by decide) rfl rfl (Nat.le_of_ble_eq_true rfl) rfl) rfl ?_
  refine EvF.gop 27 (go_icmp_lt_f 29 d_PS_place_24 (by decide) (nI_nlt hk (by omega))) rfl ?_
  refine EvF.gop 28 (go_iconst (v := (-1)) d_PS_place_27 (by decide)) rfl ?_
  exact EvF.ri d_PS_place_28 rfl (rfl) (rfl)
