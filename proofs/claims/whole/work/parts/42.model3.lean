abbrev mT : Type := Int32 × Nat × Nat × (Nat → Int32) × Nat × (Nat → Int32) × (Nat → Int32)
def mc2 (bd : Nat → Int32) (bn n cl : Nat) (l : Nat → Int32) (gn : Nat) (g rr : Nat → Int32) : mT :=
  if exL bd gn bn + n ≤ 200 then (0, n + (piF bd gn g 0 l bn).1, cl, wrB (piF bd gn g 0 l bn).2 (piF bd gn g 0 l bn).1 (cpI l n rr) n, gn, g, cpI l n rr) else (-4, n, cl, l, gn, g, rr)
/-- a call of a macro with the body bd of bn characters, as the model does it: answer, list length, calls, list, argument, rest -/
def mcF (bd : Nat → Int32) (bn n cl : Nat) (l : Nat → Int32) (gn : Nat) (g rr : Nat → Int32) : mT :=
  if cl = 40 then (-4, n, cl, l, gn, g, rr) else if cntI bd 35 bn ≤ 0 then mc2 bd bn n (cl + 1) l gn g rr
  else if (maF n l g).1 = true then mc2 bd bn (maF n l g).2.1 (cl + 1) (maF n l g).2.2.1 (maF n l g).2.2.2.1 (maF n l g).2.2.2.2 rr
  else (-3, (maF n l g).2.1, cl + 1, (maF n l g).2.2.1, (maF n l g).2.2.2.1, (maF n l g).2.2.2.2, rr)
theorem g_Mod_call1 (G : gG) (M : gM) (A : Nat) (a : Nat → Nat) (s : Nat → Int32) (c : Int64) (bo bl : Nat → Int32) (m bn n gn cl : Nat) (l g rr : Nat → Int32) (hI : InjA A a) (m4 : gRd M (a 4) = some (aI G 96 bo)) (m5 : gRd M (a 5) = some (aI G 4 bl)) (hm : m < 4) (hb : bl m = nI bn) (hbn : bn ≤ 24) : ∀ r k : Nat, k + r = bn → Go G m_Mod_call 2 (46, [(0, .ref A), (1, .int (nI m)), (2, .int (nI (cntI (fun i => bo (m * 24 + i)) 35 k))), (3, .int (nI bn)), (4, .int (nI k))], [], (gWr (gWr (gWr (gWr M A (.inr (11, oMod a (upd (upd (upd s 14 (nI n)) 15 (nI gn)) 16 (nI cl)) c))) (a 10) (aI G 200 l)) (a 12) (aI G 200 g)) (a 11) (aI G 200 rr))) (78, [(0, .ref A), (1, .int (nI m)), (2, .int (nI (cntI (fun i => bo (m * 24 + i)) 35 bn))), (3, .int (nI bn)), (4, .int (nI bn))], [], (gWr (gWr (gWr (gWr M A (.inr (11, oMod a (upd (upd (upd s 14 (nI n)) 15 (nI gn)) 16 (nI cl)) c))) (a 10) (aI G 200 l)) (a 12) (aI G 200 g)) (a 11) (aI G 200 rr))) := by
  intro r
  induction r with
  | zero =>
    intro k hk
    rw [show k = bn from by omega]
    refine Go.trp 48 (go_iload d_Mod_call_46 4 rfl) rfl ?_
    refine Go.trp 49 (go_iload_n d_Mod_call_48 rfl 3 rfl) rfl ?_
    refine Go.trp 78 (go_icmp_ge_t 78 d_Mod_call_49 (by decide) (nI_le (Nat.le_refl bn) (by omega))) rfl ?_
    exact Go.rf
  | succ r ih =>
    intro k hk
    have ih9 := ih (k + 1) (by omega)
    refine Go.trp 48 (go_iload d_Mod_call_46 4 rfl) rfl ?_
    refine Go.trp 49 (go_iload_n d_Mod_call_48 rfl 3 rfl) rfl ?_
    refine Go.trp 52 (go_icmp_ge_f 78 d_Mod_call_49 (by decide) (nI_ge (by omega) (by omega))) rfl ?_
    refine Go.trp 53 (go_aload_n d_Mod_call_52 rfl 0 rfl) rfl ?_
    refine Go.trp 56 (go_get f_Mod_19 d_Mod_call_53 ((gRd_n _ _ (hI.2 11)).trans ((gRd_n _ _ (hI.2 12)).trans ((gRd_n _ _ (hI.2 10)).trans (gRd_s _ _ _)))) rfl) rfl ?_
    refine Go.trp 57 (go_iload_n d_Mod_call_56 rfl 1 rfl) rfl ?_
    refine Go.trp 59 (go_bipush (v := 24) d_Mod_call_57 (by decide)) rfl ?_
    refine Go.trp 60 (go_imul d_Mod_call_59) rfl ?_
    refine (go_v (y := nI (m * 24)) (pk_mul m 24)).tr ?_
    refine Go.trp 62 (go_iload d_Mod_call_60 4 rfl) rfl ?_
    refine Go.trp 63 (go_iadd d_Mod_call_62) rfl ?_
    refine (go_v (y := nI (m * 24 + k)) (nI_add _ _)).tr ?_
    refine Go.trp 64 (go_iald (j := (m * 24 + k)) d_Mod_call_63 ((gRd_n _ _ (hI.n (i := 4) (j := 11) (by decide))).trans ((gRd_n _ _ (hI.n (i := 4) (j := 12) (by decide))).trans ((gRd_n _ _ (hI.n (i := 4) (j := 10) (by decide))).trans ((gRd_n _ _ (Ne.symm (hI.2 4))).trans (m4))))) (rfl) (by omega) (by omega)) rfl ?_
    refine Go.trp 66 (go_bipush (v := 35) d_Mod_call_64 (by decide)) rfl ?_
    by_cases c1 : (bo (m * 24 + k)) = 35
    · refine Go.trp 69 (go_icmp_ne_f 72 d_Mod_call_66 (by decide) (c1)) rfl ?_
      refine Go.trp 72 (go_inc1 (n0 := 2) (x := (cntI (fun i => bo (m * 24 + i)) 35 k)) [(2, .int (nI ((cntI (fun i => bo (m * 24 + i)) 35 k) + 1))), (0, .ref A), (1, .int (nI m)), (3, .int (nI bn)), (4, .int (nI k))] d_Mod_call_69 rfl (by decide) rfl) rfl ?_
      refine (go_pick [1, 2, 0, 3, 4] [(0, .ref A), (1, .int (nI m)), (2, .int (nI ((cntI (fun i => bo (m * 24 + i)) 35 k) + 1))), (3, .int (nI bn)), (4, .int (nI k))] rfl).tr ?_
      refine Go.trp 75 (go_inc1 (n0 := 4) (x := k) [(4, .int (nI (k + 1))), (0, .ref A), (1, .int (nI m)), (2, .int (nI ((cntI (fun i => bo (m * 24 + i)) 35 k) + 1))), (3, .int (nI bn))] d_Mod_call_72 rfl (by decide) rfl) rfl ?_
      refine (go_pick [1, 2, 3, 4, 0] [(0, .ref A), (1, .int (nI m)), (2, .int (nI ((cntI (fun i => bo (m * 24 + i)) 35 k) + 1))), (3, .int (nI bn)), (4, .int (nI (k + 1)))] rfl).tr ?_
      refine Go.trp 46 (go_goto 46 d_Mod_call_75 (by decide)) rfl ?_
      rw [show cntI (fun i => bo (m * 24 + i)) 35 (k + 1) = cntI (fun i => bo (m * 24 + i)) 35 k + 1 from by rw [cntI, if_pos (by assumption)]] at ih9
      exact ih9
    · refine Go.trp 72 (go_icmp_ne_t 72 d_Mod_call_66 (by decide) (c1)) rfl ?_
      refine Go.trp 75 (go_inc1 (n0 := 4) (x := k) [(4, .int (nI (k + 1))), (0, .ref A), (1, .int (nI m)), (2, .int (nI (cntI (fun i => bo (m * 24 + i)) 35 k))), (3, .int (nI bn))] d_Mod_call_72 rfl (by decide) rfl) rfl ?_
      refine (go_pick [1, 2, 3, 4, 0] [(0, .ref A), (1, .int (nI m)), (2, .int (nI (cntI (fun i => bo (m * 24 + i)) 35 k))), (3, .int (nI bn)), (4, .int (nI (k + 1)))] rfl).tr ?_
      refine Go.trp 46 (go_goto 46 d_Mod_call_75 (by decide)) rfl ?_
      rw [show cntI (fun i => bo (m * 24 + i)) 35 (k + 1) = cntI (fun i => bo (m * 24 + i)) 35 k from by rw [cntI, if_neg (by assumption), Nat.add_zero]] at ih9
      exact ih9
theorem g_Mod_call2 (G : gG) (M : gM) (A : Nat) (a : Nat → Nat) (s : Nat → Int32) (c : Int64) (bo bl : Nat → Int32) (m bn n gn cl : Nat) (l g rr : Nat → Int32) (hI : InjA A a) (m4 : gRd M (a 4) = some (aI G 96 bo)) (m5 : gRd M (a 5) = some (aI G 4 bl)) (hm : m < 4) (hb : bl m = nI bn) (hbn : bn ≤ 24) (hn : n ≤ 200) : ∀ r k : Nat, k + r = n → Go G m_Mod_call 2 (125, [(0, .ref A), (1, .int (nI m)), (4, .int (nI k))], [], (gWr (gWr (gWr (gWr M A (.inr (11, oMod a (upd (upd (upd s 14 (nI n)) 15 (nI gn)) 16 (nI cl)) c))) (a 10) (aI G 200 l)) (a 12) (aI G 200 g)) (a 11) (aI G 200 (cpI l k rr)))) (154, [(0, .ref A), (1, .int (nI m)), (4, .int (nI n))], [], (gWr (gWr (gWr (gWr M A (.inr (11, oMod a (upd (upd (upd s 14 (nI n)) 15 (nI gn)) 16 (nI cl)) c))) (a 10) (aI G 200 l)) (a 12) (aI G 200 g)) (a 11) (aI G 200 (cpI l n rr)))) := by
  intro r
  induction r with
  | zero =>
    intro k hk
    rw [show k = n from by omega]
    refine Go.trp 127 (go_iload d_Mod_call_125 2 rfl) rfl ?_
    refine Go.trp 128 (go_aload_n d_Mod_call_127 rfl 0 rfl) rfl ?_
    refine Go.trp 131 (go_get f_Mod_125 d_Mod_call_128 ((gRd_n _ _ (hI.2 11)).trans ((gRd_n _ _ (hI.2 12)).trans ((gRd_n _ _ (hI.2 10)).trans (gRd_s _ _ _)))) rfl) rfl ?_
    refine Go.trp 154 (go_icmp_ge_t 154 d_Mod_call_131 (by decide) (nI_le (Nat.le_refl n) (by omega))) rfl ?_
    exact Go.rf
  | succ r ih =>
    intro k hk
    refine Go.trp 127 (go_iload d_Mod_call_125 2 rfl) rfl ?_
    refine Go.trp 128 (go_aload_n d_Mod_call_127 rfl 0 rfl) rfl ?_
    refine Go.trp 131 (go_get f_Mod_125 d_Mod_call_128 ((gRd_n _ _ (hI.2 11)).trans ((gRd_n _ _ (hI.2 12)).trans ((gRd_n _ _ (hI.2 10)).trans (gRd_s _ _ _)))) rfl) rfl ?_
    refine Go.trp 134 (go_icmp_ge_f 154 d_Mod_call_131 (by decide) (nI_ge (by omega) (by omega))) rfl ?_
    refine Go.trp 135 (go_aload_n d_Mod_call_134 rfl 0 rfl) rfl ?_
    refine Go.trp 138 (go_get f_Mod_37 d_Mod_call_135 ((gRd_n _ _ (hI.2 11)).trans ((gRd_n _ _ (hI.2 12)).trans ((gRd_n _ _ (hI.2 10)).trans (gRd_s _ _ _)))) rfl) rfl ?_
    refine Go.trp 140 (go_iload d_Mod_call_138 2 rfl) rfl ?_
    refine Go.trp 141 (go_aload_n d_Mod_call_140 rfl 0 rfl) rfl ?_
    refine Go.trp 144 (go_get f_Mod_34 d_Mod_call_141 ((gRd_n _ _ (hI.2 11)).trans ((gRd_n _ _ (hI.2 12)).trans ((gRd_n _ _ (hI.2 10)).trans (gRd_s _ _ _)))) rfl) rfl ?_
    refine Go.trp 146 (go_iload d_Mod_call_144 2 rfl) rfl ?_
    refine Go.trp 147 (go_iald (j := k) d_Mod_call_146 ((gRd_n _ _ (hI.n (i := 10) (j := 11) (by decide))).trans ((gRd_n _ _ (hI.n (i := 10) (j := 12) (by decide))).trans (gRd_s _ _ _))) (rfl) (by omega) (by omega)) rfl ?_
    refine Go.trp 148 (go_iast (j := k) d_Mod_call_147 (gRd_s _ _ _) (rfl) (by omega) (by omega)) rfl ?_
    refine (go_m (M' := (gWr (gWr (gWr (gWr M A (.inr (11, oMod a (upd (upd (upd s 14 (nI n)) 15 (nI gn)) 16 (nI cl)) c))) (a 10) (aI G 200 l)) (a 12) (aI G 200 g)) (a 11) (aI G 200 (upd (cpI l k rr) k (l k))))) (gWr_wr (gWr (gWr (gWr M A (.inr (11, oMod a (upd (upd (upd s 14 (nI n)) 15 (nI gn)) 16 (nI cl)) c))) (a 10) (aI G 200 l)) (a 12) (aI G 200 g)) (a 11) (aI G 200 (cpI l k rr)) (aI G 200 (upd (cpI l k rr) k (l k))))).tr ?_
    refine Go.trp 151 (go_inc1 (n0 := 2) (x := k) [(4, .int (nI (k + 1))), (0, .ref A), (1, .int (nI m))] d_Mod_call_148 rfl (by decide) rfl) rfl ?_
    refine (go_pick [1, 2, 0] [(0, .ref A), (1, .int (nI m)), (4, .int (nI (k + 1)))] rfl).tr ?_
    refine Go.trp 125 (go_goto 125 d_Mod_call_151 (by decide)) rfl ?_
    rw [cpI_s]
    exact ih (k + 1) (by omega)
theorem g_Mod_call3 (G : gG) (M : gM) (A : Nat) (a : Nat → Nat) (s : Nat → Int32) (c : Int64) (bo bl : Nat → Int32) (m bn n gn cl : Nat) (l g rr : Nat → Int32) (q : Nat) (x5 : Int32) (hI : InjA A a) (m4 : gRd M (a 4) = some (aI G 96 bo)) (m5 : gRd M (a 5) = some (aI G 4 bl)) (hm : m < 4) (hb : bl m = nI bn) (hbn : bn ≤ 24) (hq : q + gn ≤ 200) : ∀ r k : Nat, k + r = gn → Go G m_Mod_call 2 (188, [(0, .ref A), (1, .int (nI m)), (4, .int (nI (q + k))), (5, .int x5), (6, .int 35), (7, .int (nI k))], [], (gWr (gWr (gWr (gWr M A (.inr (11, oMod a (upd (upd (upd s 14 (nI n)) 15 (nI gn)) 16 (nI cl)) c))) (a 10) (aI G 200 (wrB l q g k))) (a 12) (aI G 200 g)) (a 11) (aI G 200 rr))) (227, [(0, .ref A), (1, .int (nI m)), (4, .int (nI (q + gn))), (5, .int x5), (6, .int 35), (7, .int (nI gn))], [], (gWr (gWr (gWr (gWr M A (.inr (11, oMod a (upd (upd (upd s 14 (nI n)) 15 (nI gn)) 16 (nI cl)) c))) (a 10) (aI G 200 (wrB l q g gn))) (a 12) (aI G 200 g)) (a 11) (aI G 200 rr))) := by
  intro r
  induction r with
  | zero =>
    intro k hk
    rw [show k = gn from by omega]
    refine Go.trp 190 (go_iload d_Mod_call_188 4 rfl) rfl ?_
    refine Go.trp 192 (go_bipush (v := 35) d_Mod_call_190 (by decide)) rfl ?_
    refine Go.trp 195 (go_icmp_ne_f 227 d_Mod_call_192 (by decide) (rfl)) rfl ?_
    refine Go.trp 197 (go_iload d_Mod_call_195 5 rfl) rfl ?_
    refine Go.trp 198 (go_aload_n d_Mod_call_197 rfl 0 rfl) rfl ?_
    refine Go.trp 201 (go_get f_Mod_128 d_Mod_call_198 ((gRd_n _ _ (hI.2 11)).trans ((gRd_n _ _ (hI.2 12)).trans ((gRd_n _ _ (hI.2 10)).trans (gRd_s _ _ _)))) rfl) rfl ?_
    refine Go.trp 227 (go_icmp_ge_t 227 d_Mod_call_201 (by decide) (nI_le (Nat.le_refl gn) (by omega))) rfl ?_
    exact Go.rf
  | succ r ih =>
    intro k hk
    refine Go.trp 190 (go_iload d_Mod_call_188 4 rfl) rfl ?_
    refine Go.trp 192 (go_bipush (v := 35) d_Mod_call_190 (by decide)) rfl ?_
    refine Go.trp 195 (go_icmp_ne_f 227 d_Mod_call_192 (by decide) (rfl)) rfl ?_
    refine Go.trp 197 (go_iload d_Mod_call_195 5 rfl) rfl ?_
    refine Go.trp 198 (go_aload_n d_Mod_call_197 rfl 0 rfl) rfl ?_
    refine Go.trp 201 (go_get f_Mod_128 d_Mod_call_198 ((gRd_n _ _ (hI.2 11)).trans ((gRd_n _ _ (hI.2 12)).trans ((gRd_n _ _ (hI.2 10)).trans (gRd_s _ _ _)))) rfl) rfl ?_
    refine Go.trp 204 (go_icmp_ge_f 227 d_Mod_call_201 (by decide) (nI_ge (by omega) (by omega))) rfl ?_
    refine Go.trp 205 (go_aload_n d_Mod_call_204 rfl 0 rfl) rfl ?_
    refine Go.trp 208 (go_get f_Mod_34 d_Mod_call_205 ((gRd_n _ _ (hI.2 11)).trans ((gRd_n _ _ (hI.2 12)).trans ((gRd_n _ _ (hI.2 10)).trans (gRd_s _ _ _)))) rfl) rfl ?_
    refine Go.trp 210 (go_iload d_Mod_call_208 2 rfl) rfl ?_
    refine Go.trp 211 (go_aload_n d_Mod_call_210 rfl 0 rfl) rfl ?_
    refine Go.trp 214 (go_get f_Mod_40 d_Mod_call_211 ((gRd_n _ _ (hI.2 11)).trans ((gRd_n _ _ (hI.2 12)).trans ((gRd_n _ _ (hI.2 10)).trans (gRd_s _ _ _)))) rfl) rfl ?_
    refine Go.trp 216 (go_iload d_Mod_call_214 5 rfl) rfl ?_
    refine Go.trp 217 (go_iald (j := k) d_Mod_call_216 ((gRd_n _ _ (hI.n (i := 12) (j := 11) (by decide))).trans (gRd_s _ _ _)) (rfl) (by omega) (by omega)) rfl ?_
    refine Go.trp 218 (go_iast (j := (q + k)) d_Mod_call_217 ((gRd_n _ _ (hI.n (i := 10) (j := 11) (by decide))).trans ((gRd_n _ _ (hI.n (i := 10) (j := 12) (by decide))).trans (gRd_s _ _ _))) (rfl) (by omega) (by omega)) rfl ?_
    refine (go_m (M' := (gWr (gWr (gWr (gWr M A (.inr (11, oMod a (upd (upd (upd s 14 (nI n)) 15 (nI gn)) 16 (nI cl)) c))) (a 10) (aI G 200 (upd (wrB l q g k) (q + k) (g k)))) (a 12) (aI G 200 g)) (a 11) (aI G 200 rr))) ((gWr_cm (gWr (gWr (gWr M A (.inr (11, oMod a (upd (upd (upd s 14 (nI n)) 15 (nI gn)) 16 (nI cl)) c))) (a 10) (aI G 200 (wrB l q g k))) (a 12) (aI G 200 g)) (aI G 200 rr) (aI G 200 (upd (wrB l q g k) (q + k) (g k))) (hI.n (i := 11) (j := 10) (by decide))).trans (congrArg (fun mZ => gWr mZ (a 11) (aI G 200 rr)) ((gWr_cm (gWr (gWr M A (.inr (11, oMod a (upd (upd (upd s 14 (nI n)) 15 (nI gn)) 16 (nI cl)) c))) (a 10) (aI G 200 (wrB l q g k))) (aI G 200 g) (aI G 200 (upd (wrB l q g k) (q + k) (g k))) (hI.n (i := 12) (j := 10) (by decide))).trans (congrArg (fun mZ => gWr mZ (a 12) (aI G 200 g)) (gWr_wr (gWr M A (.inr (11, oMod a (upd (upd (upd s 14 (nI n)) 15 (nI gn)) 16 (nI cl)) c))) (a 10) (aI G 200 (wrB l q g k)) (aI G 200 (upd (wrB l q g k) (q + k) (g k))))))))).tr ?_
    refine Go.trp 221 (go_iinc (n0 := 2) (v := nI (q + (k + 1))) [(4, .int (nI (q + (k + 1)))), (0, .ref A), (1, .int (nI m)), (5, .int x5), (6, .int 35), (7, .int (nI k))] d_Mod_call_218 rfl (by rw [ofInt1]; exact nI_1 (q + k)) (by decide) rfl) rfl ?_
    refine (go_pick [1, 2, 0, 3, 4, 5] [(0, .ref A), (1, .int (nI m)), (4, .int (nI (q + (k + 1)))), (5, .int x5), (6, .int 35), (7, .int (nI k))] rfl).tr ?_
    refine Go.trp 224 (go_inc1 (n0 := 5) (x := k) [(7, .int (nI (k + 1))), (0, .ref A), (1, .int (nI m)), (4, .int (nI (q + (k + 1)))), (5, .int x5), (6, .int 35)] d_Mod_call_221 rfl (by decide) rfl) rfl ?_
    refine (go_pick [1, 2, 3, 4, 5, 0] [(0, .ref A), (1, .int (nI m)), (4, .int (nI (q + (k + 1)))), (5, .int x5), (6, .int 35), (7, .int (nI (k + 1)))] rfl).tr ?_
    refine Go.trp 188 (go_goto 188 d_Mod_call_224 (by decide)) rfl ?_
    rw [wrB_s]
    exact ih (k + 1) (by omega)
theorem g_Mod_call4 (G : gG) (M : gM) (A : Nat) (a : Nat → Nat) (s : Nat → Int32) (c : Int64) (bo bl : Nat → Int32) (m bn n gn cl : Nat) (l g rr : Nat → Int32) (hI : InjA A a) (m4 : gRd M (a 4) = some (aI G 96 bo)) (m5 : gRd M (a 5) = some (aI G 4 bl)) (hm : m < 4) (hb : bl m = nI bn) (hbn : bn ≤ 24) (hgn : gn ≤ 200) (hq : exL (fun i => bo (m * 24 + i)) gn bn ≤ 200) : ∀ r k : Nat, k + r = bn → Go G m_Mod_call 2 (160, [(0, .ref A), (1, .int (nI m)), (4, .int (nI (piF (fun i => bo (m * 24 + i)) gn g 0 l k).1)), (5, .int (nI k))], [], (gWr (gWr (gWr (gWr M A (.inr (11, oMod a (upd (upd (upd s 14 (nI n)) 15 (nI gn)) 16 (nI cl)) c))) (a 10) (aI G 200 ((piF (fun i => bo (m * 24 + i)) gn g 0 l k).2))) (a 12) (aI G 200 g)) (a 11) (aI G 200 rr))) (255, [(0, .ref A), (1, .int (nI m)), (4, .int (nI (piF (fun i => bo (m * 24 + i)) gn g 0 l bn).1)), (5, .int (nI bn))], [], (gWr (gWr (gWr (gWr M A (.inr (11, oMod a (upd (upd (upd s 14 (nI n)) 15 (nI gn)) 16 (nI cl)) c))) (a 10) (aI G 200 ((piF (fun i => bo (m * 24 + i)) gn g 0 l bn).2))) (a 12) (aI G 200 g)) (a 11) (aI G 200 rr))) := by
  intro r
  induction r with
  | zero =>
    intro k hk
    rw [show k = bn from by omega]
    refine Go.trp 162 (go_iload d_Mod_call_160 3 rfl) rfl ?_
    refine Go.trp 163 (go_aload_n d_Mod_call_162 rfl 0 rfl) rfl ?_
    refine Go.trp 166 (go_get f_Mod_22 d_Mod_call_163 ((gRd_n _ _ (hI.2 11)).trans ((gRd_n _ _ (hI.2 12)).trans ((gRd_n _ _ (hI.2 10)).trans (gRd_s _ _ _)))) rfl) rfl ?_
    refine Go.trp 167 (go_iload_n d_Mod_call_166 rfl 1 rfl) rfl ?_
    refine Go.trp 168 (go_iald (j := m) d_Mod_call_167 ((gRd_n _ _ (hI.n (i := 5) (j := 11) (by decide))).trans ((gRd_n _ _ (hI.n (i := 5) (j := 12) (by decide))).trans ((gRd_n _ _ (hI.n (i := 5) (j := 10) (by decide))).trans ((gRd_n _ _ (Ne.symm (hI.2 5))).trans (m5))))) (rfl) (by omega) (by omega)) rfl ?_
    refine (go_v (y := nI bn) (hb)).tr ?_
    refine Go.trp 255 (go_icmp_ge_t 255 d_Mod_call_168 (by decide) (nI_le (Nat.le_refl bn) (by omega))) rfl ?_
    exact Go.rf
  | succ r ih =>
    intro k hk
    have e1 := piF_1 (fun i => bo (m * 24 + i)) gn g 0 l k
    have e2 := exL_mono (fun i => bo (m * 24 + i)) gn r (k + 1)
    rw [show k + 1 + r = bn from by omega] at e2
    have e3 : exL (fun i => bo (m * 24 + i)) gn (k + 1) = exL (fun i => bo (m * 24 + i)) gn k + (if bo (m * 24 + k) = 35 then gn else 1) := rfl
    refine Go.trp 162 (go_iload d_Mod_call_160 3 rfl) rfl ?_
    refine Go.trp 163 (go_aload_n d_Mod_call_162 rfl 0 rfl) rfl ?_
    refine Go.trp 166 (go_get f_Mod_22 d_Mod_call_163 ((gRd_n _ _ (hI.2 11)).trans ((gRd_n _ _ (hI.2 12)).trans ((gRd_n _ _ (hI.2 10)).trans (gRd_s _ _ _)))) rfl) rfl ?_
    refine Go.trp 167 (go_iload_n d_Mod_call_166 rfl 1 rfl) rfl ?_
    refine Go.trp 168 (go_iald (j := m) d_Mod_call_167 ((gRd_n _ _ (hI.n (i := 5) (j := 11) (by decide))).trans ((gRd_n _ _ (hI.n (i := 5) (j := 12) (by decide))).trans ((gRd_n _ _ (hI.n (i := 5) (j := 10) (by decide))).trans ((gRd_n _ _ (Ne.symm (hI.2 5))).trans (m5))))) (rfl) (by omega) (by omega)) rfl ?_
    refine (go_v (y := nI bn) (hb)).tr ?_
    refine Go.trp 171 (go_icmp_ge_f 255 d_Mod_call_168 (by decide) (nI_ge (by omega) (by omega))) rfl ?_
    refine Go.trp 172 (go_aload_n d_Mod_call_171 rfl 0 rfl) rfl ?_
    refine Go.trp 175 (go_get f_Mod_19 d_Mod_call_172 ((gRd_n _ _ (hI.2 11)).trans ((gRd_n _ _ (hI.2 12)).trans ((gRd_n _ _ (hI.2 10)).trans (gRd_s _ _ _)))) rfl) rfl ?_
    refine Go.trp 176 (go_iload_n d_Mod_call_175 rfl 1 rfl) rfl ?_
    refine Go.trp 178 (go_bipush (v := 24) d_Mod_call_176 (by decide)) rfl ?_
    refine Go.trp 179 (go_imul d_Mod_call_178) rfl ?_
    refine (go_v (y := nI (m * 24)) (pk_mul m 24)).tr ?_
    refine Go.trp 181 (go_iload d_Mod_call_179 3 rfl) rfl ?_
    refine Go.trp 182 (go_iadd d_Mod_call_181) rfl ?_
    refine (go_v (y := nI (m * 24 + k)) (nI_add _ _)).tr ?_
    refine Go.trp 183 (go_iald (j := (m * 24 + k)) d_Mod_call_182 ((gRd_n _ _ (hI.n (i := 4) (j := 11) (by decide))).trans ((gRd_n _ _ (hI.n (i := 4) (j := 12) (by decide))).trans ((gRd_n _ _ (hI.n (i := 4) (j := 10) (by decide))).trans ((gRd_n _ _ (Ne.symm (hI.2 4))).trans (m4))))) (rfl) (by omega) (by omega)) rfl ?_
    refine Go.trp 185 (go_istore [(6, .int (bo (m * 24 + k))), (0, .ref A), (1, .int (nI m)), (4, .int (nI (piF (fun i => bo (m * 24 + i)) gn g 0 l k).1)), (5, .int (nI k))] d_Mod_call_183 (by decide) rfl) rfl ?_
    refine (go_pick [1, 2, 3, 4, 0] [(0, .ref A), (1, .int (nI m)), (4, .int (nI (piF (fun i => bo (m * 24 + i)) gn g 0 l k).1)), (5, .int (nI k)), (6, .int (bo (m * 24 + k)))] rfl).tr ?_
    refine Go.trp 186 (go_iconst (v := nI 0) d_Mod_call_185 (rfl)) rfl ?_
    refine Go.trp 188 (go_istore [(7, .int (nI 0)), (0, .ref A), (1, .int (nI m)), (4, .int (nI (piF (fun i => bo (m * 24 + i)) gn g 0 l k).1)), (5, .int (nI k)), (6, .int (bo (m * 24 + k)))] d_Mod_call_186 (by decide) rfl) rfl ?_
    refine (go_pick [1, 2, 3, 4, 5, 0] [(0, .ref A), (1, .int (nI m)), (4, .int (nI (piF (fun i => bo (m * 24 + i)) gn g 0 l k).1)), (5, .int (nI k)), (6, .int (bo (m * 24 + k))), (7, .int (nI 0))] rfl).tr ?_
    by_cases c1 : bo (m * 24 + k) = 35
    · rw [c1]
      refine (go_m (M' := (gWr (gWr (gWr (gWr M A (.inr (11, oMod a (upd (upd (upd s 14 (nI n)) 15 (nI gn)) 16 (nI cl)) c))) (a 10) (aI G 200 (wrB (piF (fun i => bo (m * 24 + i)) gn g 0 l k).2 (piF (fun i => bo (m * 24 + i)) gn g 0 l k).1 g 0))) (a 12) (aI G 200 g)) (a 11) (aI G 200 rr))) (by rw [wrB_0])).tr ?_
      refine (g_Mod_call3 G M A a s c bo bl m bn n gn cl (piF (fun i => bo (m * 24 + i)) gn g 0 l k).2 g rr (piF (fun i => bo (m * 24 + i)) gn g 0 l k).1 (nI k) hI m4 m5 hm hb hbn (by rw [if_pos c1] at e3; omega) gn 0 (by omega)).tr ?_
      refine Go.trp 229 (go_iload d_Mod_call_227 4 rfl) rfl ?_
      refine Go.trp 231 (go_bipush (v := 35) d_Mod_call_229 (by decide)) rfl ?_
      refine Go.trp 234 (go_icmp_ne_f 237 d_Mod_call_231 (by decide) (rfl)) rfl ?_
      refine Go.trp 249 (go_goto 249 d_Mod_call_234 (by decide)) rfl ?_
      refine Go.trp 252 (go_inc1 (n0 := 3) (x := k) [(5, .int (nI (k + 1))), (0, .ref A), (1, .int (nI m)), (4, .int (nI ((piF (fun i => bo (m * 24 + i)) gn g 0 l k).1 + gn))), (6, .int 35), (7, .int (nI gn))] d_Mod_call_249 rfl (by decide) rfl) rfl ?_
      refine (go_pick [1, 2, 3, 0, 4, 5] [(0, .ref A), (1, .int (nI m)), (4, .int (nI ((piF (fun i => bo (m * 24 + i)) gn g 0 l k).1 + gn))), (5, .int (nI (k + 1))), (6, .int 35), (7, .int (nI gn))] rfl).tr ?_
      refine Go.trp 160 (go_goto 160 d_Mod_call_252 (by decide)) rfl ?_
      refine (go_pick [0, 1, 2, 3] [(0, .ref A), (1, .int (nI m)), (4, .int (nI ((piF (fun i => bo (m * 24 + i)) gn g 0 l k).1 + gn))), (5, .int (nI (k + 1)))] rfl).tr ?_
      have h9 := ih (k + 1) (by omega)
      rw [show (piF (fun i => bo (m * 24 + i)) gn g 0 l (k + 1)) = ((piF (fun i => bo (m * 24 + i)) gn g 0 l k).1 + gn, wrB (piF (fun i => bo (m * 24 + i)) gn g 0 l k).2 (piF (fun i => bo (m * 24 + i)) gn g 0 l k).1 g gn) from by rw [piF, if_pos c1]] at h9
      exact h9
    · refine Go.trp 190 (go_iload d_Mod_call_188 4 rfl) rfl ?_
      refine Go.trp 192 (go_bipush (v := 35) d_Mod_call_190 (by decide)) rfl ?_
      refine Go.trp 227 (go_icmp_ne_t 227 d_Mod_call_192 (by decide) (c1)) rfl ?_
      refine Go.trp 229 (go_iload d_Mod_call_227 4 rfl) rfl ?_
      refine Go.trp 231 (go_bipush (v := 35) d_Mod_call_229 (by decide)) rfl ?_
      refine Go.trp 237 (go_icmp_ne_t 237 d_Mod_call_231 (by decide) (c1)) rfl ?_
      refine Go.trp 238 (go_aload_n d_Mod_call_237 rfl 0 rfl) rfl ?_
      refine Go.trp 241 (go_get f_Mod_34 d_Mod_call_238 ((gRd_n _ _ (hI.2 11)).trans ((gRd_n _ _ (hI.2 12)).trans ((gRd_n _ _ (hI.2 10)).trans (gRd_s _ _ _)))) rfl) rfl ?_
      refine Go.trp 243 (go_iload d_Mod_call_241 2 rfl) rfl ?_
      refine Go.trp 245 (go_iload d_Mod_call_243 4 rfl) rfl ?_
      refine Go.trp 246 (go_iast (j := (piF (fun i => bo (m * 24 + i)) gn g 0 l k).1) d_Mod_call_245 ((gRd_n _ _ (hI.n (i := 10) (j := 11) (by decide))).trans ((gRd_n _ _ (hI.n (i := 10) (j := 12) (by decide))).trans (gRd_s _ _ _))) (rfl) (by rw [if_neg c1] at e3; omega) (by omega)) rfl ?_
      refine (go_m (M' := (gWr (gWr (gWr (gWr M A (.inr (11, oMod a (upd (upd (upd s 14 (nI n)) 15 (nI gn)) 16 (nI cl)) c))) (a 10) (aI G 200 (upd ((piF (fun i => bo (m * 24 + i)) gn g 0 l k).2) ((piF (fun i => bo (m * 24 + i)) gn g 0 l k).1) (bo (m * 24 + k))))) (a 12) (aI G 200 g)) (a 11) (aI G 200 rr))) ((gWr_cm (gWr (gWr (gWr M A (.inr (11, oMod a (upd (upd (upd s 14 (nI n)) 15 (nI gn)) 16 (nI cl)) c))) (a 10) (aI G 200 ((piF (fun i => bo (m * 24 + i)) gn g 0 l k).2))) (a 12) (aI G 200 g)) (aI G 200 rr) (aI G 200 (upd ((piF (fun i => bo (m * 24 + i)) gn g 0 l k).2) ((piF (fun i => bo (m * 24 + i)) gn g 0 l k).1) (bo (m * 24 + k)))) (hI.n (i := 11) (j := 10) (by decide))).trans (congrArg (fun mZ => gWr mZ (a 11) (aI G 200 rr)) ((gWr_cm (gWr (gWr M A (.inr (11, oMod a (upd (upd (upd s 14 (nI n)) 15 (nI gn)) 16 (nI cl)) c))) (a 10) (aI G 200 ((piF (fun i => bo (m * 24 + i)) gn g 0 l k).2))) (aI G 200 g) (aI G 200 (upd ((piF (fun i => bo (m * 24 + i)) gn g 0 l k).2) ((piF (fun i => bo (m * 24 + i)) gn g 0 l k).1) (bo (m * 24 + k)))) (hI.n (i := 12) (j := 10) (by decide))).trans (congrArg (fun mZ => gWr mZ (a 12) (aI G 200 g)) (gWr_wr (gWr M A (.inr (11, oMod a (upd (upd (upd s 14 (nI n)) 15 (nI gn)) 16 (nI cl)) c))) (a 10) (aI G 200 ((piF (fun i => bo (m * 24 + i)) gn g 0 l k).2)) (aI G 200 (upd ((piF (fun i => bo (m * 24 + i)) gn g 0 l k).2) ((piF (fun i => bo (m * 24 + i)) gn g 0 l k).1) (bo (m * 24 + k)))))))))).tr ?_
      refine Go.trp 249 (go_inc1 (n0 := 2) (x := (piF (fun i => bo (m * 24 + i)) gn g 0 l k).1) [(4, .int (nI ((piF (fun i => bo (m * 24 + i)) gn g 0 l k).1 + 1))), (0, .ref A), (1, .int (nI m)), (5, .int (nI k)), (6, .int (bo (m * 24 + k))), (7, .int (nI 0))] d_Mod_call_246 rfl (by decide) rfl) rfl ?_
      refine (go_pick [1, 2, 0, 3, 4, 5] [(0, .ref A), (1, .int (nI m)), (4, .int (nI ((piF (fun i => bo (m * 24 + i)) gn g 0 l k).1 + 1))), (5, .int (nI k)), (6, .int (bo (m * 24 + k))), (7, .int (nI 0))] rfl).tr ?_
      refine Go.trp 252 (go_inc1 (n0 := 3) (x := k) [(5, .int (nI (k + 1))), (0, .ref A), (1, .int (nI m)), (4, .int (nI ((piF (fun i => bo (m * 24 + i)) gn g 0 l k).1 + 1))), (6, .int (bo (m * 24 + k))), (7, .int (nI 0))] d_Mod_call_249 rfl (by decide) rfl) rfl ?_
      refine (go_pick [1, 2, 3, 0, 4, 5] [(0, .ref A), (1, .int (nI m)), (4, .int (nI ((piF (fun i => bo (m * 24 + i)) gn g 0 l k).1 + 1))), (5, .int (nI (k + 1))), (6, .int (bo (m * 24 + k))), (7, .int (nI 0))] rfl).tr ?_
      refine Go.trp 160 (go_goto 160 d_Mod_call_252 (by decide)) rfl ?_
      refine (go_pick [0, 1, 2, 3] [(0, .ref A), (1, .int (nI m)), (4, .int (nI ((piF (fun i => bo (m * 24 + i)) gn g 0 l k).1 + 1))), (5, .int (nI (k + 1)))] rfl).tr ?_
      have h9 := ih (k + 1) (by omega)
      rw [show (piF (fun i => bo (m * 24 + i)) gn g 0 l (k + 1)) = ((piF (fun i => bo (m * 24 + i)) gn g 0 l k).1 + 1, upd (piF (fun i => bo (m * 24 + i)) gn g 0 l k).2 (piF (fun i => bo (m * 24 + i)) gn g 0 l k).1 (bo (m * 24 + k))) from by rw [piF, if_neg c1]] at h9
      exact h9
theorem g_Mod_call5 (G : gG) (M : gM) (A : Nat) (a : Nat → Nat) (s : Nat → Int32) (c : Int64) (bo bl : Nat → Int32) (m bn n gn cl : Nat) (l g rr : Nat → Int32) (q : Nat) (hI : InjA A a) (m4 : gRd M (a 4) = some (aI G 96 bo)) (m5 : gRd M (a 5) = some (aI G 4 bl)) (hm : m < 4) (hb : bl m = nI bn) (hbn : bn ≤ 24) (hq : q + n ≤ 200) : ∀ r k : Nat, k + r = n → Go G m_Mod_call 2 (258, [(0, .ref A), (1, .int (nI m)), (4, .int (nI q)), (5, .int (nI k))], [], (gWr (gWr (gWr (gWr M A (.inr (11, oMod a (upd (upd (upd s 14 (nI n)) 15 (nI gn)) 16 (nI cl)) c))) (a 10) (aI G 200 (wrB l q rr k))) (a 12) (aI G 200 g)) (a 11) (aI G 200 rr))) (290, [(0, .ref A), (1, .int (nI m)), (4, .int (nI q)), (5, .int (nI n))], [], (gWr (gWr (gWr (gWr M A (.inr (11, oMod a (upd (upd (upd s 14 (nI n)) 15 (nI gn)) 16 (nI cl)) c))) (a 10) (aI G 200 (wrB l q rr n))) (a 12) (aI G 200 g)) (a 11) (aI G 200 rr))) := by
  intro r
  induction r with
  | zero =>
    intro k hk
    rw [show k = n from by omega]
    refine Go.trp 260 (go_iload d_Mod_call_258 3 rfl) rfl ?_
    refine Go.trp 261 (go_aload_n d_Mod_call_260 rfl 0 rfl) rfl ?_
    refine Go.trp 264 (go_get f_Mod_125 d_Mod_call_261 ((gRd_n _ _ (hI.2 11)).trans ((gRd_n _ _ (hI.2 12)).trans ((gRd_n _ _ (hI.2 10)).trans (gRd_s _ _ _)))) rfl) rfl ?_
    refine Go.trp 290 (go_icmp_ge_t 290 d_Mod_call_264 (by decide) (nI_le (Nat.le_refl n) (by omega))) rfl ?_
    exact Go.rf
  | succ r ih =>
    intro k hk
    refine Go.trp 260 (go_iload d_Mod_call_258 3 rfl) rfl ?_
    refine Go.trp 261 (go_aload_n d_Mod_call_260 rfl 0 rfl) rfl ?_
    refine Go.trp 264 (go_get f_Mod_125 d_Mod_call_261 ((gRd_n _ _ (hI.2 11)).trans ((gRd_n _ _ (hI.2 12)).trans ((gRd_n _ _ (hI.2 10)).trans (gRd_s _ _ _)))) rfl) rfl ?_
    refine Go.trp 267 (go_icmp_ge_f 290 d_Mod_call_264 (by decide) (nI_ge (by omega) (by omega))) rfl ?_
    refine Go.trp 268 (go_aload_n d_Mod_call_267 rfl 0 rfl) rfl ?_
    refine Go.trp 271 (go_get f_Mod_34 d_Mod_call_268 ((gRd_n _ _ (hI.2 11)).trans ((gRd_n _ _ (hI.2 12)).trans ((gRd_n _ _ (hI.2 10)).trans (gRd_s _ _ _)))) rfl) rfl ?_
    refine Go.trp 273 (go_iload d_Mod_call_271 2 rfl) rfl ?_
    refine Go.trp 275 (go_iload d_Mod_call_273 3 rfl) rfl ?_
    refine Go.trp 276 (go_iadd d_Mod_call_275) rfl ?_
    refine (go_v (y := nI (q + k)) (nI_add _ _)).tr ?_
    refine Go.trp 277 (go_aload_n d_Mod_call_276 rfl 0 rfl) rfl ?_
    refine Go.trp 280 (go_get f_Mod_37 d_Mod_call_277 ((gRd_n _ _ (hI.2 11)).trans ((gRd_n _ _ (hI.2 12)).trans ((gRd_n _ _ (hI.2 10)).trans (gRd_s _ _ _)))) rfl) rfl ?_
    refine Go.trp 282 (go_iload d_Mod_call_280 3 rfl) rfl ?_
    refine Go.trp 283 (go_iald (j := k) d_Mod_call_282 (gRd_s _ _ _) (rfl) (by omega) (by omega)) rfl ?_
    refine Go.trp 284 (go_iast (j := (q + k)) d_Mod_call_283 ((gRd_n _ _ (hI.n (i := 10) (j := 11) (by decide))).trans ((gRd_n _ _ (hI.n (i := 10) (j := 12) (by decide))).trans (gRd_s _ _ _))) (rfl) (by omega) (by omega)) rfl ?_
    refine (go_m (M' := (gWr (gWr (gWr (gWr M A (.inr (11, oMod a (upd (upd (upd s 14 (nI n)) 15 (nI gn)) 16 (nI cl)) c))) (a 10) (aI G 200 (upd (wrB l q rr k) (q + k) (rr k)))) (a 12) (aI G 200 g)) (a 11) (aI G 200 rr))) ((gWr_cm (gWr (gWr (gWr M A (.inr (11, oMod a (upd (upd (upd s 14 (nI n)) 15 (nI gn)) 16 (nI cl)) c))) (a 10) (aI G 200 (wrB l q rr k))) (a 12) (aI G 200 g)) (aI G 200 rr) (aI G 200 (upd (wrB l q rr k) (q + k) (rr k))) (hI.n (i := 11) (j := 10) (by decide))).trans (congrArg (fun mZ => gWr mZ (a 11) (aI G 200 rr)) ((gWr_cm (gWr (gWr M A (.inr (11, oMod a (upd (upd (upd s 14 (nI n)) 15 (nI gn)) 16 (nI cl)) c))) (a 10) (aI G 200 (wrB l q rr k))) (aI G 200 g) (aI G 200 (upd (wrB l q rr k) (q + k) (rr k))) (hI.n (i := 12) (j := 10) (by decide))).trans (congrArg (fun mZ => gWr mZ (a 12) (aI G 200 g)) (gWr_wr (gWr M A (.inr (11, oMod a (upd (upd (upd s 14 (nI n)) 15 (nI gn)) 16 (nI cl)) c))) (a 10) (aI G 200 (wrB l q rr k)) (aI G 200 (upd (wrB l q rr k) (q + k) (rr k))))))))).tr ?_
    refine Go.trp 287 (go_inc1 (n0 := 3) (x := k) [(5, .int (nI (k + 1))), (0, .ref A), (1, .int (nI m)), (4, .int (nI q))] d_Mod_call_284 rfl (by decide) rfl) rfl ?_
    refine (go_pick [1, 2, 3, 0] [(0, .ref A), (1, .int (nI m)), (4, .int (nI q)), (5, .int (nI (k + 1)))] rfl).tr ?_
    refine Go.trp 258 (go_goto 258 d_Mod_call_287 (by decide)) rfl ?_
    rw [wrB_s]
    exact ih (k + 1) (by omega)
