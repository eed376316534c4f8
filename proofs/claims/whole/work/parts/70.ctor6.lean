theorem g_Mod_init1 (G : gG) (M : gM) (A : Nat) (a : Nat → Nat) (s : Nat → Int32) (c : Int64) (wd pp bl : Nat → Int32) (hI : InjA A a) (hA : gRd M A = some (.inr (11, oMod a s c))) (m2 : gRd M (a 2) = some (aI G 128 wd)) (m3 : gRd M (a 3) = some (aI G 5 pp)) (m5 : gRd M (a 5) = some (aI G 4 bl)) : ∀ r k : Nat, k + r = 128 → Go G m_Mod_init 1 (272, [(0, .ref A), (1, .int (nI k))], [], (gWr M (a 2) (aI G 128 (cpI (fun _ => 5) k wd)))) (292, [(0, .ref A), (1, .int (nI 128))], [], (gWr M (a 2) (aI G 128 (cpI (fun _ => 5) 128 wd)))) := by
  intro r
  induction r with
  | zero =>
    intro k hk
    rw [show k = 128 from by omega]
    refine Go.trp 273 (go_iload_n d_Mod_init_272 rfl 1 rfl) rfl ?_
    refine Go.trp 276 (go_sipush (v := 128) d_Mod_init_273 (by decide)) rfl ?_
    refine Go.trp 292 (go_icmp_ge_t 292 d_Mod_init_276 (by decide) (by decide)) rfl ?_
    exact Go.rf
  | succ r ih =>
    intro k hk
    refine Go.trp 273 (go_iload_n d_Mod_init_272 rfl 1 rfl) rfl ?_
    refine Go.trp 276 (go_sipush (v := 128) d_Mod_init_273 (by decide)) rfl ?_
    refine Go.trp 279 (go_icmp_ge_f 292 d_Mod_init_276 (by decide) (nI_ge (b := 128) (by omega) (by decide))) rfl ?_
    refine Go.trp 280 (go_aload_n d_Mod_init_279 rfl 0 rfl) rfl ?_
    refine Go.trp 283 (go_get f_Mod_13 d_Mod_init_280 ((gRd_n _ _ (hI.2 2)).trans (hA)) rfl) rfl ?_
    refine Go.trp 284 (go_iload_n d_Mod_init_283 rfl 1 rfl) rfl ?_
    refine Go.trp 285 (go_iconst (v := 5) d_Mod_init_284 (by decide)) rfl ?_
    refine Go.trp 286 (go_iast (j := k) d_Mod_init_285 (gRd_s _ _ _) (rfl) (by omega) (by omega)) rfl ?_
    refine (go_m (M' := (gWr M (a 2) (aI G 128 (upd (cpI (fun _ => 5) k wd) k 5)))) (gWr_wr M (a 2) (aI G 128 (cpI (fun _ => 5) k wd)) (aI G 128 (upd (cpI (fun _ => 5) k wd) k 5)))).tr ?_
    refine Go.trp 289 (go_inc1 (n0 := 1) (x := k) [(1, .int (nI (k + 1))), (0, .ref A)] d_Mod_init_286 rfl (by decide) rfl) rfl ?_
    refine (go_pick [1, 0] [(0, .ref A), (1, .int (nI (k + 1)))] rfl).tr ?_
    refine Go.trp 272 (go_goto 272 d_Mod_init_289 (by decide)) rfl ?_
    rw [cpI_s (fun _ => 5)]
    exact ih (k + 1) (by omega)
theorem g_Mod_init2 (G : gG) (M : gM) (A : Nat) (a : Nat → Nat) (s : Nat → Int32) (c : Int64) (wd pp bl : Nat → Int32) (hI : InjA A a) (hA : gRd M A = some (.inr (11, oMod a s c))) (m2 : gRd M (a 2) = some (aI G 128 wd)) (m3 : gRd M (a 3) = some (aI G 5 pp)) (m5 : gRd M (a 5) = some (aI G 4 bl)) : ∀ r k : Nat, k + r = 4 → Go G m_Mod_init 1 (327, [(0, .ref A), (1, .int (nI k))], [], (gWr M (a 5) (aI G 4 (cpI (fun _ => -1) k bl)))) (345, [(0, .ref A), (1, .int (nI 4))], [], (gWr M (a 5) (aI G 4 (cpI (fun _ => -1) 4 bl)))) := by
  intro r
  induction r with
  | zero =>
    intro k hk
    rw [show k = 4 from by omega]
    refine Go.trp 328 (go_iload_n d_Mod_init_327 rfl 1 rfl) rfl ?_
    refine Go.trp 329 (go_iconst (v := 4) d_Mod_init_328 (by decide)) rfl ?_
    refine Go.trp 345 (go_icmp_ge_t 345 d_Mod_init_329 (by decide) (by decide)) rfl ?_
    exact Go.rf
  | succ r ih =>
    intro k hk
    refine Go.trp 328 (go_iload_n d_Mod_init_327 rfl 1 rfl) rfl ?_
    refine Go.trp 329 (go_iconst (v := 4) d_Mod_init_328 (by decide)) rfl ?_
    refine Go.trp 332 (go_icmp_ge_f 345 d_Mod_init_329 (by decide) (nI_ge (b := 4) (by omega) (by decide))) rfl ?_
    refine Go.trp 333 (go_aload_n d_Mod_init_332 rfl 0 rfl) rfl ?_
    refine Go.trp 336 (go_get f_Mod_22 d_Mod_init_333 ((gRd_n _ _ (hI.2 5)).trans (hA)) rfl) rfl ?_
    refine Go.trp 337 (go_iload_n d_Mod_init_336 rfl 1 rfl) rfl ?_
    refine Go.trp 338 (go_iconst (v := (-1)) d_Mod_init_337 (by decide)) rfl ?_
    refine Go.trp 339 (go_iast (j := k) d_Mod_init_338 (gRd_s _ _ _) (rfl) (by omega) (by omega)) rfl ?_
    refine (go_m (M' := (gWr M (a 5) (aI G 4 (upd (cpI (fun _ => -1) k bl) k (-1))))) (gWr_wr M (a 5) (aI G 4 (cpI (fun _ => -1) k bl)) (aI G 4 (upd (cpI (fun _ => -1) k bl) k (-1))))).tr ?_
    refine Go.trp 342 (go_inc1 (n0 := 1) (x := k) [(1, .int (nI (k + 1))), (0, .ref A)] d_Mod_init_339 rfl (by decide) rfl) rfl ?_
    refine (go_pick [1, 0] [(0, .ref A), (1, .int (nI (k + 1)))] rfl).tr ?_
    refine Go.trp 327 (go_goto 327 d_Mod_init_342 (by decide)) rfl ?_
    rw [cpI_s (fun _ => -1)]
    exact ih (k + 1) (by omega)
theorem g_Mod_init3 (G : gG) (M : gM) (A : Nat) (a : Nat → Nat) (s : Nat → Int32) (c : Int64) (wd pp bl : Nat → Int32) (hI : InjA A a) (hA : gRd M A = some (.inr (11, oMod a s c))) (m2 : gRd M (a 2) = some (aI G 128 wd)) (m3 : gRd M (a 3) = some (aI G 5 pp)) (m5 : gRd M (a 5) = some (aI G 4 bl)) : EvF G 1 m_Mod_init (270, [(0, .ref A)], [], M) none (gWr (gWr (gWr M (a 2) (aI G 128 (cpI (fun _ => 5) 128 wd))) (a 3) (aI G 5 (upd (upd (upd (upd pp 0 60) 1 200) 2 10) 3 50))) (a 5) (aI G 4 (cpI (fun _ => -1) 4 bl))) := by
  refine EvF.gop 271 (go_iconst (v := nI 0) d_Mod_init_270 (rfl)) rfl ?_
  refine EvF.gop 272 (go_istore_n [(1, .int (nI 0)), (0, .ref A)] d_Mod_init_271 rfl (by decide) rfl) rfl ?_
  refine EvF.go (go_pick [1, 0] [(0, .ref A), (1, .int (nI 0))] rfl) ?_
  refine EvF.go (go_m (M' := (gWr M (a 2) (aI G 128 wd))) (gWr_id (m2)).symm) ?_
  refine EvF.go (go_m (M' := (gWr M (a 2) (aI G 128 (cpI (fun _ => 5) 0 wd)))) (by rw [cpI_0])) ?_
  refine EvF.go (g_Mod_init1 G M A a s c wd pp bl hI hA m2 m3 m5 128 0 (by omega)) ?_
  refine EvF.gop 293 (go_aload_n d_Mod_init_292 rfl 0 rfl) rfl ?_
  refine EvF.gop 296 (go_get f_Mod_16 d_Mod_init_293 ((gRd_n _ _ (hI.2 2)).trans (hA)) rfl) rfl ?_
  refine EvF.gop 297 (go_iconst (v := 0) d_Mod_init_296 (by decide)) rfl ?_
  refine EvF.gop 299 (go_bipush (v := 60) d_Mod_init_297 (by decide)) rfl ?_
  refine EvF.gop 300 (go_iast (j := 0) d_Mod_init_299 ((gRd_n _ _ (hI.n (i := 3) (j := 2) (by decide))).trans (m3)) (rfl) (by omega) (by omega)) rfl ?_
  refine EvF.gop 301 (go_aload_n d_Mod_init_300 rfl 0 rfl) rfl ?_
  refine EvF.gop 304 (go_get f_Mod_16 d_Mod_init_301 ((gRd_n _ _ (hI.2 3)).trans ((gRd_n _ _ (hI.2 2)).trans (hA))) rfl) rfl ?_
  refine EvF.gop 305 (go_iconst (v := 1) d_Mod_init_304 (by decide)) rfl ?_
  refine EvF.gop 308 (go_sipush (v := 200) d_Mod_init_305 (by decide)) rfl ?_
  refine EvF.gop 309 (go_iast (j := 1) d_Mod_init_308 (gRd_s _ _ _) (rfl) (by omega) (by omega)) rfl ?_
  refine EvF.go (go_m (M' := (gWr (gWr M (a 2) (aI G 128 (cpI (fun _ => 5) 128 wd))) (a 3) (aI G 5 (upd (upd pp 0 60) 1 200)))) (gWr_wr (gWr M (a 2) (aI G 128 (cpI (fun _ => 5) 128 wd))) (a 3) (aI G 5 (upd pp 0 60)) (aI G 5 (upd (upd pp 0 60) 1 200)))) ?_
  refine EvF.gop 310 (go_aload_n d_Mod_init_309 rfl 0 rfl) rfl ?_
  refine EvF.gop 313 (go_get f_Mod_16 d_Mod_init_310 ((gRd_n _ _ (hI.2 3)).trans ((gRd_n _ _ (hI.2 2)).trans (hA))) rfl) rfl ?_
  refine EvF.gop 314 (go_iconst (v := 2) d_Mod_init_313 (by decide)) rfl ?_
  refine EvF.gop 316 (go_bipush (v := 10) d_Mod_init_314 (by decide)) rfl ?_
  refine EvF.gop 317 (go_iast (j := 2) d_Mod_init_316 (gRd_s _ _ _) (rfl) (by omega) (by omega)) rfl ?_
  refine EvF.go (go_m (M' := (gWr (gWr M (a 2) (aI G 128 (cpI (fun _ => 5) 128 wd))) (a 3) (aI G 5 (upd (upd (upd pp 0 60) 1 200) 2 10)))) (gWr_wr (gWr M (a 2) (aI G 128 (cpI (fun _ => 5) 128 wd))) (a 3) (aI G 5 (upd (upd pp 0 60) 1 200)) (aI G 5 (upd (upd (upd pp 0 60) 1 200) 2 10)))) ?_
  refine EvF.gop 318 (go_aload_n d_Mod_init_317 rfl 0 rfl) rfl ?_
  refine EvF.gop 321 (go_get f_Mod_16 d_Mod_init_318 ((gRd_n _ _ (hI.2 3)).trans ((gRd_n _ _ (hI.2 2)).trans (hA))) rfl) rfl ?_
  refine EvF.gop 322 (go_iconst (v := 3) d_Mod_init_321 (by decide)) rfl ?_
  refine EvF.gop 324 (go_bipush (v := 50) d_Mod_init_322 (by decide)) rfl ?_
  refine EvF.gop 325 (go_iast (j := 3) d_Mod_init_324 (gRd_s _ _ _) (rfl) (by omega) (by omega)) rfl ?_
  refine EvF.go (go_m (M' := (gWr (gWr M (a 2) (aI G 128 (cpI (fun _ => 5) 128 wd))) (a 3) (aI G 5 (upd (upd (upd (upd pp 0 60) 1 200) 2 10) 3 50)))) (gWr_wr (gWr M (a 2) (aI G 128 (cpI (fun _ => 5) 128 wd))) (a 3) (aI G 5 (upd (upd (upd pp 0 60) 1 200) 2 10)) (aI G 5 (upd (upd (upd (upd pp 0 60) 1 200) 2 10) 3 50)))) ?_
  refine EvF.gop 326 (go_iconst (v := nI 0) d_Mod_init_325 (rfl)) rfl ?_
  refine EvF.gop 327 (go_istore_n [(1, .int (nI 0)), (0, .ref A)] d_Mod_init_326 rfl (by decide) rfl) rfl ?_
  refine EvF.go (go_pick [1, 0] [(0, .ref A), (1, .int (nI 0))] rfl) ?_
  refine EvF.go (go_m (M' := (gWr (gWr (gWr M (a 2) (aI G 128 (cpI (fun _ => 5) 128 wd))) (a 3) (aI G 5 (upd (upd (upd (upd pp 0 60) 1 200) 2 10) 3 50))) (a 5) (aI G 4 bl))) (gWr_id ((gRd_n _ _ (hI.n (i := 5) (j := 3) (by decide))).trans ((gRd_n _ _ (hI.n (i := 5) (j := 2) (by decide))).trans (m5)))).symm) ?_
  refine EvF.go (go_m (M' := (gWr (gWr (gWr M (a 2) (aI G 128 (cpI (fun _ => 5) 128 wd))) (a 3) (aI G 5 (upd (upd (upd (upd pp 0 60) 1 200) 2 10) 3 50))) (a 5) (aI G 4 (cpI (fun _ => -1) 0 bl)))) (by rw [cpI_0])) ?_
  refine EvF.go (g_Mod_init2 G (gWr (gWr M (a 2) (aI G 128 (cpI (fun _ => 5) 128 wd))) (a 3) (aI G 5 (upd (upd (upd (upd pp 0 60) 1 200) 2 10) 3 50))) A a s c (cpI (fun _ => 5) 128 wd) (upd (upd (upd (upd pp 0 60) 1 200) 2 10) 3 50) bl hI ((gRd_n _ _ (hI.2 3)).trans ((gRd_n _ _ (hI.2 2)).trans (hA))) ((gRd_n _ _ (hI.n (i := 2) (j := 3) (by decide))).trans (gRd_s _ _ _)) (gRd_s _ _ _) ((gRd_n _ _ (hI.n (i := 5) (j := 3) (by decide))).trans ((gRd_n _ _ (hI.n (i := 5) (j := 2) (by decide))).trans (m5))) 4 0 (by omega)) ?_
  exact EvF.rv d_Mod_init_345 rfl rfl
def pmZ : Nat → Int32 := upd (upd (upd (upd (fun _ => 0) 0 60) 1 200) 2 10) 3 50
theorem c_Mod (G : gG) (M : gM) (A : Nat) (h0 : gRd M A = some (.inr (11, oMb A 0))) (hb : M.2.1 = A + 1) : ∃ M2 : gM, Ev G 1 m_Mod_init [.ref A] M none M2 ∧ ModAt G M2 A (fun _ => 0) 0 (uF (uF (uF (fun _ _ => 0) 2 (cpI (fun _ => 5) 128 (fun _ => 0))) 3 pmZ) 5 (cpI (fun _ => -1) 4 (fun _ => 0))) (fun _ => 0) ∧ M2.2 = (A + 34, M.2.2 + 2243) ∧ (∀ q, q < A → gRd M2 q = gRd M q) := by
  obtain ⟨Mf, g1, h1, v1, f1⟩ := c_Mod1 G M A h0 hb
  have q1 := MS.wI 5 (cpI (fun _ => -1) 4 (fun _ => 0)) rfl (MS.wI 3 pmZ rfl (MS.wI 2 (cpI (fun _ => 5) 128 (fun _ => 0)) rfl (MS.rf h1)))
  refine ⟨_, Ev.of (Nat.le_of_ble_eq_true rfl) ?_, q1.1, q1.2.2.trans v1, fun q hq => (q1.2.1 q (by omega)).trans (f1 q hq)⟩
  show EvF G 1 m_Mod_init (0, [(0, .ref A)], [], M) _ _
  exact EvF.go g1 (g_Mod_init3 G Mf A (aM A) (fun _ => 0) 0 (fun _ => 0) (fun _ => 0) (fun _ => 0) (aM_inj A) h1.1 (h1.2.1 2 rfl) (h1.2.1 3 rfl) (h1.2.1 5 rfl))
