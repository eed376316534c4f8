-- ===== rows: one instruction each =====
section GROWS
variable {G : gG} {k : gY} {d pc : Nat} {lv : gL} {st : List Value} {M : gM}
theorem go_iconst {n : Int} {v : Int32} (hdg : decode k.2.1 pc = .ok (.iconst n, 1)) (hv : Int32.ofInt n = v) : Go G k d (pc, lv, st, M) (pc + 1, lv, .int v :: st, M) := Go.pure (fun p l e R s m args below meth c H locs cells slots Q ls hK hS hR hc hs hl w => lv_iconst hK.1 hK.2.1 hdg hv w)
theorem go_bipush {n : Int} {v : Int32} (hdg : decode k.2.1 pc = .ok (.bipush n, 2)) (hv : (Int8.ofInt n).toInt32 = v) : Go G k d (pc, lv, st, M) (pc + 2, lv, .int v :: st, M) := Go.pure (fun p l e R s m args below meth c H locs cells slots Q ls hK hS hR hc hs hl w => lv_bipush hK.1 hK.2.1 hdg hv w)
theorem go_sipush {n : Int} {v : Int32} (hdg : decode k.2.1 pc = .ok (.sipush n, 3)) (hv : (Int16.ofInt n).toInt32 = v) : Go G k d (pc, lv, st, M) (pc + 3, lv, .int v :: st, M) := Go.pure (fun p l e R s m args below meth c H locs cells slots Q ls hK hS hR hc hs hl w => lv_sipush hK.1 hK.2.1 hdg hv w)
theorem go_lconst {n : Fin 2} {v : Int64} (hdg : decode k.2.1 pc = .ok (.lconst n, 1)) (hv : Int64.ofNat (n : Nat) = v) : Go G k d (pc, lv, st, M) (pc + 1, lv, .long v :: st, M) := Go.pure (fun p l e R s m args below meth c H locs cells slots Q ls hK hS hR hc hs hl w => lv_lconst hK.1 hK.2.1 hdg hv w)
theorem go_null (hdg : decode k.2.1 pc = .ok (.aconst_null, 1)) : Go G k d (pc, lv, st, M) (pc + 1, lv, .null :: st, M) := Go.pure (fun p l e R s m args below meth c H locs cells slots Q ls hK hS hR hc hs hl w => lv_null hK.1 hK.2.1 hdg w)
theorem go_iload_n {j : Fin 4} {i : Nat} {x : Int32} (hdg : decode k.2.1 pc = .ok (.iload_n j, 1)) (hi : (j : Nat) = i) (n : Nat) (hn : lv[n]? = some (i, .int x)) : Go G k d (pc, lv, st, M) (pc + 1, lv, .int x :: st, M) := Go.pure (fun p l e R s m args below meth c H locs cells slots Q ls hK hS hR hc hs hl w => lv_iload_n hK.1 hK.2.1 hdg hi (lv_at hl n hn) w)
theorem go_iload {i : Nat} {x : Int32} (hdg : decode k.2.1 pc = .ok (.iload i, 2)) (n : Nat) (hn : lv[n]? = some (i, .int x)) : Go G k d (pc, lv, st, M) (pc + 2, lv, .int x :: st, M) := Go.pure (fun p l e R s m args below meth c H locs cells slots Q ls hK hS hR hc hs hl w => lv_iload hK.1 hK.2.1 hdg (lv_at hl n hn) w)
theorem go_lload_n {j : Fin 4} {i : Nat} {x : Int64} (hdg : decode k.2.1 pc = .ok (.lload_n j, 1)) (hi : (j : Nat) = i) (n : Nat) (hn : lv[n]? = some (i, .long x)) : Go G k d (pc, lv, st, M) (pc + 1, lv, .long x :: st, M) := Go.pure (fun p l e R s m args below meth c H locs cells slots Q ls hK hS hR hc hs hl w => lv_lload_n hK.1 hK.2.1 hdg hi (lv_at hl n hn) w)
theorem go_lload {i : Nat} {x : Int64} (hdg : decode k.2.1 pc = .ok (.lload i, 2)) (n : Nat) (hn : lv[n]? = some (i, .long x)) : Go G k d (pc, lv, st, M) (pc + 2, lv, .long x :: st, M) := Go.pure (fun p l e R s m args below meth c H locs cells slots Q ls hK hS hR hc hs hl w => lv_lload hK.1 hK.2.1 hdg (lv_at hl n hn) w)
theorem go_aload_n {j : Fin 4} {i : Nat} {x : Nat} (hdg : decode k.2.1 pc = .ok (.aload_n j, 1)) (hi : (j : Nat) = i) (n : Nat) (hn : lv[n]? = some (i, .ref x)) : Go G k d (pc, lv, st, M) (pc + 1, lv, .ref x :: st, M) := Go.pure (fun p l e R s m args below meth c H locs cells slots Q ls hK hS hR hc hs hl w => lv_aload_n hK.1 hK.2.1 hdg hi (lv_at hl n hn) w)
theorem go_aload {i : Nat} {x : Nat} (hdg : decode k.2.1 pc = .ok (.aload i, 2)) (n : Nat) (hn : lv[n]? = some (i, .ref x)) : Go G k d (pc, lv, st, M) (pc + 2, lv, .ref x :: st, M) := Go.pure (fun p l e R s m args below meth c H locs cells slots Q ls hK hS hR hc hs hl w => lv_aload hK.1 hK.2.1 hdg (lv_at hl n hn) w)
theorem go_aload_nN {j : Fin 4} {i : Nat} (hdg : decode k.2.1 pc = .ok (.aload_n j, 1)) (hi : (j : Nat) = i) (n : Nat) (hn : lv[n]? = some (i, .null)) : Go G k d (pc, lv, st, M) (pc + 1, lv, .null :: st, M) := Go.pure (fun p l e R s m args below meth c H locs cells slots Q ls hK hS hR hc hs hl w => lv_aload_nN hK.1 hK.2.1 hdg hi (lv_at hl n hn) w)
theorem go_aloadN {i : Nat} (hdg : decode k.2.1 pc = .ok (.aload i, 2)) (n : Nat) (hn : lv[n]? = some (i, .null)) : Go G k d (pc, lv, st, M) (pc + 2, lv, .null :: st, M) := Go.pure (fun p l e R s m args below meth c H locs cells slots Q ls hK hS hR hc hs hl w => lv_aloadN hK.1 hK.2.1 hdg (lv_at hl n hn) w)
theorem go_iadd {x y : Int32} (hdg : decode k.2.1 pc = .ok (.iadd, 1)) : Go G k d (pc, lv, .int y :: .int x :: st, M) (pc + 1, lv, .int (x + y) :: st, M) := Go.pure (fun p l e R s m args below meth c H locs cells slots Q ls hK hS hR hc hs hl w => lv_iadd hK.1 hK.2.1 hdg w)
theorem go_isub {x y : Int32} (hdg : decode k.2.1 pc = .ok (.isub, 1)) : Go G k d (pc, lv, .int y :: .int x :: st, M) (pc + 1, lv, .int (x - y) :: st, M) := Go.pure (fun p l e R s m args below meth c H locs cells slots Q ls hK hS hR hc hs hl w => lv_isub hK.1 hK.2.1 hdg w)
theorem go_imul {x y : Int32} (hdg : decode k.2.1 pc = .ok (.imul, 1)) : Go G k d (pc, lv, .int y :: .int x :: st, M) (pc + 1, lv, .int (x * y) :: st, M) := Go.pure (fun p l e R s m args below meth c H locs cells slots Q ls hK hS hR hc hs hl w => lv_imul hK.1 hK.2.1 hdg w)
theorem go_iand {x y : Int32} (hdg : decode k.2.1 pc = .ok (.iand, 1)) : Go G k d (pc, lv, .int y :: .int x :: st, M) (pc + 1, lv, .int (x &&& y) :: st, M) := Go.pure (fun p l e R s m args below meth c H locs cells slots Q ls hK hS hR hc hs hl w => lv_iand hK.1 hK.2.1 hdg w)
theorem go_ior {x y : Int32} (hdg : decode k.2.1 pc = .ok (.ior, 1)) : Go G k d (pc, lv, .int y :: .int x :: st, M) (pc + 1, lv, .int (x ||| y) :: st, M) := Go.pure (fun p l e R s m args below meth c H locs cells slots Q ls hK hS hR hc hs hl w => lv_ior hK.1 hK.2.1 hdg w)
theorem go_ixor {x y : Int32} (hdg : decode k.2.1 pc = .ok (.ixor, 1)) : Go G k d (pc, lv, .int y :: .int x :: st, M) (pc + 1, lv, .int (x ^^^ y) :: st, M) := Go.pure (fun p l e R s m args below meth c H locs cells slots Q ls hK hS hR hc hs hl w => lv_ixor hK.1 hK.2.1 hdg w)
theorem go_ladd {x y : Int64} (hdg : decode k.2.1 pc = .ok (.ladd, 1)) : Go G k d (pc, lv, .long y :: .long x :: st, M) (pc + 1, lv, .long (x + y) :: st, M) := Go.pure (fun p l e R s m args below meth c H locs cells slots Q ls hK hS hR hc hs hl w => lv_ladd hK.1 hK.2.1 hdg w)
theorem go_lsub {x y : Int64} (hdg : decode k.2.1 pc = .ok (.lsub, 1)) : Go G k d (pc, lv, .long y :: .long x :: st, M) (pc + 1, lv, .long (x - y) :: st, M) := Go.pure (fun p l e R s m args below meth c H locs cells slots Q ls hK hS hR hc hs hl w => lv_lsub hK.1 hK.2.1 hdg w)
theorem go_lmul {x y : Int64} (hdg : decode k.2.1 pc = .ok (.lmul, 1)) : Go G k d (pc, lv, .long y :: .long x :: st, M) (pc + 1, lv, .long (x * y) :: st, M) := Go.pure (fun p l e R s m args below meth c H locs cells slots Q ls hK hS hR hc hs hl w => lv_lmul hK.1 hK.2.1 hdg w)
theorem go_idiv {x y : Int32} (hdg : decode k.2.1 pc = .ok (.idiv, 1)) (hne : ¬ y = 0) : Go G k d (pc, lv, .int y :: .int x :: st, M) (pc + 1, lv, .int (x / y) :: st, M) := Go.pure (fun p l e R s m args below meth c H locs cells slots Q ls hK hS hR hc hs hl w => lv_idiv hK.1 hK.2.1 hdg hne w)
theorem go_irem {x y : Int32} (hdg : decode k.2.1 pc = .ok (.irem, 1)) (hne : ¬ y = 0) : Go G k d (pc, lv, .int y :: .int x :: st, M) (pc + 1, lv, .int (x - x / y * y) :: st, M) := Go.pure (fun p l e R s m args below meth c H locs cells slots Q ls hK hS hR hc hs hl w => lv_irem hK.1 hK.2.1 hdg hne w)
theorem go_ldiv {x y : Int64} (hdg : decode k.2.1 pc = .ok (.ldiv, 1)) (hne : ¬ y = 0) : Go G k d (pc, lv, .long y :: .long x :: st, M) (pc + 1, lv, .long (x / y) :: st, M) := Go.pure (fun p l e R s m args below meth c H locs cells slots Q ls hK hS hR hc hs hl w => lv_ldiv hK.1 hK.2.1 hdg hne w)
theorem go_lrem {x y : Int64} (hdg : decode k.2.1 pc = .ok (.lrem, 1)) (hne : ¬ y = 0) : Go G k d (pc, lv, .long y :: .long x :: st, M) (pc + 1, lv, .long (x - x / y * y) :: st, M) := Go.pure (fun p l e R s m args below meth c H locs cells slots Q ls hK hS hR hc hs hl w => lv_lrem hK.1 hK.2.1 hdg hne w)
theorem go_ineg {x : Int32} (hdg : decode k.2.1 pc = .ok (.ineg, 1)) : Go G k d (pc, lv, .int x :: st, M) (pc + 1, lv, .int (-x) :: st, M) := Go.pure (fun p l e R s m args below meth c H locs cells slots Q ls hK hS hR hc hs hl w => lv_ineg hK.1 hK.2.1 hdg w)
theorem go_lneg {x : Int64} (hdg : decode k.2.1 pc = .ok (.lneg, 1)) : Go G k d (pc, lv, .long x :: st, M) (pc + 1, lv, .long (-x) :: st, M) := Go.pure (fun p l e R s m args below meth c H locs cells slots Q ls hK hS hR hc hs hl w => lv_lneg hK.1 hK.2.1 hdg w)
theorem go_ishl {x y : Int32} (hdg : decode k.2.1 pc = .ok (.ishl, 1)) : Go G k d (pc, lv, .int y :: .int x :: st, M) (pc + 1, lv, .int (x <<< (y &&& 31)) :: st, M) := Go.pure (fun p l e R s m args below meth c H locs cells slots Q ls hK hS hR hc hs hl w => lv_ishl hK.1 hK.2.1 hdg w)
theorem go_ishr {x y : Int32} (hdg : decode k.2.1 pc = .ok (.ishr, 1)) : Go G k d (pc, lv, .int y :: .int x :: st, M) (pc + 1, lv, .int (x >>> (y &&& 31)) :: st, M) := Go.pure (fun p l e R s m args below meth c H locs cells slots Q ls hK hS hR hc hs hl w => lv_ishr hK.1 hK.2.1 hdg w)
theorem go_i2l {x : Int32} (hdg : decode k.2.1 pc = .ok (.i2l, 1)) : Go G k d (pc, lv, .int x :: st, M) (pc + 1, lv, .long x.toInt64 :: st, M) := Go.pure (fun p l e R s m args below meth c H locs cells slots Q ls hK hS hR hc hs hl w => lv_i2l hK.1 hK.2.1 hdg rfl w)
theorem go_l2i {x : Int64} (hdg : decode k.2.1 pc = .ok (.l2i, 1)) : Go G k d (pc, lv, .long x :: st, M) (pc + 1, lv, .int x.toInt32 :: st, M) := Go.pure (fun p l e R s m args below meth c H locs cells slots Q ls hK hS hR hc hs hl w => lv_l2i hK.1 hK.2.1 hdg rfl w)
theorem go_lcmp {x y : Int64} (hdg : decode k.2.1 pc = .ok (.lcmp, 1)) : Go G k d (pc, lv, .long y :: .long x :: st, M) (pc + 1, lv, .int (lg_cmp x y) :: st, M) := Go.pure (fun p l e R s m args below meth c H locs cells slots Q ls hK hS hR hc hs hl w => W.lcmp hK.1 hK.2.1 hdg w)
theorem go_dup {v : Value} (hdg : decode k.2.1 pc = .ok (.dup, 1)) (h1 : v.category = 1) : Go G k d (pc, lv, v :: st, M) (pc + 1, lv, v :: v :: st, M) := Go.pure (fun p l e R s m args below meth c H locs cells slots Q ls hK hS hR hc hs hl w => lv_dup hK.1 hK.2.1 hdg h1 w)
theorem go_pop {v : Value} (hdg : decode k.2.1 pc = .ok (.pop, 1)) (h1 : v.category = 1) : Go G k d (pc, lv, v :: st, M) (pc + 1, lv, st, M) := Go.pure (fun p l e R s m args below meth c H locs cells slots Q ls hK hS hR hc hs hl w => lv_pop hK.1 hK.2.1 hdg h1 w)
theorem go_pop2 {v : Value} (hdg : decode k.2.1 pc = .ok (.pop2, 1)) (h1 : v.category = 2) : Go G k d (pc, lv, v :: st, M) (pc + 1, lv, st, M) := Go.pure (fun p l e R s m args below meth c H locs cells slots Q ls hK hS hR hc hs hl w => lv_pop2_2 hK.1 hK.2.1 hdg h1 w)
theorem go_dup_x1 {v u : Value} (hdg : decode k.2.1 pc = .ok (.dup_x1, 1)) (h1 : v.category = 1) (h2 : u.category = 1) : Go G k d (pc, lv, v :: u :: st, M) (pc + 1, lv, v :: u :: v :: st, M) := Go.pure (fun p l e R s m args below meth c H locs cells slots Q ls hK hS hR hc hs hl w => lv_dup_x1 hK.1 hK.2.1 hdg h1 h2 w)
theorem go_dup_x2 {v u t : Value} (hdg : decode k.2.1 pc = .ok (.dup_x2, 1)) (h1 : v.category = 1) (h2 : u.category = 1) (h3 : t.category = 1) : Go G k d (pc, lv, v :: u :: t :: st, M) (pc + 1, lv, v :: u :: t :: v :: st, M) := Go.pure (fun p l e R s m args below meth c H locs cells slots Q ls hK hS hR hc hs hl w => lv_dup_x2 hK.1 hK.2.1 hdg h1 h2 h3 w)
theorem go_dup2 {v u : Value} (hdg : decode k.2.1 pc = .ok (.dup2, 1)) (h1 : v.category = 1) (h2 : u.category = 1) : Go G k d (pc, lv, v :: u :: st, M) (pc + 1, lv, v :: u :: v :: u :: st, M) := Go.pure (fun p l e R s m args below meth c H locs cells slots Q ls hK hS hR hc hs hl w => lv_dup2_11 hK.1 hK.2.1 hdg h1 h2 w)
theorem go_if_eq_t {x : Int32} {off : Int} (tgt : Nat) (hdg : decode k.2.1 pc = .ok (.ifCond .eq off, 3)) (ht : (pc : Int) + off = (tgt : Int)) (h : x = 0) : Go G k d (pc, lv, .int x :: st, M) (tgt, lv, st, M) := Go.pure (fun p l e R s m args below meth c H locs cells slots Q ls hK hS hR hc hs hl w => lv_if_eq hK.1 hK.2.1 hdg ht (fun _ => w) (fun q => absurd h q))
theorem go_if_eq_f {x : Int32} {off : Int} (tgt : Nat) (hdg : decode k.2.1 pc = .ok (.ifCond .eq off, 3)) (ht : (pc : Int) + off = (tgt : Int)) (h : ¬ x = 0) : Go G k d (pc, lv, .int x :: st, M) (pc + 3, lv, st, M) := Go.pure (fun p l e R s m args below meth c H locs cells slots Q ls hK hS hR hc hs hl w => lv_if_eq hK.1 hK.2.1 hdg ht (fun q => absurd q h) (fun _ => w))
theorem go_icmp_eq_t {x y : Int32} {off : Int} (tgt : Nat) (hdg : decode k.2.1 pc = .ok (.if_icmp .eq off, 3)) (ht : (pc : Int) + off = (tgt : Int)) (h : x = y) : Go G k d (pc, lv, .int y :: .int x :: st, M) (tgt, lv, st, M) := Go.pure (fun p l e R s m args below meth c H locs cells slots Q ls hK hS hR hc hs hl w => lv_icmp_eq hK.1 hK.2.1 hdg ht (fun _ => w) (fun q => absurd h q))
theorem go_icmp_eq_f {x y : Int32} {off : Int} (tgt : Nat) (hdg : decode k.2.1 pc = .ok (.if_icmp .eq off, 3)) (ht : (pc : Int) + off = (tgt : Int)) (h : ¬ x = y) : Go G k d (pc, lv, .int y :: .int x :: st, M) (pc + 3, lv, st, M) := Go.pure (fun p l e R s m args below meth c H locs cells slots Q ls hK hS hR hc hs hl w => lv_icmp_eq hK.1 hK.2.1 hdg ht (fun q => absurd q h) (fun _ => w))
theorem go_if_ne_t {x : Int32} {off : Int} (tgt : Nat) (hdg : decode k.2.1 pc = .ok (.ifCond .ne off, 3)) (ht : (pc : Int) + off = (tgt : Int)) (h : ¬ x = 0) : Go G k d (pc, lv, .int x :: st, M) (tgt, lv, st, M) := Go.pure (fun p l e R s m args below meth c H locs cells slots Q ls hK hS hR hc hs hl w => lv_if_ne hK.1 hK.2.1 hdg ht (fun _ => w) (fun q => absurd q h))
theorem go_if_ne_f {x : Int32} {off : Int} (tgt : Nat) (hdg : decode k.2.1 pc = .ok (.ifCond .ne off, 3)) (ht : (pc : Int) + off = (tgt : Int)) (h : x = 0) : Go G k d (pc, lv, .int x :: st, M) (pc + 3, lv, st, M) := Go.pure (fun p l e R s m args below meth c H locs cells slots Q ls hK hS hR hc hs hl w => lv_if_ne hK.1 hK.2.1 hdg ht (fun q => absurd h q) (fun _ => w))
theorem go_icmp_ne_t {x y : Int32} {off : Int} (tgt : Nat) (hdg : decode k.2.1 pc = .ok (.if_icmp .ne off, 3)) (ht : (pc : Int) + off = (tgt : Int)) (h : ¬ x = y) : Go G k d (pc, lv, .int y :: .int x :: st, M) (tgt, lv, st, M) := Go.pure (fun p l e R s m args below meth c H locs cells slots Q ls hK hS hR hc hs hl w => lv_icmp_ne hK.1 hK.2.1 hdg ht (fun _ => w) (fun q => absurd q h))
theorem go_icmp_ne_f {x y : Int32} {off : Int} (tgt : Nat) (hdg : decode k.2.1 pc = .ok (.if_icmp .ne off, 3)) (ht : (pc : Int) + off = (tgt : Int)) (h : x = y) : Go G k d (pc, lv, .int y :: .int x :: st, M) (pc + 3, lv, st, M) := Go.pure (fun p l e R s m args below meth c H locs cells slots Q ls hK hS hR hc hs hl w => lv_icmp_ne hK.1 hK.2.1 hdg ht (fun q => absurd h q) (fun _ => w))
theorem go_if_lt_t {x : Int32} {off : Int} (tgt : Nat) (hdg : decode k.2.1 pc = .ok (.ifCond .lt off, 3)) (ht : (pc : Int) + off = (tgt : Int)) (h : x < 0) : Go G k d (pc, lv, .int x :: st, M) (tgt, lv, st, M) := Go.pure (fun p l e R s m args below meth c H locs cells slots Q ls hK hS hR hc hs hl w => lv_if_lt hK.1 hK.2.1 hdg ht (fun _ => w) (fun q => absurd h q))
theorem go_if_lt_f {x : Int32} {off : Int} (tgt : Nat) (hdg : decode k.2.1 pc = .ok (.ifCond .lt off, 3)) (ht : (pc : Int) + off = (tgt : Int)) (h : ¬ x < 0) : Go G k d (pc, lv, .int x :: st, M) (pc + 3, lv, st, M) := Go.pure (fun p l e R s m args below meth c H locs cells slots Q ls hK hS hR hc hs hl w => lv_if_lt hK.1 hK.2.1 hdg ht (fun q => absurd q h) (fun _ => w))
theorem go_icmp_lt_t {x y : Int32} {off : Int} (tgt : Nat) (hdg : decode k.2.1 pc = .ok (.if_icmp .lt off, 3)) (ht : (pc : Int) + off = (tgt : Int)) (h : x < y) : Go G k d (pc, lv, .int y :: .int x :: st, M) (tgt, lv, st, M) := Go.pure (fun p l e R s m args below meth c H locs cells slots Q ls hK hS hR hc hs hl w => lv_icmp_lt hK.1 hK.2.1 hdg ht (fun _ => w) (fun q => absurd h q))
theorem go_icmp_lt_f {x y : Int32} {off : Int} (tgt : Nat) (hdg : decode k.2.1 pc = .ok (.if_icmp .lt off, 3)) (ht : (pc : Int) + off = (tgt : Int)) (h : ¬ x < y) : Go G k d (pc, lv, .int y :: .int x :: st, M) (pc + 3, lv, st, M) := Go.pure (fun p l e R s m args below meth c H locs cells slots Q ls hK hS hR hc hs hl w => lv_icmp_lt hK.1 hK.2.1 hdg ht (fun q => absurd q h) (fun _ => w))
theorem go_if_ge_t {x : Int32} {off : Int} (tgt : Nat) (hdg : decode k.2.1 pc = .ok (.ifCond .ge off, 3)) (ht : (pc : Int) + off = (tgt : Int)) (h : 0 ≤ x) : Go G k d (pc, lv, .int x :: st, M) (tgt, lv, st, M) := Go.pure (fun p l e R s m args below meth c H locs cells slots Q ls hK hS hR hc hs hl w => lv_if_ge hK.1 hK.2.1 hdg ht (fun _ => w) (fun q => absurd h q))
theorem go_if_ge_f {x : Int32} {off : Int} (tgt : Nat) (hdg : decode k.2.1 pc = .ok (.ifCond .ge off, 3)) (ht : (pc : Int) + off = (tgt : Int)) (h : ¬ 0 ≤ x) : Go G k d (pc, lv, .int x :: st, M) (pc + 3, lv, st, M) := Go.pure (fun p l e R s m args below meth c H locs cells slots Q ls hK hS hR hc hs hl w => lv_if_ge hK.1 hK.2.1 hdg ht (fun q => absurd q h) (fun _ => w))
theorem go_icmp_ge_t {x y : Int32} {off : Int} (tgt : Nat) (hdg : decode k.2.1 pc = .ok (.if_icmp .ge off, 3)) (ht : (pc : Int) + off = (tgt : Int)) (h : y ≤ x) : Go G k d (pc, lv, .int y :: .int x :: st, M) (tgt, lv, st, M) := Go.pure (fun p l e R s m args below meth c H locs cells slots Q ls hK hS hR hc hs hl w => lv_icmp_ge hK.1 hK.2.1 hdg ht (fun _ => w) (fun q => absurd h q))
theorem go_icmp_ge_f {x y : Int32} {off : Int} (tgt : Nat) (hdg : decode k.2.1 pc = .ok (.if_icmp .ge off, 3)) (ht : (pc : Int) + off = (tgt : Int)) (h : ¬ y ≤ x) : Go G k d (pc, lv, .int y :: .int x :: st, M) (pc + 3, lv, st, M) := Go.pure (fun p l e R s m args below meth c H locs cells slots Q ls hK hS hR hc hs hl w => lv_icmp_ge hK.1 hK.2.1 hdg ht (fun q => absurd q h) (fun _ => w))
theorem go_if_gt_t {x : Int32} {off : Int} (tgt : Nat) (hdg : decode k.2.1 pc = .ok (.ifCond .gt off, 3)) (ht : (pc : Int) + off = (tgt : Int)) (h : 0 < x) : Go G k d (pc, lv, .int x :: st, M) (tgt, lv, st, M) := Go.pure (fun p l e R s m args below meth c H locs cells slots Q ls hK hS hR hc hs hl w => lv_if_gt hK.1 hK.2.1 hdg ht (fun _ => w) (fun q => absurd h q))
theorem go_if_gt_f {x : Int32} {off : Int} (tgt : Nat) (hdg : decode k.2.1 pc = .ok (.ifCond .gt off, 3)) (ht : (pc : Int) + off = (tgt : Int)) (h : ¬ 0 < x) : Go G k d (pc, lv, .int x :: st, M) (pc + 3, lv, st, M) := Go.pure (fun p l e R s m args below meth c H locs cells slots Q ls hK hS hR hc hs hl w => lv_if_gt hK.1 hK.2.1 hdg ht (fun q => absurd q h) (fun _ => w))
theorem go_icmp_gt_t {x y : Int32} {off : Int} (tgt : Nat) (hdg : decode k.2.1 pc = .ok (.if_icmp .gt off, 3)) (ht : (pc : Int) + off = (tgt : Int)) (h : y < x) : Go G k d (pc, lv, .int y :: .int x :: st, M) (tgt, lv, st, M) := Go.pure (fun p l e R s m args below meth c H locs cells slots Q ls hK hS hR hc hs hl w => lv_icmp_gt hK.1 hK.2.1 hdg ht (fun _ => w) (fun q => absurd h q))
theorem go_icmp_gt_f {x y : Int32} {off : Int} (tgt : Nat) (hdg : decode k.2.1 pc = .ok (.if_icmp .gt off, 3)) (ht : (pc : Int) + off = (tgt : Int)) (h : ¬ y < x) : Go G k d (pc, lv, .int y :: .int x :: st, M) (pc + 3, lv, st, M) := Go.pure (fun p l e R s m args below meth c H locs cells slots Q ls hK hS hR hc hs hl w => lv_icmp_gt hK.1 hK.2.1 hdg ht (fun q => absurd q h) (fun _ => w))
theorem go_if_le_t {x : Int32} {off : Int} (tgt : Nat) (hdg : decode k.2.1 pc = .ok (.ifCond .le off, 3)) (ht : (pc : Int) + off = (tgt : Int)) (h : x ≤ 0) : Go G k d (pc, lv, .int x :: st, M) (tgt, lv, st, M) := Go.pure (fun p l e R s m args below meth c H locs cells slots Q ls hK hS hR hc hs hl w => lv_if_le hK.1 hK.2.1 hdg ht (fun _ => w) (fun q => absurd h q))
theorem go_if_le_f {x : Int32} {off : Int} (tgt : Nat) (hdg : decode k.2.1 pc = .ok (.ifCond .le off, 3)) (ht : (pc : Int) + off = (tgt : Int)) (h : ¬ x ≤ 0) : Go G k d (pc, lv, .int x :: st, M) (pc + 3, lv, st, M) := Go.pure (fun p l e R s m args below meth c H locs cells slots Q ls hK hS hR hc hs hl w => lv_if_le hK.1 hK.2.1 hdg ht (fun q => absurd q h) (fun _ => w))
theorem go_icmp_le_t {x y : Int32} {off : Int} (tgt : Nat) (hdg : decode k.2.1 pc = .ok (.if_icmp .le off, 3)) (ht : (pc : Int) + off = (tgt : Int)) (h : x ≤ y) : Go G k d (pc, lv, .int y :: .int x :: st, M) (tgt, lv, st, M) := Go.pure (fun p l e R s m args below meth c H locs cells slots Q ls hK hS hR hc hs hl w => lv_icmp_le hK.1 hK.2.1 hdg ht (fun _ => w) (fun q => absurd h q))
theorem go_icmp_le_f {x y : Int32} {off : Int} (tgt : Nat) (hdg : decode k.2.1 pc = .ok (.if_icmp .le off, 3)) (ht : (pc : Int) + off = (tgt : Int)) (h : ¬ x ≤ y) : Go G k d (pc, lv, .int y :: .int x :: st, M) (pc + 3, lv, st, M) := Go.pure (fun p l e R s m args below meth c H locs cells slots Q ls hK hS hR hc hs hl w => lv_icmp_le hK.1 hK.2.1 hdg ht (fun q => absurd q h) (fun _ => w))
theorem go_goto {off : Int} (tgt : Nat) (hdg : decode k.2.1 pc = .ok (.goto off, 3)) (ht : (pc : Int) + off = (tgt : Int)) : Go G k d (pc, lv, st, M) (tgt, lv, st, M) := Go.pure (fun p l e R s m args below meth c H locs cells slots Q ls hK hS hR hc hs hl w => lv_goto hK.1 hK.2.1 hdg ht w)
theorem go_nn {x : Nat} {off : Int} (tgt : Nat) (hdg : decode k.2.1 pc = .ok (.ifnonnull off, 3)) (ht : (pc : Int) + off = (tgt : Int)) : Go G k d (pc, lv, .ref x :: st, M) (tgt, lv, st, M) := Go.pure (fun p l e R s m args below meth c H locs cells slots Q ls hK hS hR hc hs hl w => lv_ifnonnull hK.1 hK.2.1 hdg ht w)
theorem go_tableOut {dflt lo hi : Int} {offs : Array Int} {len : Nat} {x : Int32} (tgt : Nat) (hdg : decode k.2.1 pc = .ok (.tableswitch dflt lo hi offs, len)) (h : x.toInt < lo ∨ hi < x.toInt) (ht : (pc : Int) + dflt = (tgt : Int)) : Go G k d (pc, lv, .int x :: st, M) (tgt, lv, st, M) := Go.pure (fun p l e R s m args below meth c H locs cells slots Q ls hK hS hR hc hs hl w => lv_tableOut hK.1 hK.2.1 hdg h ht w)
theorem go_tableIn {dflt lo hi : Int} {offs : Array Int} {len : Nat} {x : Int32} {off : Int} (tgt : Nat) (hdg : decode k.2.1 pc = .ok (.tableswitch dflt lo hi offs, len)) (h1 : ¬ x.toInt < lo) (h2 : ¬ hi < x.toInt) (ho : offs[(x.toInt - lo).toNat]? = some off) (ht : (pc : Int) + off = (tgt : Int)) : Go G k d (pc, lv, .int x :: st, M) (tgt, lv, st, M) := Go.pure (fun p l e R s m args below meth c H locs cells slots Q ls hK hS hR hc hs hl w => lv_tableIn hK.1 hK.2.1 hdg h1 h2 ho ht w)
theorem go_lookup {dflt : Int} {ps : Array (Int × Int)} {len : Nat} {x : Int32} {off : Int} (tgt : Nat) (hdg : decode k.2.1 pc = .ok (.lookupswitch dflt ps, len)) (hp : (ps.toList.zip (ps.toList.drop 1)).all (fun (a, next) => a.1 < next.1) = true) (ho : Op.lookupswitch.offset ps.toList dflt x.toInt = off) (ht : (pc : Int) + off = (tgt : Int)) : Go G k d (pc, lv, .int x :: st, M) (tgt, lv, st, M) := Go.pure (fun p l e R s m args below meth c H locs cells slots Q ls hK hS hR hc hs hl w => lv_lookup hK.1 hK.2.1 hdg hp ho ht w)
theorem go_ldc {i : Nat} {v : Int32} (hdg : decode k.2.1 pc = .ok (.ldc i, 2)) (hw : Cond.constant k.1.cls i v ∈ gTB) : Go G k d (pc, lv, st, M) (pc + 2, lv, .int v :: st, M) := Go.pure (fun p l e R s m args below meth c H locs cells slots Q ls hK hS hR hc hs hl w => lv_ldc hK.1 hK.2.1 hK.2.2.2.1 (hK.2.2.2.2.2.1.1 _ hw _) hdg w)
theorem go_ldc2 {i : Nat} {v : Int64} (hdg : decode k.2.1 pc = .ok (.ldc2_w i, 3)) (hw : Cond.constantLong k.1.cls i v ∈ gTB) : Go G k d (pc, lv, st, M) (pc + 3, lv, .long v :: st, M) := Go.pure (fun p l e R s m args below meth c H locs cells slots Q ls hK hS hR hc hs hl w => lv_ldc2 hK.1 hK.2.1 hK.2.2.2.1 (hK.2.2.2.2.2.1.1 _ hw _) hdg w)
theorem go_istore_n {j : Fin 4} {i : Nat} {x : Int32} (lv' : gL) (hdg : decode k.2.1 pc = .ok (.istore_n j, 1)) (hi : (j : Nat) = i) (hn : i < k.2.2.1) (hl0 : (i, Value.int x) :: lv.filter (fun q => !(q.1 == i) && !(q.1 + 1 == i && q.2.category == 2)) = lv') : Go G k d (pc, lv, .int x :: st, M) (pc + 1, lv', st, M) := Go.loc (fun p l e R s m args below meth c H locs cells slots Q ls hK hl w => lv_istore_n hK.1 hK.2.1 hdg hi hl hn hl0 w)
theorem go_istore {i : Nat} {x : Int32} (lv' : gL) (hdg : decode k.2.1 pc = .ok (.istore i, 2)) (hn : i < k.2.2.1) (hl0 : (i, Value.int x) :: lv.filter (fun q => !(q.1 == i) && !(q.1 + 1 == i && q.2.category == 2)) = lv') : Go G k d (pc, lv, .int x :: st, M) (pc + 2, lv', st, M) := Go.loc (fun p l e R s m args below meth c H locs cells slots Q ls hK hl w => lv_istore hK.1 hK.2.1 hdg hl hn hl0 w)
theorem go_lstore_n {j : Fin 4} {i : Nat} {x : Int64} (lv' : gL) (hdg : decode k.2.1 pc = .ok (.lstore_n j, 1)) (hi : (j : Nat) = i) (hn : i + 1 < k.2.2.1) (hl0 : (i, Value.long x) :: lv.filter (fun q => !(q.1 == i) && (!(q.1 == i + 1) && !(q.1 + 1 == i && q.2.category == 2))) = lv') : Go G k d (pc, lv, .long x :: st, M) (pc + 1, lv', st, M) := Go.loc (fun p l e R s m args below meth c H locs cells slots Q ls hK hl w => lv_lstore_n hK.1 hK.2.1 hdg hi hl hn hl0 w)
theorem go_lstore {i : Nat} {x : Int64} (lv' : gL) (hdg : decode k.2.1 pc = .ok (.lstore i, 2)) (hn : i + 1 < k.2.2.1) (hl0 : (i, Value.long x) :: lv.filter (fun q => !(q.1 == i) && (!(q.1 == i + 1) && !(q.1 + 1 == i && q.2.category == 2))) = lv') : Go G k d (pc, lv, .long x :: st, M) (pc + 2, lv', st, M) := Go.loc (fun p l e R s m args below meth c H locs cells slots Q ls hK hl w => lv_lstore hK.1 hK.2.1 hdg hl hn hl0 w)
theorem go_astore_n {j : Fin 4} {i : Nat} {x : Nat} (lv' : gL) (hdg : decode k.2.1 pc = .ok (.astore_n j, 1)) (hi : (j : Nat) = i) (hn : i < k.2.2.1) (hl0 : (i, Value.ref x) :: lv.filter (fun q => !(q.1 == i) && !(q.1 + 1 == i && q.2.category == 2)) = lv') : Go G k d (pc, lv, .ref x :: st, M) (pc + 1, lv', st, M) := Go.loc (fun p l e R s m args below meth c H locs cells slots Q ls hK hl w => lv_astore_n hK.1 hK.2.1 hdg hi hl hn hl0 w)
theorem go_astore {i : Nat} {x : Nat} (lv' : gL) (hdg : decode k.2.1 pc = .ok (.astore i, 2)) (hn : i < k.2.2.1) (hl0 : (i, Value.ref x) :: lv.filter (fun q => !(q.1 == i) && !(q.1 + 1 == i && q.2.category == 2)) = lv') : Go G k d (pc, lv, .ref x :: st, M) (pc + 2, lv', st, M) := Go.loc (fun p l e R s m args below meth c H locs cells slots Q ls hK hl w => lv_astore hK.1 hK.2.1 hdg hl hn hl0 w)
theorem go_iinc {i n0 : Nat} {n : Int} {x v : Int32} (lv' : gL) (hdg : decode k.2.1 pc = .ok (.iinc i n, 3)) (hk : lv[n0]? = some (i, .int x)) (hv : x + Int32.ofInt n = v) (hn : i < k.2.2.1) (hl0 : (i, Value.int v) :: lv.filter (fun q => !(q.1 == i) && !(q.1 + 1 == i && q.2.category == 2)) = lv') : Go G k d (pc, lv, st, M) (pc + 3, lv', st, M) := Go.loc (fun p l e R s m args below meth c H locs cells slots Q ls hK hl w => lv_iinc hK.1 hK.2.1 hdg hl hk hv hn hl0 w)
theorem go_v {x y : Int32} (h : x = y) : Go G k d (pc, lv, .int x :: st, M) (pc, lv, .int y :: st, M) := Go.eq (by rw [h]) Go.rf
theorem go_vl {x y : Int64} (h : x = y) : Go G k d (pc, lv, .long x :: st, M) (pc, lv, .long y :: st, M) := Go.eq (by rw [h]) Go.rf
theorem go_m {M' : gM} (h : M = M') : Go G k d (pc, lv, st, M) (pc, lv, st, M') := Go.eq (by rw [h]) Go.rf
end GROWS
-- ===== rows that read and write the memory =====
/-- field number f of the objects of kind ci, as the code of own links it at idx -/
def gF (own : String) (idx ci f : Nat) : Prop := ∃ (C : String) (T : u_T) (N : Nat), classes[ci]? = some (C, T, N) ∧ f < N ∧ (T f).1 = C ∧ (∀ w ∈ u_ws C T N, w ∈ gTB) ∧
  (Cond.fieldLink own idx C (T f).2.1 (T f).2.2.1 ∈ gTB ∨ ∃ host : String, Cond.fieldLinkNest own idx C (T f).2.1 (T f).2.2.1 host ∈ gNW)
/-- what a store needs besides: the types, names apart, whether it is final -/
def gFt (ci f : Nat) (fin : Bool) (ty : FieldType) : Prop := ∃ (C : String) (T : u_T) (N : Nat) (ty0 : Nat → FieldType), classes[ci]? = some (C, T, N) ∧ (∀ k, k < N → parseFieldDescriptor (T k).2.2.1 = some (ty0 k)) ∧ (∀ a, a < N → ∀ b, b < N → a ≠ b → (T a).2.1 ≠ (T b).2.1) ∧ (T f).2.2.2 = fin ∧ parseFieldDescriptor (T f).2.2.1 = some ty
section GMEM
variable {G : gG} {k : gY} {d pc : Nat} {lv : gL} {st : List Value} {M : gM}
theorem go_get {idx ci f a : Nat} {fs : List Value} {v : Value} (hf : gF k.1.cls idx ci f) (hdg : decode k.2.1 pc = .ok (.getfield idx, 3)) (hr : gRd M a = some (.inr (ci, fs))) (hv : fs[f]? = some v) : Go G k d (pc, lv, .ref a :: st, M) (pc + 3, lv, v :: st, M) := by
  obtain ⟨C, T, N, hc, hN, hC, hin, hlink⟩ := hf
  refine Go.pure (fun p l e R s m args below meth c H locs cells slots Q ls hK hS hR hcl hsl hl w => ?_)
  obtain ⟨hx, hb, -, hown, -, hT, -⟩ := hK
  have hP : va_P G.1 classes [(a, .inr (ci, fs))] H := fun i q hq => by
    cases i with
    | zero => cases hq; exact hR.at hr
    | succ i => simp at hq
  rcases hlink with h | ⟨host, h⟩
  · exact va_get (ref := C) hx hb (fun w hw => hT.1 w hw args) hin hown hT.K hP 0 rfl hc f hN (hT.1 _ h args) (fun _ h9 => hC ▸ h9) hv hdg w
  · exact va_getN (ref := C) (host := host) hx hb (fun w hw => hT.1 w hw args) hin hown hT.K hP 0 rfl hc f hN (va_Nw.use rfl (hT.2.1 _ h)) (fun _ h9 => hC ▸ h9) hv hdg w
theorem go_store {pc' a : Nat} {e0 e1 : va_E} {st' : List Value} (hr : gRd M a = some e0)
    (h : ∀ (p : Program) (l : Launch) (e : Env) (R : Room) (s : State) (m : MethodId) (args : Array Value) (below : List Frame) (meth : Method) (c : Code) (H : Heap) (locs : List Loc) (cells slots : Nat) (Q : State → Prop) (ls : Array Slot), gK G k d p R s m meth c → gR G M H → lv_has ls k.2.2.1 lv →
      (∀ (H1 : Heap) (i : Nat), va_at G.1 classes (a, e1) H1 → H1.size = H.size → (∀ q : Nat, q ≠ a → H1[q]? = H[q]?) → W p l e R s m args below meth c H1 (locs ++ [⟨a, i⟩]) cells slots Q (F0 m pc' ls st')) → W p l e R s m args below meth c H locs cells slots Q (F0 m pc ls st)) :
    Go G k d (pc, lv, st, M) (pc', lv, st', gWr M a e1) := by
  refine ⟨⟨Nat.le_refl _, Nat.le_refl _⟩, ?_⟩
  intro p l e R s m args below meth c u0 Q hK h3 h4 h5 h6 hX H locs ls hR hS hl
  refine h p l e R s m args below meth c H locs _ _ Q ls hK hR hl (fun H1 i he z oq => ?_)
  exact hX H1 _ ls (hR.set hr he z oq) (hS.put z oq (hR.lo hr)) hl
theorem go_put {idx ci f a : Nat} {fs : List Value} (fs' : List Value) {v : Value} {ty : FieldType} (hf : gF k.1.cls idx ci f) (hft : gFt ci f false ty) (hdg : decode k.2.1 pc = .ok (.putfield idx, 3)) (hr : gRd M a = some (.inr (ci, fs))) (hn : narrow ty v = v) (hfit : fits ty v = true) (hl0 : f < fs.length) (hfs : fs.set f v = fs') : Go G k d (pc, lv, v :: .ref a :: st, M) (pc + 3, lv, st, gWr M a (.inr (ci, fs'))) := by
  subst hfs
  obtain ⟨C, T, N, hc, hN, hC, hin, hlink⟩ := hf
  obtain ⟨C', T', N', ty0, hc', hty, hnm, hfin, hd⟩ := hft
  cases hc.symm.trans hc'
  refine go_store hr (fun p l e R s m args below meth c H locs cells slots Q ls hK hR hl w => ?_)
  obtain ⟨hx, hb, -, hown, -, hT, -⟩ := hK
  have hts : ∀ w ∈ gTB, w.before args s = true := fun w hw => hT.1 w hw args
  have hK : va_K G.1 classes [] s := hT.K
  have hap := va_apart (own := k.1.cls) hts hin ty0 hty hnm hK hc
  obtain ⟨r, h1, cell, q1, q2, q3, q4⟩ := hR.at hr
  have hr0 : r = (C, T, N) := Option.some.inj (h1.symm.trans hc)
  subst hr0
  obtain ⟨hS, hfc, kC, hkC, hkind⟩ := hK.1 ci _ hc
  obtain ⟨cf, kf, fi, fd, hi, hsl⟩ := hS f hN
  have hlay := hts _ (hin _ (u_in_lay hN))
  unfold u_lay at hlay
  rw [if_neg (by rw [hfin]; decide)] at hlay
  have hst := (u_facts hfc hkC (u_lays hts hin hN) hi).1
  have h6 := u_store hfc hkC hkind hlay hi hd hn hfit
  have hi2 : s.fieldFound? C (T f).2.1 (T f).2.2.1 = some (cf, kf, fi, fd) := by rw [hC] at hi; exact hi
  rcases hlink with h | ⟨host, h⟩
  · refine W.putK hx hb (f := fd) ⟨hown, hts _ h, ⟨_, _, _, hi2⟩, hst⟩ (by rw [q2]; exact h6) q1 q3 (by rw [hsl]; exact k2_hasslot (q4 f hN)) rfl rfl hdg fun H' e1 e2 e3 => ?_
    rw [hsl] at e1
    exact w H' _ ⟨_, hc, t_OB.to (V := updV (vp_V fs) f v) ⟨_, e1, q2, q3, t_set q4 hap hN v⟩ (fun j _ => vp_updV_set hl0 v j)⟩ e2 e3
  · refine va_WputK hx hb (f := fd) hown (va_Nw.use rfl (hT.2.1 _ h)) hi2 hst (by rw [q2]; exact h6) q1 q3 (by rw [hsl]; exact k2_hasslot (q4 f hN)) rfl rfl hdg fun H' e1 e2 e3 => ?_
    rw [hsl] at e1
    exact w H' _ ⟨_, hc, t_OB.to (V := updV (vp_V fs) f v) ⟨_, e1, q2, q3, t_set q4 hap hN v⟩ (fun j _ => vp_updV_set hl0 v j)⟩ e2 e3
/-- a final field, in the constructor of its own kind -/
theorem go_putF {idx ci f a : Nat} {fs : List Value} (fs' : List Value) {v : Value} {ty : FieldType} (hf : gF k.1.cls idx ci f) (hft : gFt ci f true ty) (hnl : ∀ C T N, classes[ci]? = some (C, T, N) → C = k.1.cls ∧ Cond.fieldLink k.1.cls idx C (T f).2.1 (T f).2.2.1 ∈ gTB) (hini : k.1.name = "<init>") (hdg : decode k.2.1 pc = .ok (.putfield idx, 3)) (hr : gRd M a = some (.inr (ci, fs))) (hn : narrow ty v = v) (hfit : fits ty v = true) (hl0 : f < fs.length) (hfs : fs.set f v = fs') : Go G k d (pc, lv, v :: .ref a :: st, M) (pc + 3, lv, st, gWr M a (.inr (ci, fs'))) := by
  subst hfs
  obtain ⟨C, T, N, hc, hN, hC, hin, -⟩ := hf
  obtain ⟨C', T', N', ty0, hc', hty, hnm, hfin, hd⟩ := hft
  cases hc.symm.trans hc'
  obtain ⟨hCo, hlink⟩ := hnl _ _ _ hc
  refine go_store hr (fun p l e R s m args below meth c H locs cells slots Q ls hK hR hl w => ?_)
  obtain ⟨hx, hb, -, hown, hnam, hT, -⟩ := hK
  have hts : ∀ w ∈ gTB, w.before args s = true := fun w hw => hT.1 w hw args
  have hK : va_K G.1 classes [] s := hT.K
  have hap := va_apart (own := k.1.cls) hts hin ty0 hty hnm hK hc
  obtain ⟨r, h1, cell, q1, q2, q3, q4⟩ := hR.at hr
  have hr0 : r = (C, T, N) := Option.some.inj (h1.symm.trans hc)
  subst hr0
  obtain ⟨hS, hfc, kC, hkC, hkind⟩ := hK.1 ci _ hc
  obtain ⟨cf, kf, fi, fd, hi, hsl⟩ := hS f hN
  have hlay := hts _ (hin _ (u_in_lay hN))
  unfold u_lay at hlay
  rw [if_pos hfin] at hlay
  have hst := (u_facts hfc hkC (u_lays hts hin hN) hi).1
  have hcf : m.cls = cf := by
    obtain ⟨_, _, c', _, _, _, -, -, hf', -, -, -, hown2, -⟩ := Cond.laysFinal_spec hlay
    have e1 : c' = cf := by have := hi.symm.trans hf'; simp at this; exact this.1.symm
    rw [hC, hCo] at hown2
    rw [← e1]; exact Option.some.inj (hown.symm.trans hown2)
  have h6 := u_fits hfc hkC hkind (Or.inr hlay) hi hd hn hfit
  have hi2 : s.fieldFound? C (T f).2.1 (T f).2.2.1 = some (cf, kf, fi, fd) := by rw [hC] at hi; exact hi
  refine W.putFinK hx hb hown (hts _ hlink) hi2 hst hcf (hnam.trans hini) (by rw [q2]; exact h6) q1 q3 (by rw [hsl]; exact k2_hasslot (q4 f hN)) rfl rfl hdg fun H' e1 e2 e3 => ?_
  rw [hsl] at e1
  exact w H' _ ⟨_, hc, t_OB.to (V := updV (vp_V fs) f v) ⟨_, e1, q2, q3, t_set q4 hap hN v⟩ (fun j _ => vp_updV_set hl0 v j)⟩ e2 e3
-- arrays
def aI (G : gG) (n : Nat) (f : Nat → Int32) : va_E := .inl (G.2.1 0, n, .inl f)
def aL (G : gG) (n : Nat) (f : Nat → Int64) : va_E := .inl (G.2.1 1, n, .inr (.inl f))
def aZ (G : gG) (n : Nat) (f : Nat → Int32) : va_E := .inl (G.2.1 2, n, .inl f)
def aQ (G : gG) (i n : Nat) (f : Nat → Option Nat) : va_E := .inl (G.2.1 i, n, .inr (.inr (.inr (.inr f))))
theorem go_iald {a n j : Nat} {f : Nat → Int32} {i : Int32} (hdg : decode k.2.1 pc = .ok (.iaload, 1)) (hr : gRd M a = some (aI G n f)) (hi : i = nI j) (hj : j < n) (hn : n < 2 ^ 31) : Go G k d (pc, lv, .int i :: .ref a :: st, M) (pc + 1, lv, .int (f j) :: st, M) := by
  subst hi
  have hcl := nI_clamp (Nat.lt_trans hj hn)
  refine Go.pure (fun p l e R s m args below meth c H locs cells slots Q ls hK hS hR hcc hsl hl w => ?_)
  obtain ⟨hx, hb, -, -, -, hT, -⟩ := hK
  refine W.iald (v := .int (f j)) hx hb (hR.at hr) ((hT.2.2.2 0 .int rfl).1 n (fun j => .int (f j))) (fun q => by cases q) (by show ¬ (nI j < 0 ∨ (arrV _ _ _).slots.size ≤ _); rw [arrV_size]; exact vp_in_nI hj hn) (by show (arrV _ _ _).slots[_]? = _; rw [hcl, arrV_read _ _ hj]) rfl rfl hdg w
theorem go_lald {a n j : Nat} {f : Nat → Int64} {i : Int32} (hdg : decode k.2.1 pc = .ok (.laload, 1)) (hr : gRd M a = some (aL G n f)) (hi : i = nI j) (hj : j < n) (hn : n < 2 ^ 31) : Go G k d (pc, lv, .int i :: .ref a :: st, M) (pc + 1, lv, .long (f j) :: st, M) := by
  subst hi
  have hcl := nI_clamp (Nat.lt_trans hj hn)
  refine Go.pure (fun p l e R s m args below meth c H locs cells slots Q ls hK hS hR hcc hsl hl w => ?_)
  obtain ⟨hx, hb, -, -, -, hT, -⟩ := hK
  refine W.lald (v := .long (f j)) hx hb (hR.at hr) ((hT.2.2.2 1 .long rfl).1 n (fun j => .long (f j))) (fun q => by cases q) (by show ¬ (nI j < 0 ∨ (arrV _ _ _).slots.size ≤ _); rw [arrV_size]; exact vp_in_nI hj hn) (by show (arrV _ _ _).slots[_]? = _; rw [hcl, arrV_read _ _ hj]) rfl rfl hdg w
theorem go_zald {a n j : Nat} {f : Nat → Int32} {i : Int32} (hdg : decode k.2.1 pc = .ok (.baload, 1)) (hr : gRd M a = some (aZ G n f)) (hi : i = nI j) (hj : j < n) (hn : n < 2 ^ 31) : Go G k d (pc, lv, .int i :: .ref a :: st, M) (pc + 1, lv, .int (f j) :: st, M) := by
  subst hi
  have hcl := nI_clamp (Nat.lt_trans hj hn)
  refine Go.pure (fun p l e R s m args below meth c H locs cells slots Q ls hK hS hR hcc hsl hl w => ?_)
  obtain ⟨hx, hb, -, -, -, hT, -⟩ := hK
  refine W.zald (v := .int (f j)) hx hb (hR.at hr) ((hT.2.2.2 2 .boolean rfl).1 n (fun j => .int (f j))) (fun q => by cases q) (by show ¬ (nI j < 0 ∨ (arrV _ _ _).slots.size ≤ _); rw [arrV_size]; exact vp_in_nI hj hn) (by show (arrV _ _ _).slots[_]? = _; rw [hcl, arrV_read _ _ hj]) rfl rfl hdg w
theorem go_aald {a n j t : Nat} {C : String} {f : Nat → Option Nat} {i : Int32} (ht : gTys[t]? = some (.object C)) (hdg : decode k.2.1 pc = .ok (.aaload, 1)) (hr : gRd M a = some (aQ G t n f)) (hi : i = nI j) (hj : j < n) (hn : n < 2 ^ 31) : Go G k d (pc, lv, .int i :: .ref a :: st, M) (pc + 1, lv, va_rf (f j) :: st, M) := by
  subst hi
  have hcl := nI_clamp (Nat.lt_trans hj hn)
  refine Go.pure (fun p l e R s m args below meth c H locs cells slots Q ls hK hS hR hcc hsl hl w => ?_)
  obtain ⟨hx, hb, -, -, -, hT, -⟩ := hK
  refine W.aald (v := va_rf (f j)) (ty := .object C) hx hb (hR.at hr) ((hT.2.2.2 t _ ht).1 n (fun j => va_rf (f j))) rfl (fun q => by cases q) (by show ¬ (nI j < 0 ∨ (arrV _ _ _).slots.size ≤ _); rw [arrV_size]; exact vp_in_nI hj hn) (by show (arrV _ _ _).slots[_]? = _; rw [hcl, arrV_read _ _ hj]) rfl rfl hdg w
theorem go_iast {a n j : Nat} {f : Nat → Int32} {i x : Int32} (hdg : decode k.2.1 pc = .ok (.iastore, 1)) (hr : gRd M a = some (aI G n f)) (hi : i = nI j) (hj : j < n) (hn : n < 2 ^ 31) : Go G k d (pc, lv, .int x :: .int i :: .ref a :: st, M) (pc + 1, lv, st, gWr M a (aI G n (upd f j x))) := by
  subst hi
  have hcl := nI_clamp (Nat.lt_trans hj hn)
  refine go_store hr (fun p l e R s m args below meth c H locs cells slots Q ls hK hR hl w => ?_)
  obtain ⟨hx, hb, -, -, -, hT, -⟩ := hK
  refine W.iast hx hb (hR.at hr) ((hT.2.2.2 0 .int rfl).1 n (fun j => .int (f j))) (fun q => by cases q) (by show ¬ (nI j < 0 ∨ (arrV _ _ _).slots.size ≤ _); rw [arrV_size]; exact vp_in_nI hj hn) rfl rfl hdg fun H1 e z oq => ?_
  refine w H1 _ ?_ z oq
  show H1[a]? = some (vp_cell _ _)
  rw [e, hcl]
  rw [vp_cell_i, vp_cell_i, arrV_store]
  congr 2
  funext q
  by_cases hq : q = j
  · subst hq; simp [updV, upd]
  · simp [updV, upd, hq]
theorem go_last {a n j : Nat} {f : Nat → Int64} {i : Int32} {x : Int64} (hdg : decode k.2.1 pc = .ok (.lastore, 1)) (hr : gRd M a = some (aL G n f)) (hi : i = nI j) (hj : j < n) (hn : n < 2 ^ 31) : Go G k d (pc, lv, .long x :: .int i :: .ref a :: st, M) (pc + 1, lv, st, gWr M a (aL G n (vp_updL f j x))) := by
  subst hi
  have hcl := nI_clamp (Nat.lt_trans hj hn)
  refine go_store hr (fun p l e R s m args below meth c H locs cells slots Q ls hK hR hl w => ?_)
  obtain ⟨hx, hb, -, -, -, hT, -⟩ := hK
  refine W.last hx hb (hR.at hr) ((hT.2.2.2 1 .long rfl).1 n (fun j => .long (f j))) (fun q => by cases q) (by show ¬ (nI j < 0 ∨ (arrV _ _ _).slots.size ≤ _); rw [arrV_size]; exact vp_in_nI hj hn) rfl rfl hdg fun H1 e z oq => ?_
  refine w H1 _ ?_ z oq
  show H1[a]? = some (vp_cell _ _)
  rw [e, hcl]
  rw [vp_cell_l, vp_cell_l, arrV_store]
  congr 2
  funext q
  by_cases hq : q = j
  · subst hq; simp [updV, vp_updL]
  · simp [updV, vp_updL, hq]
theorem go_aast {a n j t v ci : Nat} {r : vw_C} {vs : List Value} {f : Nat → Option Nat} {i : Int32} (ht : gTys[t]? = some (.object r.1)) (hc : classes[ci]? = some r) (hdg : decode k.2.1 pc = .ok (.aastore, 1)) (hr : gRd M a = some (aQ G t n f)) (hv : gRd M v = some (.inr (ci, vs))) (hi : i = nI j) (hj : j < n) (hn : n < 2 ^ 31) : Go G k d (pc, lv, .ref v :: .int i :: .ref a :: st, M) (pc + 1, lv, st, gWr M a (aQ G t n (va_up f j (some v)))) := by
  subst hi
  have hcl := nI_clamp (Nat.lt_trans hj hn)
  refine go_store hr (fun p l e R s m args below meth c H locs cells slots Q ls hK hR hl w => ?_)
  obtain ⟨hx, hb, -, -, -, hT, -⟩ := hK
  have hin := vp_in_nI hj hn
  have h0 : ¬ nI j < 0 := fun q => hin (Or.inl q)
  obtain ⟨r', hr', cellV, g1, g2, g3, -⟩ := hR.at hv
  have hcls := (hT.2.2.1 ci r hc).2
  obtain ⟨kA, comp, k1, k2, k3, -⟩ := (hT.2.2.2 t _ ht).2
  have hcomp : comp = G.1.1 ci := Option.some.inj (k3.symm.trans hcls.1)
  subst hcomp
  obtain ⟨kC, hkC, -⟩ := hcls.2
  refine W.aast hx hb (hR.at hr) (fun q h => by cases h) (fun h => by cases h) k1 k2 rfl hkC ⟨h0, by show _ < (arrV _ _ _).slots.size; rw [arrV_size, hcl]; exact hj⟩ g1 (fun q h => by rw [g3] at h; cases h) (by rw [g2]; exact hkC) (by rw [g2]; exact va_assign hcls) rfl rfl hdg fun H1 e z oq => ?_
  refine w H1 _ ?_ z oq
  show H1[a]? = some (vp_cell _ _)
  rw [e, hcl]
  rw [vp_cell_q, vp_cell_q, arrV_store]
  congr 2
  funext q
  by_cases hq : q = j
  · subst hq; simp [updV, va_up, va_rf]
  · simp [updV, va_up, hq]
theorem go_alenI {a n : Nat} {f : Nat → Int32} (hdg : decode k.2.1 pc = .ok (.arraylength, 1)) (hr : gRd M a = some (aI G n f)) : Go G k d (pc, lv, .ref a :: st, M) (pc + 1, lv, .int (nI n) :: st, M) := by
  refine Go.pure (fun p l e R s m args below meth c H locs cells slots Q ls hK hS hR hcc hsl hl w => ?_)
  obtain ⟨hx, hb, -, -, -, hT, -⟩ := hK
  exact W.alen (n := Int32.ofNat n) hx hb (hR.at hr) ((hT.2.2.2 0 .int rfl).1 n (fun j => .int (f j))) (by rw [vp_cell_i, arrV_size] <;> rfl) rfl rfl hdg w
-- making cells
theorem go_make {pc' : Nat} {e1 : va_E} {u : Nat} {st' : List Value}
    (h : ∀ (p : Program) (l : Launch) (e : Env) (R : Room) (s : State) (m : MethodId) (args : Array Value) (below : List Frame) (meth : Method) (c : Code) (H : Heap) (locs : List Loc) (cells slots : Nat) (Q : State → Prop) (ls : Array Slot), gK G k d p R s m meth c → H.size = M.2.1 → cells + 1 ≤ R.cells → slots + u ≤ R.slots →
      (∀ H1 : Heap, va_at G.1 classes (H.size, e1) H1 → H1.size = H.size + 1 → (∀ q : Nat, q < H.size → H1[q]? = H[q]?) → W p l e R s m args below meth c H1 locs (cells + 1) (slots + u) Q (F0 m pc' ls st')) → W p l e R s m args below meth c H locs cells slots Q (F0 m pc ls st)) :
    Go G k d (pc, lv, st, M) (pc', lv, st', gNw M e1 u) := by
  refine ⟨⟨Nat.le_succ _, Nat.le_add_right _ _⟩, ?_⟩
  intro p l e R s m args below meth c u0 Q hK h3 h4 h5 h6 hX H locs ls hR hS hl
  dsimp only [gNw] at h3 h4 h5 h6
  have hsz : H.size = M.2.1 := hR.2
  refine h p l e R s m args below meth c H locs _ _ Q ls hK hsz (by dsimp only; omega) (by dsimp only; omega) (fun H1 he z oq => ?_)
  have hb0 : G.2.2.1 ≤ s.heap.size := hK.2.2.2.2.2.2.2.1
  have w := hX H1 locs ls (hR.push (Nat.le_trans hb0 hS.1) he z oq) ⟨Nat.le_trans hS.1 (by omega), fun q h1 h2 => (oq q (Nat.lt_of_lt_of_le h1 hS.1)).trans (hS.2.1 q h1 h2), hS.2.2⟩ hl
  refine W.cs ?_ ?_ w
  · show M.2.1 - s.heap.size + 1 = (M.2.1 + 1) - s.heap.size
    omega
  · show M.2.2 - u0 + u = (M.2.2 + u) - u0
    omega
theorem go_new {idx ci : Nat} {C : String} {T : u_T} {N : Nat} {fs : List Value} (hc : classes[ci]? = some (C, T, N)) (hin : ∀ w ∈ u_ws C T N, w ∈ gTB) (ty : Nat → FieldType) (hty : ∀ k, k < N → parseFieldDescriptor (T k).2.2.1 = some (ty k)) (hcl : Cond.classLink k.1.cls idx C ∈ gTB) (hins : Cond.instantiable C N ∈ gTB) (hini : Cond.initialized C ∈ gTB) (hfs : ∀ j, j < N → defaultValue (ty j) = vp_V fs j) (hdg : decode k.2.1 pc = .ok (.new idx, 3)) : Go G k d (pc, lv, st, M) (pc + 3, lv, .ref M.2.1 :: st, gNw M (.inr (ci, fs)) N) := by
  refine go_make (fun p l e R s m args below meth c H locs cells slots Q ls hK hsz hcells hslots w => ?_)
  obtain ⟨hx, hb, -, hown, -, hT, -⟩ := hK
  have hKn := hT.2.2.1 ci _ hc
  rw [← hsz] at w
  exact W.newcK hx hb hown (hT.1 _ hcl args) (hT.1 _ hins args) (hT.1 _ hini args) rfl hdg hcells hslots hKn.2.1 rfl fun H1 kC hkC e1 z1 o1 =>
    w H1 ⟨_, hc, (u_born ty (fun w hw => hT.1 w hw args) hin hKn hkC e1 hty).to hfs⟩ z1 o1
theorem go_newI {n : Int32} {N : Nat} (hn : n = nI N) (hN : N < 134217728) (hdg : decode k.2.1 pc = .ok (.newarray .int, 2)) (hw : Cond.arrayClass .int ∈ gTB) : Go G k d (pc, lv, .int n :: st, M) (pc + 2, lv, .ref M.2.1 :: st, gNw M (aI G N (fun _ => 0)) N) := by
  subst hn
  have hlt : N < 2 ^ 31 := by omega
  refine go_make (fun p l e R s m args below meth c H locs cells slots Q ls hK hsz hcells hslots w => ?_)
  obtain ⟨hx, hb, -, hown, -, hT, -⟩ := hK
  rw [← hsz] at w
  refine va_newaK hx hb (atype := .int) (hT.1 _ hw args) rfl hdg rfl (nI_pos hlt) (nI_clamp hlt) (by show N * 4 ≤ 536870912; omega) hcells hslots rfl fun H1 cA e1 z1 o1 hAr hNm => ?_
  have hcA : cA = G.2.1 0 := Option.some.inj (hNm.symm.trans (hT.2.2.2 0 .int rfl).2)
  subst hcA
  exact w H1 e1 z1 o1
theorem go_newL {n : Int32} {N : Nat} (hn : n = nI N) (hN : N < 67108864) (hdg : decode k.2.1 pc = .ok (.newarray .long, 2)) (hw : Cond.arrayClass .long ∈ gTB) : Go G k d (pc, lv, .int n :: st, M) (pc + 2, lv, .ref M.2.1 :: st, gNw M (aL G N (fun _ => 0)) N) := by
  subst hn
  have hlt : N < 2 ^ 31 := by omega
  refine go_make (fun p l e R s m args below meth c H locs cells slots Q ls hK hsz hcells hslots w => ?_)
  obtain ⟨hx, hb, -, hown, -, hT, -⟩ := hK
  rw [← hsz] at w
  refine va_newaK hx hb (atype := .long) (hT.1 _ hw args) rfl hdg rfl (nI_pos hlt) (nI_clamp hlt) (by show N * 8 ≤ 536870912; omega) hcells hslots rfl fun H1 cA e1 z1 o1 hAr hNm => ?_
  have hcA : cA = G.2.1 1 := Option.some.inj (hNm.symm.trans (hT.2.2.2 1 .long rfl).2)
  subst hcA
  exact w H1 e1 z1 o1
theorem go_newQ {idx t : Nat} {C : String} {n : Int32} {N : Nat} (ht : gTys[t]? = some (.object C)) (hn : n = nI N) (hN : N < 134217728) (hdg : decode k.2.1 pc = .ok (.anewarray idx, 3)) (hcl : Cond.classLink k.1.cls idx C ∈ gTB) (hov : Cond.arrayOver (.object C) ∈ gNW) : Go G k d (pc, lv, .int n :: st, M) (pc + 3, lv, .ref M.2.1 :: st, gNw M (aQ G t N (fun _ => none)) N) := by
  subst hn
  have hlt : N < 2 ^ 31 := by omega
  have hcN := nI_clamp hlt
  refine go_make (fun p l e R s m args below meth c H locs cells slots Q ls hK hsz hcells hslots w => ?_)
  obtain ⟨hx, hb, -, hown, -, hT, -⟩ := hK
  rw [← hsz] at w
  refine W.anew hx hb hown (hT.1 _ hcl args) (va_AO.use (hT.2.1 _ hov)) rfl hdg rfl (nI_pos hlt) (by rw [hcN]; omega) hcells (by rw [hcN]; exact hslots) fun cA kA comp f1 f2 f3 f4 => ?_
  rw [hcN]
  obtain ⟨kA', comp', g1, g2, g3, g4⟩ := (hT.2.2.2 t _ ht).2
  have hcA : cA = G.2.1 t := Option.some.inj (f1.symm.trans g4)
  subst hcA
  generalize hH1 : H.push ({ cls := G.2.1 t, slots := Array.replicate N .null, vm := .none } : Cell) = H1
  refine w H1 ?_ (by rw [← hH1, Array.size_push]) (fun q hq => by rw [← hH1, Array.getElem?_push, if_neg (Nat.ne_of_lt hq)])
  show H1[H.size]? = some (vp_cell _ _)
  rw [vp_cell_q, ← hH1, Array.getElem?_push_size]
  exact congrArg some (arrV_new ..)
end GMEM
-- ===== contracts and calls =====
def gPc (G : gG) (av : List Value) (M : gM) : Array Value → State → Prop := fun v U => v = av.toArray ∧ gT G U ∧ gZ G U U.heap ∧ G.2.2.1 ≤ U.heap.size ∧ gR G M U.heap
def gQc (G : gG) (r : Option Value) (M' : gM) : Array Value → State → Outcome → State → Prop := fun _ st oc t => oc = .returned r ∧ gR G M' t.heap ∧ va_F (gA G) st t
theorem gPc_blind {G : gG} {av : List Value} {M : gM} : FrameBlind (gPc G av M) := fun a U g mk h => ⟨h.1, gT.moved (s := U) (U := U.calling g mk a) (State.WarmedH.refl U) h.2.1, gZ.moved (u := U) (U := U.calling g mk a) (Vm.Alike.refl U.vm) h.2.2.1, h.2.2.2.1, h.2.2.2.2⟩
def gRet (k : gY) (pc : Nat) (st : List Value) (r : Option Value) : Prop :=
  (∃ v : Int32, st = [.int v] ∧ r = some (.int v) ∧ (∃ ty, k.2.2.2 = some ty ∧ narrow ty (.int v) = .int v) ∧ decode k.2.1 pc = .ok (.ireturn, 1)) ∨
  (∃ v : Int64, st = [.long v] ∧ r = some (.long v) ∧ k.2.2.2 = some .long ∧ decode k.2.1 pc = .ok (.lreturn, 1)) ∨
  (st = [] ∧ r = none ∧ k.2.2.2 = none ∧ decode k.2.1 pc = .ok (.return_, 1)) ∨
  (∃ v : Value, st = [v] ∧ r = some v ∧ (v = .null ∨ ∃ a, v = .ref a) ∧ (∃ rt, k.2.2.2 = some rt ∧ ((∃ n, rt = .object n) ∨ ∃ t, rt = .array t)) ∧ decode k.2.1 pc = .ok (.areturn, 1))
/-- the method k, called with av over the memory M, answers r and leaves M' -/
def Ev (G : gG) (d : Nat) (k : gY) (av : List Value) (M : gM) (r : Option Value) (M' : gM) : Prop :=
  ∃ (pcR : Nat) (lvR : gL) (stR : List Value), Go G k d (0, lv_args 0 av, [], M) (pcR, lvR, stR, M') ∧ gRet k pcR stR r ∧ (lg_sl av).length ≤ k.2.2.1
theorem Ev.up {G : gG} {d d' : Nat} {k : gY} {av : List Value} {M M' : gM} {r : Option Value} (h : Ev G d k av M r M') (hd : d ≤ d') : Ev G d' k av M r M' := by
  obtain ⟨a, b, c, h1, h2⟩ := h
  exact ⟨a, b, c, h1.up hd, h2⟩
theorem Ev.i {G : gG} {d pc : Nat} {k : gY} {av : List Value} {M M' : gM} {lv : gL} {v : Int32} (hdg : decode k.2.1 pc = .ok (.ireturn, 1)) (ht : k.2.2.2 = some .int) (hl : (lg_sl av).length ≤ k.2.2.1) (h : Go G k d (0, lv_args 0 av, [], M) (pc, lv, [.int v], M')) : Ev G d k av M (some (.int v)) M' :=
  ⟨_, _, _, h, Or.inl ⟨v, rfl, rfl, ⟨_, ht, rfl⟩, hdg⟩, hl⟩
theorem Ev.z {G : gG} {d pc : Nat} {k : gY} {av : List Value} {M M' : gM} {lv : gL} {v : Int32} (hdg : decode k.2.1 pc = .ok (.ireturn, 1)) (ht : k.2.2.2 = some .boolean) (hl : (lg_sl av).length ≤ k.2.2.1) (hv : v = 0 ∨ v = 1) (h : Go G k d (0, lv_args 0 av, [], M) (pc, lv, [.int v], M')) : Ev G d k av M (some (.int v)) M' :=
  ⟨_, _, _, h, Or.inl ⟨v, rfl, rfl, ⟨_, ht, by rcases hv with rfl | rfl <;> rfl⟩, hdg⟩, hl⟩
theorem Ev.l {G : gG} {d pc : Nat} {k : gY} {av : List Value} {M M' : gM} {lv : gL} {v : Int64} (hdg : decode k.2.1 pc = .ok (.lreturn, 1)) (ht : k.2.2.2 = some .long) (hl : (lg_sl av).length ≤ k.2.2.1) (h : Go G k d (0, lv_args 0 av, [], M) (pc, lv, [.long v], M')) : Ev G d k av M (some (.long v)) M' :=
  ⟨_, _, _, h, Or.inr (Or.inl ⟨v, rfl, rfl, ht, hdg⟩), hl⟩
theorem Ev.v {G : gG} {d pc : Nat} {k : gY} {av : List Value} {M M' : gM} {lv : gL} (hdg : decode k.2.1 pc = .ok (.return_, 1)) (ht : k.2.2.2 = none) (hl : (lg_sl av).length ≤ k.2.2.1) (h : Go G k d (0, lv_args 0 av, [], M) (pc, lv, [], M')) : Ev G d k av M none M' :=
  ⟨_, _, _, h, Or.inr (Or.inr (Or.inl ⟨rfl, rfl, ht, hdg⟩)), hl⟩
theorem Ev.met {l : Launch} {G : gG} {d : Nat} {k : gY} {av : List Value} {M M' : gM} {r : Option Value} (h : Ev G d k av M r M') (hy : plainFor k.1 = true) :
    Met l k.1 [.code k.1 k.2.1 k.2.2.1 k.2.2.2] { frames := d, cells := M'.2.1 - M.2.1, slots := M'.2.2 - M.2.2, locals := 40 * d } (gPc G av M) (gQc G r M') (M'.2.1 - M.2.1) (M'.2.2 - M.2.2) (gA G) := by
  obtain ⟨pcR, lvR, stR, ⟨⟨b1, b2⟩, hgo⟩, hret, hlen⟩ := h
  dsimp only at b1 b2
  refine va_MetF (cc := k.2.1) (maxL := k.2.2.1) (ret := k.2.2.2) hy rfl ?_
  intro p e s m args below meth c s₁ B hml hv
  obtain ⟨rfl, hT, hZ, hb0, hR⟩ := hv
  have hx := B.exec
  have hb := B.bytes
  have hr := B.returns
  have hown : s.vm.findClass k.1.cls = some m.cls := findClass_of_methodNamed B.named
  have hlocks := B.notSynchronized
  have hnm : meth.name = k.1.name := (name_of_methodNamed B.named B.method).1
  have hsz : s.heap.size = M.2.1 := hR.2
  have hl := lv_entry av (n := k.2.2.1) hlen
  rw [lg_entry_eq]
  have key := hgo p l e { frames := d, cells := M'.2.1 - M.2.1, slots := M'.2.2 - M.2.2, locals := 40 * d } s m av.toArray below meth c M.2.2 (MQ below (gQc G r M') av.toArray s (M'.2.1 - M.2.1) (M'.2.2 - M.2.2) (gA G)) ⟨hx, hb, hml, hown, hnm, hT, hZ, hb0, Nat.le_refl d, Nat.le_refl _⟩ (by dsimp only; omega) (Nat.le_refl _) (by dsimp only; omega) (by dsimp only; omega) (by
    intro H locs ls hR' hS hl'
    dsimp only at hR' hl' ⊢
    rw [hsz]
    have hq : ∀ t : State, t.heap = H → s.WarmedH t.vm → gQc G r M' av.toArray s (.returned r) t := fun t ht hW => ⟨rfl, by rw [ht]; exact hR', hS.F ht⟩
    rcases hret with ⟨v, rfl, rfl, ⟨ty, hty, hn⟩, hdg⟩ | ⟨v, rfl, rfl, hty, hdg⟩ | ⟨rfl, rfl, hty, hdg⟩ | ⟨v, rfl, rfl, hv, ⟨rt, hty, hrt⟩, hdg⟩
    · exact W.zret hx hb (hr.trans hty) hn hq hS.2.2 hdg
    · exact W.lret hx hb (hr.trans hty) hq hS.2.2 hdg
    · exact W.vret hx hb (hr.trans hty) hq hS.2.2 hdg
    · exact W.aret hx hb (hr.trans hty) hrt hv hq hS.2.2 hdg)
  have w := key s.heap [] _ hR va_S.rf hl
  refine W.cs ?_ ?_ w
  · dsimp only; omega
  · dsimp only; omega
section GAFTER
variable {p : Program} {l : Launch} {e : Env} {R : Room} {s : State} {m : MethodId} {args : Array Value} {below : List Frame} {meth : Method} {c : Code} {H : Heap} {locs : List Loc} {cells slots : Nat} {Q : State → Prop}
theorem g_after {G : gG} {M' : gM} {r : Option Value} {a : Array Value} {pc mc ms : Nat} {ls : Array Slot} {st0 rest : List Value} (hr : va_Run p l e R s m args below meth c H locs cells slots mc ms (F0 m pc ls st0) rest (gQc G r M' a) (gA G)) (hS : va_S (gA G) s.heap H locs)
    (kk : ∀ (H1 : Heap) (locs1 : List Loc), gR G M' H1 → va_S (gA G) s.heap H1 locs1 → W p l e R s m args below meth c H1 locs1 (cells + mc) (slots + ms) Q (F0 m (pc + 3) ls (r.toList ++ rest))) : W p l e R s m args below meth c H locs cells slots Q (F0 m pc ls st0) := by
  intro T hT X
  obtain ⟨v, st₀, t, T', L, h0, X', hL, e1, e2, ⟨hv, hR', hz, hk⟩, st⟩ := hr T hT X
  cases hv
  rw [h0] at hz hk
  obtain ⟨t2, a1, b1⟩ := kk T'.heap (locs ++ L) (by rw [e1]; exact hR') ⟨Nat.le_trans hS.1 (by rw [e1]; exact hz), fun q h1 h2 => by rw [e1, hk q (Nat.lt_of_lt_of_le h1 hS.1) h2]; exact hS.2.1 q h1 h2, fun q hq => by
      rcases List.mem_append.mp hq with h | h
      · exact hS.2.2 q h
      · exact hL q h⟩ T' rfl X'
  exact ⟨t2, st t2 a1, b1⟩
end GAFTER
section GCALL
variable {G : gG} {k : gY} {d pc : Nat} {lv : gL} {st : List Value} {M : gM}
theorem go_call {st0 st' : List Value} {r : Option Value} {M' : gM} (b1 : M.2.1 ≤ M'.2.1) (b2 : M.2.2 ≤ M'.2.2) (hst' : r.toList ++ st = st')
    (h : ∀ (p : Program) (l : Launch) (e : Env) (R : Room) (s : State) (m : MethodId) (args : Array Value) (below : List Frame) (meth : Method) (c : Code) (H : Heap) (locs : List Loc) (cells slots : Nat) (ls : Array Slot), gK G k d p R s m meth c → va_S (gA G) s.heap H locs → gR G M H → ls.size = k.2.2.1 → cells + (M'.2.1 - M.2.1) ≤ R.cells → slots + (M'.2.2 - M.2.2) ≤ R.slots →
      ∃ a : Array Value, va_Run p l e R s m args below meth c H locs cells slots (M'.2.1 - M.2.1) (M'.2.2 - M.2.2) (F0 m pc ls st0) st (gQc G r M' a) (gA G)) : Go G k d (pc, lv, st0, M) (pc + 3, lv, st', M') := by
  subst hst'
  refine ⟨⟨b1, b2⟩, ?_⟩
  intro p l e R s m args below meth c u0 Q hK h3 h4 h5 h6 hX H locs ls hR hS hl
  dsimp only at h3 h4 h5 h6
  obtain ⟨a, hr⟩ := h p l e R s m args below meth c H locs (M.2.1 - s.heap.size) (M.2.2 - u0) ls hK hS hR hl.1 (by omega) (by omega)
  refine g_after hr hS (fun H1 locs1 hR1 hS1 => ?_)
  refine W.cs ?_ ?_ (hX H1 locs1 ls hR1 hS1 hl)
  · dsimp only; omega
  · dsimp only; omega
/-- the words of a callee -/
def gC0 (y : gY) (n : Nat) : Prop := Cond.code y.1 y.2.1 y.2.2.1 y.2.2.2 ∈ gTB ∧ Cond.initialized y.1.cls ∈ gTB ∧ (y.1.cls ≠ "java/lang/invoke/MethodHandle" ∧ y.1.cls ≠ "java/lang/invoke/VarHandle") ∧ plainFor y.1 = true ∧ y.2.2.1 ≤ 21 ∧ (parseMethodDescriptor y.1.desc).map (fun d => d.parameters.length) = some n
def gLk (own : String) (idx : Nat) (y : gY) : Prop := Cond.methodLink own idx y.1 ∈ gTB ∨ ∃ host : String, Cond.methodLinkNest own idx y.1 host ∈ gNW
theorem gC0.len {y : gY} {n : Nat} (h : gC0 y n) : ∀ sig, parseMethodDescriptor y.1.desc = some sig → n = sig.parameters.length := fun sig hs => by
  have h2 := h.2.2.2.2.2
  rw [hs] at h2
  exact (Option.some.inj h2).symm
theorem g_pre {G : gG} {av : List Value} {M : gM} {s : State} {H : Heap} {locs : List Loc} (hT : gT G s) (hZ : gZ G s s.heap) (hb0 : G.2.2.1 ≤ s.heap.size) (hS : va_S (gA G) s.heap H locs) (hR : gR G M H) : ∀ U : State, U.heap = H → s.WarmedH U.vm → gPc G av M av.toArray U := fun U hU hW =>
  ⟨rfl, hT.moved hW, by rw [hU]; exact gZ.moved hW.alike (gZ.kept hZ (fun a h1 h2 => hS.2.1 a h1 h2)), by rw [hU]; exact Nat.le_trans hb0 hS.1, by rw [hU]; exact hR⟩
theorem go_callS {y : gY} {n idx d' : Nat} (As : List Value) {st0 : List Value} (st' : List Value) {r : Option Value} {M' : gM} (hc : gC0 y n) (hs : Cond.static y.1 ∈ gTB) (hlk : gLk k.1.cls idx y) (hdg : decode k.2.1 pc = .ok (.invokestatic idx, 3)) (hE : Ev G d' y As M r M') (hd : d' + 1 ≤ d) (hn : As.length = n) (hst : st0 = As.reverse ++ st) (hcat : (st.map fun v => v.category).sum ≤ 8) (hst' : r.toList ++ st = st') : Go G k d (pc, lv, st0, M) (pc + 3, lv, st', M') := by
  have hb12 := hE
  obtain ⟨_, _, _, ⟨⟨b1, b2⟩, -⟩, -⟩ := hb12
  refine go_call b1 b2 hst' (fun p l e R s m args below meth c H locs cells slots ls hK hS hR hls hcc hss => ?_)
  obtain ⟨hx, hb, hml, hown, hnm, hT, hZ, hb0, hf, hlo⟩ := hK
  have hws : ∀ w ∈ [Cond.code y.1 y.2.1 y.2.2.1 y.2.2.2], ∀ (a' : Array Value) (U : State), s.WarmedH U.vm → w.before a' U = true := fun w hw a' U hW => by
    rw [List.mem_singleton.mp hw]; exact word_at hW (gTB_good _ hc.1) (hT.1 _ hc.1 args)
  have hm21 := hc.2.2.2.2.1
  rcases hlk with h | ⟨host, h⟩
  · exact ⟨_, va_runS (As := As) (rest := st) (nL := k.2.2.1) (Ts := gTB) ⟨hx, hb, hml, hown, fun w hw => hT.1 w hw args⟩ (hE.met hc.2.2.2.1) ⟨⟨rfl, rfl, by dsimp only; omega, by dsimp only; omega, hws, List.mem_cons_self, hT.1 _ hc.1 args, hT.1 _ hc.2.1 args, hc.2.2.1, hc.len, hT.1 _ h args⟩, hT.1 _ hs args⟩ ⟨gPc_blind, g_pre hT hZ hb0 hS hR⟩ rfl hn hls hst (lv_room hcat) hdg ⟨hcc, hss⟩⟩
  · exact ⟨_, va_runSN (As := As) (rest := st) (nL := k.2.2.1) (Ts := gTB) (host := host) ⟨hx, hb, hml, hown, fun w hw => hT.1 w hw args⟩ (hE.met hc.2.2.2.1) ⟨⟨⟨rfl, rfl, by dsimp only; omega, by dsimp only; omega, hws, List.mem_cons_self⟩, hT.1 _ hc.1 args, hT.1 _ hc.2.1 args, hc.2.2.1, hc.len, va_Nw.use rfl (hT.2.1 _ h)⟩, hT.1 _ hs args, trivial⟩ ⟨gPc_blind, g_pre hT hZ hb0 hS hR⟩ rfl hn hls hst (lv_room hcat) hdg ⟨hcc, hss⟩⟩
theorem go_callV {y : gY} {n idx d' b ci : Nat} {q : vw_C} {fs : List Value} (As : List Value) {st0 : List Value} (st' : List Value) {r : Option Value} {M' : gM} (hc : gC0 y n) (hi : Cond.instanceMethod y.1 ∈ gTB) (hsel : Cond.selects y.1.cls y.1 y.1 ∈ gTB) (hlk : gLk k.1.cls idx y) (hdg : decode k.2.1 pc = .ok (.invokevirtual idx, 3)) (hq : classes[ci]? = some q) (hq1 : q.1 = y.1.cls) (hrb : gRd M b = some (.inr (ci, fs))) (hE : Ev G d' y (.ref b :: As) M r M') (hd : d' + 1 ≤ d) (hn : As.length = n) (hst : st0 = As.reverse ++ .ref b :: st) (hcat : (st.map fun v => v.category).sum ≤ 8) (hst' : r.toList ++ st = st') : Go G k d (pc, lv, st0, M) (pc + 3, lv, st', M') := by
  have hb12 := hE
  obtain ⟨_, _, _, ⟨⟨b1, b2⟩, -⟩, -⟩ := hb12
  refine go_call b1 b2 hst' (fun p l e R s m args below meth c H locs cells slots ls hK hS hR hls hcc hss => ?_)
  obtain ⟨hx, hb, hml, hown, hnm, hT, hZ, hb0, hf, hlo⟩ := hK
  have hws : ∀ w ∈ [Cond.code y.1 y.2.1 y.2.2.1 y.2.2.2], ∀ (a' : Array Value) (U : State), s.WarmedH U.vm → w.before a' U = true := fun w hw a' U hW => by
    rw [List.mem_singleton.mp hw]; exact word_at hW (gTB_good _ hc.1) (hT.1 _ hc.1 args)
  have hm21 := hc.2.2.2.2.1
  have hrecv : ∃ cell : Cell, H[b]? = some cell ∧ cell.vm.isStatics = false ∧ s.vm.findClass y.1.cls = some cell.cls := by
    obtain ⟨q', h1, cell, g1, g2, g3, -⟩ := hR.at hrb
    exact ⟨cell, g1, by rw [g3]; rfl, by rw [g2, ← hq1]; exact (hT.2.2.1 ci q hq).2.1⟩
  rcases hlk with h | ⟨host, h⟩
  · exact ⟨_, va_runV (As := As) (rest := st) (nL := k.2.2.1) (Ts := gTB) ⟨hx, hb, hml, hown, fun w hw => hT.1 w hw args⟩ (hE.met hc.2.2.2.1) ⟨⟨rfl, rfl, by dsimp only; omega, by dsimp only; omega, hws, List.mem_cons_self, hT.1 _ hc.1 args, hT.1 _ hc.2.1 args, hc.2.2.1, hc.len, hT.1 _ h args⟩, hT.1 _ hi args, hT.1 _ hsel args⟩ ⟨gPc_blind, hrecv, g_pre hT hZ hb0 hS hR⟩ rfl hn hls hst (lv_room hcat) hdg ⟨hcc, hss⟩⟩
  · exact ⟨_, va_runVN (As := As) (rest := st) (nL := k.2.2.1) (Ts := gTB) (host := host) ⟨hx, hb, hml, hown, fun w hw => hT.1 w hw args⟩ (hE.met hc.2.2.2.1) ⟨⟨⟨rfl, rfl, by dsimp only; omega, by dsimp only; omega, hws, List.mem_cons_self⟩, hT.1 _ hc.1 args, hT.1 _ hc.2.1 args, hc.2.2.1, hc.len, va_Nw.use rfl (hT.2.1 _ h)⟩, hT.1 _ hi args, hT.1 _ hsel args⟩ ⟨gPc_blind, hrecv, g_pre hT hZ hb0 hS hR⟩ rfl hn hls hst (lv_room hcat) hdg ⟨hcc, hss⟩⟩
theorem go_callI {y : gY} {n idx d' b : Nat} (As : List Value) {st0 : List Value} {M' : gM} (hc : gC0 y n) (hy : y.2.2.2 = none) (hy1 : y.1.name = "<init>") (hi : Cond.instanceMethod y.1 ∈ gTB) (hlk : gLk k.1.cls idx y) (hdg : decode k.2.1 pc = .ok (.invokespecial idx, 3)) (hE : Ev G d' y (.ref b :: As) M none M') (hd : d' + 1 ≤ d) (hn : As.length = n) (hst : st0 = As.reverse ++ .ref b :: st) (hcat : (st.map fun v => v.category).sum ≤ 8) : Go G k d (pc, lv, st0, M) (pc + 3, lv, st, M') := by
  have hb12 := hE
  obtain ⟨_, _, _, ⟨⟨b1, b2⟩, -⟩, -⟩ := hb12
  refine go_call (r := none) b1 b2 rfl (fun p l e R s m args below meth c H locs cells slots ls hK hS hR hls hcc hss => ?_)
  obtain ⟨hx, hb, hml, hown, hnm, hT, hZ, hb0, hf, hlo⟩ := hK
  obtain ⟨y0, yb, yn, yr⟩ := y
  dsimp only at hy
  subst hy
  have hws : ∀ w ∈ [Cond.code y0 yb yn none], ∀ (a' : Array Value) (U : State), s.WarmedH U.vm → w.before a' U = true := fun w hw a' U hW => by
    rw [List.mem_singleton.mp hw]; exact word_at hW (gTB_good _ hc.1) (hT.1 _ hc.1 args)
  have hm21 : yn ≤ 21 := hc.2.2.2.2.1
  rcases hlk with h | ⟨host, h⟩
  · exact ⟨_, va_runI (As := As) (rest := st) (nL := k.2.2.1) (Ts := gTB) ⟨hx, hb, hml, hown, fun w hw => hT.1 w hw args⟩ (hE.met hc.2.2.2.1) ⟨⟨rfl, rfl, by dsimp only; omega, by dsimp only; omega, hws, List.mem_cons_self, hT.1 _ hc.1 args, hT.1 _ hc.2.1 args, hc.2.2.1, hc.len, hT.1 _ h args⟩, hy1, hT.1 _ hi args⟩ ⟨gPc_blind, g_pre hT hZ hb0 hS hR⟩ rfl hn hls hst (lv_room hcat) hdg ⟨hcc, hss⟩⟩
  · exact ⟨_, va_runIN (As := As) (rest := st) (nL := k.2.2.1) (Ts := gTB) (host := host) ⟨hx, hb, hml, hown, fun w hw => hT.1 w hw args⟩ (hE.met hc.2.2.2.1) ⟨⟨⟨rfl, rfl, by dsimp only; omega, by dsimp only; omega, hws, List.mem_cons_self⟩, hT.1 _ hc.1 args, hT.1 _ hc.2.1 args, hc.2.2.1, hc.len, va_Nw.use rfl (hT.2.1 _ h)⟩, hy1, hT.1 _ hi args⟩ ⟨gPc_blind, g_pre hT hZ hb0 hS hR⟩ rfl hn hls hst (lv_room hcat) hdg ⟨hcc, hss⟩⟩
theorem go_obj {idx a : Nat} (h1 : Cond.methodLink k.1.cls idx Lib.objectInit ∈ gTB) (h2 : Cond.instanceMethod Lib.objectInit ∈ gTB) (h3 : Cond.code Lib.objectInit ⟨#[0xb1]⟩ 1 none ∈ gTB) (hdg : decode k.2.1 pc = .ok (.invokespecial idx, 3)) (hd : 1 ≤ d) (hcat : (st.map fun v => v.category).sum ≤ 8) : Go G k d (pc, lv, .ref a :: st, M) (pc + 3, lv, st, M) :=
  Go.pure (fun p l e R s m args below meth c H locs cells slots Q ls hK hS hR hc hs hl w => by
    obtain ⟨hx, hb, hml, hown, hnm, hT, hZ, hb0, hf, hlo⟩ := hK
    exact W.objInit hx hb hown (hT.1 _ h1 args) (hT.1 _ h2 args) (hT.1 _ h3 args) rfl (hl.1.trans hml.symm) rfl hdg (by omega) (by show 2 * 0 + _ + 12 ≤ _; omega) w)
end GCALL
