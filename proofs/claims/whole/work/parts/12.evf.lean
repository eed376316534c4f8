/-- from the frame's state S the method answers r and leaves M' -/
def EvF (G : gG) (d : Nat) (k : gY) (S : gS) (r : Option Value) (M' : gM) : Prop := ∃ (pcR : Nat) (lvR : gL) (stR : List Value), Go G k d S (pcR, lvR, stR, M') ∧ gRet k pcR stR r
section GEVF
variable {G : gG} {k : gY} {d pc : Nat} {lv : gL} {st : List Value} {M M' : gM} {S S1 : gS} {r : Option Value} {av : List Value}
theorem EvF.go (h : Go G k d S S1) (h2 : EvF G d k S1 r M') : EvF G d k S r M' := by
  obtain ⟨a, b, c, h3, h4⟩ := h2
  exact ⟨a, b, c, h.tr h3, h4⟩
theorem Ev.of (hl : (lg_sl av).length ≤ k.2.2.1) (h : EvF G d k (0, lv_args 0 av, [], M) r M') : Ev G d k av M r M' := by
  obtain ⟨a, b, c, h3, h4⟩ := h
  exact ⟨a, b, c, h3, h4, hl⟩
theorem EvF.ri {v w : Int32} (hdg : decode k.2.1 pc = .ok (.ireturn, 1)) (ht : k.2.2.2 = some .int) (hv : v = w) (hM : M = M') : EvF G d k (pc, lv, [.int v], M) (some (.int w)) M' := by
  subst hv; subst hM
  exact ⟨_, _, _, Go.rf, Or.inl ⟨v, rfl, rfl, ⟨_, ht, rfl⟩, hdg⟩⟩
theorem EvF.rz {v w : Int32} (hdg : decode k.2.1 pc = .ok (.ireturn, 1)) (ht : k.2.2.2 = some .boolean) (hw : v = 0 ∨ v = 1) (hv : v = w) (hM : M = M') : EvF G d k (pc, lv, [.int v], M) (some (.int w)) M' := by
  subst hv; subst hM
  exact ⟨_, _, _, Go.rf, Or.inl ⟨v, rfl, rfl, ⟨_, ht, by rcases hw with rfl | rfl <;> rfl⟩, hdg⟩⟩
theorem EvF.rl {v w : Int64} (hdg : decode k.2.1 pc = .ok (.lreturn, 1)) (ht : k.2.2.2 = some .long) (hv : v = w) (hM : M = M') : EvF G d k (pc, lv, [.long v], M) (some (.long w)) M' := by
  subst hv; subst hM
  exact ⟨_, _, _, Go.rf, Or.inr (Or.inl ⟨v, rfl, rfl, ht, hdg⟩)⟩
theorem EvF.rv (hdg : decode k.2.1 pc = .ok (.return_, 1)) (ht : k.2.2.2 = none) (hM : M = M') : EvF G d k (pc, lv, [], M) none M' := by
  subst hM
  exact ⟨_, _, _, Go.rf, Or.inr (Or.inr (Or.inl ⟨rfl, rfl, ht, hdg⟩))⟩
theorem Go.trp {p1 : Nat} {lv1 : gL} {st1 : List Value} {M1 : gM} {S2 : gS} (q : Nat) (h1 : Go G k d S (p1, lv1, st1, M1)) (hp : p1 = q) (h2 : Go G k d (q, lv1, st1, M1) S2) : Go G k d S S2 := h1.tr (hp ▸ h2)
theorem EvF.gop {p1 : Nat} {lv1 : gL} {st1 : List Value} {M1 : gM} (q : Nat) (h1 : Go G k d S (p1, lv1, st1, M1)) (hp : p1 = q) (h2 : EvF G d k (q, lv1, st1, M1) r M') : EvF G d k S r M' := EvF.go h1 (hp ▸ h2)
theorem go_pick (ks : List Nat) (lv' : gL) (h : lv_pick lv ks = lv') : Go G k d (pc, lv, st, M) (pc, lv', st, M) := Go.sub lv' (fun q hq => by
  rw [← h] at hq
  obtain ⟨i, -, hi⟩ := List.mem_filterMap.mp hq
  exact List.mem_of_getElem? hi)
theorem go_rf {z : Option Nat} {y : Nat} (h : z = some y) : Go G k d (pc, lv, va_rf z :: st, M) (pc, lv, .ref y :: st, M) := Go.eq (by rw [h]; rfl) Go.rf
theorem ofInt1 : Int32.ofInt 1 = 1 := by decide
theorem go_inc1 {i n0 x : Nat} (lv' : gL) (hdg : decode k.2.1 pc = .ok (.iinc i 1, 3)) (hk : lv[n0]? = some (i, .int (nI x))) (hn : i < k.2.2.1) (hl0 : (i, Value.int (nI (x + 1))) :: lv.filter (fun q => !(q.1 == i) && !(q.1 + 1 == i && q.2.category == 2)) = lv') : Go G k d (pc, lv, st, M) (pc + 3, lv', st, M) :=
  go_iinc lv' hdg hk (by rw [ofInt1]; exact nI_1 x) hn hl0
end GEVF
theorem gNeK {M : gM} {a b ci cj : Nat} {fs fs' : List Value} (h1 : gRd M a = some (.inr (ci, fs))) (h2 : gRd M b = some (.inr (cj, fs'))) (h : ci ≠ cj) : a ≠ b := gNeC h1 h2 h
/-- a truth value as the machine has it -/
def bI (b : Bool) : Int32 := cond b 1 0
theorem bI_t {b : Bool} (h : b = true) : bI b = 1 := by rw [h]; rfl
theorem bI_f {b : Bool} (h : b = false) : bI b = 0 := by rw [h]; rfl
theorem bI_01 (b : Bool) : bI b = 0 ∨ bI b = 1 := by
  cases b
  · exact Or.inl rfl
  · exact Or.inr rfl
theorem bI_0 {b : Bool} : bI b = 0 ↔ b = false := by
  cases b <;> simp [bI]
theorem bI_n0 {b : Bool} : ¬ bI b = 0 ↔ b = true := by
  cases b <;> simp [bI]
-- what characters are
def cLet (c : Int32) : Bool := decide (97 ≤ c) && decide (c ≤ 122)
def cDig (c : Int32) : Bool := decide (48 ≤ c) && decide (c ≤ 57)
def cMac (c : Int32) : Bool := decide (65 ≤ c) && decide (c < 69)
def cSpc (c : Int32) : Bool := decide (c = 32) || decide (c = 126)
def cWid (c : Int32) : Bool := cLet c || decide (c = 45)
def cItm (c : Int32) : Bool := cWid c || (cSpc c || decide (c = 124))
def cLin (c : Int32) : Bool := cItm c || cMac c || cDig c || decide (c = 123) || decide (c = 125) || decide (c = 35) || decide (c = 61) || decide (c = 46)
