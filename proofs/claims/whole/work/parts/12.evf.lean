/-- from the frame's state S the method answers r and leaves M' -/
def EvF (G : gG) (d : Nat) (k : gY) (S : gS) (r : Option Value) (M' : gM) : Prop := ∃ (pcR : Nat) (lvR : gL) (stR : List Value), Go G k d S (pcR, lvR, stR, M') ∧ gRet k pcR stR r
section GEVF
variable {G : gG} {k : gY} {d pc : Nat} {lv : gL} {st : List Value} {M M' : gM} {S S1 : gS} {r : Option Value} {av : List Value}
theorem EvF.go (h : Go G k d S S1) (h2 : EvF G d k S1 r M') : EvF G d k S r M' := by
  obtain ⟨a, b, c, h3, h4⟩ := h2
  exact ⟨a, b, c, h.tr h3, h4⟩
theorem Ev.of (hl : (lg_sl av).length ≤ k.2.2.1) (h : EvF G d k (0, lv_args 0 av, [], M) r M') : Ev G d k av M r M' := by
  obtain ⟨a, b, c, h3, h4⟩ := h
  exact ⟨a, b, c, h3, h4, hl⟩
theorem EvF.ri {v w : Int32} (hdg : decode k.2.1 pc = .ok (.ireturn, 1)) (ht : k.2.2.2 = some .int) (hv : v = w) (hM : M = M') : EvF G d k (pc, lv, [.int v], M) (some (.int w)) M' := by
  subst hv; subst hM
  exact ⟨_, _, _, Go.rf, Or.inl ⟨v, rfl, rfl, ⟨_, ht, rfl⟩, hdg⟩⟩
theorem EvF.rz {v w : Int32} (hdg : decode k.2.1 pc = .ok (.ireturn, 1)) (ht : k.2.2.2 = some .boolean) (hw : v = 0 ∨ v = 1) (hv : v = w) (hM : M = M') : EvF G d k (pc, lv, [.int v], M) (some (.int w)) M' := by
  subst hv; subst hM
  exact ⟨_, _, _, Go.rf, Or.inl ⟨v, rfl, rfl, ⟨_, ht, by rcases hw with rfl | rfl <;> rfl⟩, hdg⟩⟩
theorem EvF.rl {v w : Int64} (hdg : decode k.2.1 pc = .ok (.lreturn, 1)) (ht : k.2.2.2 = some .long) (hv : v = w) (hM : M = M') : EvF G d k (pc, lv, [.long v], M) (some (.long w)) M' := by
  subst hv; subst hM
  exact ⟨_, _, _, Go.rf, Or.inr (Or.inl ⟨v, rfl, rfl, ht, hdg⟩)⟩
theorem EvF.rv (hdg : decode k.2.1 pc = .ok (.return_, 1)) (ht : k.2.2.2 = none) (hM : M = M') : EvF G d k (pc, lv, [], M) none M' := by
  subst hM
  exact ⟨_, _, _, Go.rf, Or.inr (Or.inr (Or.inl ⟨rfl, rfl, ht, hdg⟩))⟩
end GEVF
/-- a truth value as the machine has it -/
def bI (b : Bool) : Int32 := cond b 1 0
theorem bI_t {b : Bool} (h : b = true) : bI b = 1 := by rw [h]; rfl
theorem bI_f {b : Bool} (h : b = false) : bI b = 0 := by rw [h]; rfl
theorem bI_01 (b : Bool) : bI b = 0 ∨ bI b = 1 := by
  cases b
  · exact Or.inl rfl
  · exact Or.inr rfl
theorem bI_0 {b : Bool} : bI b = 0 ↔ b = false := by
  cases b <;> simp [bI]
theorem bI_n0 {b : Bool} : ¬ bI b = 0 ↔ b = true := by
  cases b <;> simp [bI]
-- what characters are
def cLet (c : Int32) : Bool := decide (97 ≤ c) && decide (c ≤ 122)
def cDig (c : Int32) : Bool := decide (48 ≤ c) && decide (c ≤ 57)
def cMac (c : Int32) : Bool := decide (65 ≤ c) && decide (c < 69)
def cSpc (c : Int32) : Bool := decide (c = 32) || decide (c = 126)
def cWid (c : Int32) : Bool := cLet c || decide (c = 45)
def cItm (c : Int32) : Bool := cWid c || (cSpc c || decide (c = 124))
def cLin (c : Int32) : Bool := cItm c || cMac c || cDig c || decide (c = 123) || decide (c = 125) || decide (c = 35) || decide (c = 61) || decide (c = 46)
