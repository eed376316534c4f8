def gNest : Cond → Bool
  | .fieldLinkNest .. => true
  | .methodLinkNest .. => true
  | .arrayOver (.object _) => true
  | _ => false
def gNW : List Cond := lw_tbl.filter gNest
theorem gNW_in {w : Cond} (h : w ∈ tables_1) (hn : gNest w = true) : w ∈ gNW := List.mem_filter.mpr ⟨List.mem_append_right _ h, hn⟩
theorem gNW_moved (w : Cond) (hw : w ∈ gNW) {s U : State} (hW : s.WarmedH U.vm) (h : va_Nw w s) : va_Nw w U := by
  have hn : gNest w = true := (List.mem_filter.mp hw).2
  cases w <;> first | exact va_Nw.warmF hW h | exact va_Nw.warmM hW h | exact absurd hn Bool.false_ne_true | (rename_i ty; cases ty <;> first | exact va_AO.moved hW.alike h | exact absurd hn Bool.false_ne_true)
-- ===== THE LAYER: an abstract memory, and the machine's steps over it =====
/-- a memory: cells by address; how many cells the heap has; how many slots were taken so far -/
abbrev gM : Type := (Nat → Option va_E) × Nat × Nat
/-- what stays in a run: D; the number of each kind of array; the first address that is ours; the script (address, length, ints); addresses of the static tables -/
abbrev gG : Type := va_G × (Nat → ClassId) × Nat × Nat × Nat × (Nat → Int32) × (Nat → Nat)
abbrev gL : Type := List (Nat × Value)
/-- a frame's state: place, locals, operand stack, memory -/
abbrev gS : Type := Nat × gL × List Value × gM
/-- a method: name, bytes, locals, what it returns -/
abbrev gY : Type := MethodName × ByteArray × Nat × Option FieldType
def gRd (M : gM) (a : Nat) : Option va_E := M.1 a
def gWr (M : gM) (a : Nat) (e : va_E) : gM := (fun q => if q = a then some e else M.1 q, M.2)
def gNw (M : gM) (e : va_E) (k : Nat) : gM := (fun q => if q = M.2.1 then some e else M.1 q, M.2.1 + 1, M.2.2 + k)
theorem gRd_s (M : gM) (a : Nat) (e : va_E) : gRd (gWr M a e) a = some e := if_pos rfl
theorem gRd_n (M : gM) {a b : Nat} (e : va_E) (h : b ≠ a) : gRd (gWr M a e) b = gRd M b := if_neg h
theorem gRd_ns (M : gM) (e : va_E) (k : Nat) : gRd (gNw M e k) M.2.1 = some e := if_pos rfl
theorem gRd_nn (M : gM) {b : Nat} (e : va_E) (k : Nat) (h : b ≠ M.2.1) : gRd (gNw M e k) b = gRd M b := if_neg h
theorem gM_ext {M N : gM} (h : ∀ q, gRd M q = gRd N q) (h2 : M.2 = N.2) : M = N := Prod.ext (funext h) h2
theorem gWr_wr (M : gM) (a : Nat) (e f : va_E) : gWr (gWr M a e) a f = gWr M a f := by
  refine gM_ext (fun q => ?_) rfl
  by_cases h : q = a
  · subst h; rw [gRd_s, gRd_s]
  · rw [gRd_n _ _ h, gRd_n _ _ h, gRd_n _ _ h]
theorem gWr_cm (M : gM) {a b : Nat} (e f : va_E) (h : a ≠ b) : gWr (gWr M a e) b f = gWr (gWr M b f) a e := by
  refine gM_ext (fun q => ?_) rfl
  by_cases h1 : q = a
  · subst h1; rw [gRd_n _ _ h, gRd_s, gRd_s]
  · by_cases h2 : q = b
    · subst h2; rw [gRd_s, gRd_n _ _ h1, gRd_s]
    · rw [gRd_n _ _ h2, gRd_n _ _ h1, gRd_n _ _ h1, gRd_n _ _ h2]
theorem gWr_id {M : gM} {a : Nat} {e : va_E} (h : gRd M a = some e) : gWr M a e = M := by
  refine gM_ext (fun q => ?_) rfl
  by_cases h1 : q = a
  · subst h1; rw [gRd_s, h]
  · rw [gRd_n _ _ h1]
theorem gNe {M : gM} {a b : Nat} {x : ClassId × vp_A} {o : Nat × List Value} (h1 : gRd M a = some (.inr o)) (h2 : gRd M b = some (.inl x)) : a ≠ b := fun e => by
  rw [e, h2] at h1; cases h1
theorem gNeC {M : gM} {a b : Nat} {o o2 : Nat × List Value} (h1 : gRd M a = some (.inr o)) (h2 : gRd M b = some (.inr o2)) (h : o.1 ≠ o2.1) : a ≠ b := fun e => by
  rw [e, h2] at h1; cases h1; exact h rfl
-- the tables
def gArr (G : gG) (U : State) : Prop := ∀ (i : Nat) (ty : FieldType), gTys[i]? = some ty → ArrOfT U (G.2.1 i) ty ∧ va_RA U (G.2.1 i) ty
def gT (G : gG) (U : State) : Prop :=
  (∀ w ∈ gTB, ∀ a : Array Value, w.before a U = true) ∧ (∀ w ∈ gNW, va_Nw w U) ∧
  (∀ (c : Nat) (q : vw_C), classes[c]? = some q → u_Kn U q.1 q.2.1 q.2.2 (G.1.1 c) (G.1.2 c)) ∧ gArr G U
theorem gT.moved {G : gG} {s U : State} (hW : s.WarmedH U.vm) (h : gT G s) : gT G U :=
  ⟨fun w hw a => word_at hW (gTB_good w hw) (h.1 w hw #[]), fun w hw => gNW_moved w hw hW (h.2.1 w hw), fun c q hq => u_Kn_moved hW.alike (h.2.2.1 c q hq), fun i ty hi => ⟨arrOfT_moved hW.alike (h.2.2.2 i ty hi).1, (h.2.2.2 i ty hi).2.moved hW.alike⟩⟩
theorem gT.K {G : gG} {s : State} (h : gT G s) : va_K G.1 classes [] s := ⟨h.2.2.1, fun k q hk => by simp at hk⟩
def gA (G : gG) : Nat → Prop := fun q => G.2.2.1 ≤ q
-- script and static tables
def gSn (i : Nat) : String := if i = 0 then "FIRST_VALUES" else if i = 1 then "LEAST_VALUES" else "MOST_VALUES"
def gSv (i j : Nat) : Int32 := ((([[60, 200, 10, 50, 0], [10, 0, 0, 0, 0], [400, 10000, 100, 200, 10000]] : List (List Int32)).getD i []).getD j 0)
def gZ (G : gG) (U : State) (H : Heap) : Prop := va_X G.2.2.2.1 G.2.2.2.2.1 G.2.2.2.2.2.1 U H ∧ G.2.2.2.1 < G.2.2.1 ∧ G.2.2.2.1 < H.size ∧
  ∀ i, i < 3 → va_Z "ParagraphSetter" (gSn i) "[I" (.ref (G.2.2.2.2.2.2 i)) (gA G) U H ∧ va_T .int (G.2.2.2.2.2.2 i) 5 (fun j => .int (gSv i j)) (gA G) U H
theorem gZ.moved {G : gG} {u U : State} {H : Heap} (hvm : u.vm.Alike U.vm) (h : gZ G u H) : gZ G U H :=
  ⟨h.1.moved hvm, h.2.1, h.2.2.1, fun i hi => ⟨(h.2.2.2 i hi).1.moved hvm, (h.2.2.2 i hi).2.moved hvm⟩⟩
theorem gZ.kept {G : gG} {U : State} {H H1 : Heap} (h : gZ G U H) (hq : ∀ a : Nat, a < H.size → ¬ gA G a → H1[a]? = H[a]?) : gZ G U H1 := by
  have hb : H1[G.2.2.2.1]? = H[G.2.2.2.1]? := hq _ h.2.2.1 (fun q => absurd (Nat.lt_of_lt_of_le h.2.1 q) (Nat.lt_irrefl _))
  have hx := h.1.kept hb
  refine ⟨hx, h.2.1, ?_, fun i hi => ⟨(h.2.2.2 i hi).1.kept hq, (h.2.2.2 i hi).2.kept hq⟩⟩
  obtain ⟨scr, h1, -⟩ := hx
  exact (Array.getElem?_eq_some_iff.mp h1).1
-- memory and heap
def gR (G : gG) (M : gM) (H : Heap) : Prop := (∀ (a : Nat) (e : va_E), M.1 a = some e → G.2.2.1 ≤ a ∧ va_at G.1 classes (a, e) H) ∧ H.size = M.2.1
theorem gR.at {G : gG} {M : gM} {H : Heap} (h : gR G M H) {a : Nat} {e : va_E} (ha : gRd M a = some e) : va_at G.1 classes (a, e) H := (h.1 a e ha).2
theorem gR.lo {G : gG} {M : gM} {H : Heap} (h : gR G M H) {a : Nat} {e : va_E} (ha : gRd M a = some e) : gA G a := (h.1 a e ha).1
theorem gR.set {G : gG} {M : gM} {H H1 : Heap} (h : gR G M H) {a : Nat} {e0 e : va_E} (ha : gRd M a = some e0) (he : va_at G.1 classes (a, e) H1) (z : H1.size = H.size) (oq : ∀ q : Nat, q ≠ a → H1[q]? = H[q]?) : gR G (gWr M a e) H1 := by
  refine ⟨fun b f hb => ?_, z.trans h.2⟩
  by_cases hba : b = a
  · subst hba
    have : f = e := by
      have h2 : gRd (gWr M b e) b = some f := hb
      rw [gRd_s] at h2; exact (Option.some.inj h2).symm
    subst this
    exact ⟨(h.1 b e0 ha).1, he⟩
  · have h2 : gRd M b = some f := by
      have h3 : gRd (gWr M a e) b = some f := hb
      rw [gRd_n _ _ hba] at h3; exact h3
    exact ⟨(h.1 b f h2).1, (h.1 b f h2).2.kept (oq b hba)⟩
theorem gR.push {G : gG} {M : gM} {H H1 : Heap} (h : gR G M H) {e : va_E} {k : Nat} (hb0 : G.2.2.1 ≤ H.size) (he : va_at G.1 classes (H.size, e) H1) (z : H1.size = H.size + 1) (oq : ∀ q : Nat, q < H.size → H1[q]? = H[q]?) : gR G (gNw M e k) H1 := by
  refine ⟨fun b f hb => ?_, by rw [z, h.2]; rfl⟩
  by_cases hba : b = M.2.1
  · subst hba
    have : f = e := by
      have h2 : gRd (gNw M e k) M.2.1 = some f := hb
      rw [gRd_ns] at h2; exact (Option.some.inj h2).symm
    subst this
    rw [← h.2]
    exact ⟨hb0, he⟩
  · have h2 : gRd M b = some f := by
      have h3 : gRd (gNw M e k) b = some f := hb
      rw [gRd_nn _ _ _ hba] at h3; exact h3
    have h4 := (h.1 b f h2).2
    exact ⟨(h.1 b f h2).1, h4.kept (oq b h4.lt)⟩
/-- what a frame of the method k stands in: the machine, the code, the tables, the script and the static tables, room for d frames above it -/
def gK (G : gG) (k : gY) (d : Nat) (p : Program) (R : Room) (s : State) (m : MethodId) (meth : Method) (c : Code) : Prop :=
  p.tables.exec = Jvm.exec ∧ c.code = k.2.1 ∧ c.maxLocals = k.2.2.1 ∧ s.vm.findClass k.1.cls = some m.cls ∧ meth.name = k.1.name ∧ gT G s ∧ gZ G s s.heap ∧ G.2.2.1 ≤ s.heap.size ∧ d ≤ R.frames ∧ 40 * d ≤ R.locals
def gX (G : gG) (k : gY) (p : Program) (l : Launch) (e : Env) (R : Room) (s : State) (m : MethodId) (args : Array Value) (below : List Frame) (meth : Method) (c : Code) (u0 : Nat) (Q : State → Prop) (S : gS) : Prop :=
  ∀ (H : Heap) (locs : List Loc) (ls : Array Slot), gR G S.2.2.2 H → va_S (gA G) s.heap H locs → lv_has ls k.2.2.1 S.2.1 →
    W p l e R s m args below meth c H locs (S.2.2.2.2.1 - s.heap.size) (S.2.2.2.2.2 - u0) Q (F0 m S.1 ls S.2.2.1)
/-- from S the frame comes to S' -/
def Go (G : gG) (k : gY) (d : Nat) (S S' : gS) : Prop :=
  (S.2.2.2.2.1 ≤ S'.2.2.2.2.1 ∧ S.2.2.2.2.2 ≤ S'.2.2.2.2.2) ∧
  ∀ (p : Program) (l : Launch) (e : Env) (R : Room) (s : State) (m : MethodId) (args : Array Value) (below : List Frame) (meth : Method) (c : Code) (u0 : Nat) (Q : State → Prop), gK G k d p R s m meth c → s.heap.size ≤ S.2.2.2.2.1 → u0 ≤ S.2.2.2.2.2 →
    S'.2.2.2.2.1 ≤ s.heap.size + R.cells → S'.2.2.2.2.2 ≤ u0 + R.slots → gX G k p l e R s m args below meth c u0 Q S' → gX G k p l e R s m args below meth c u0 Q S
theorem Go.rf {G : gG} {k : gY} {d : Nat} {S : gS} : Go G k d S S := ⟨⟨Nat.le_refl _, Nat.le_refl _⟩, fun _ _ _ _ _ _ _ _ _ _ _ _ _ _ _ _ _ h => h⟩
theorem Go.tr {G : gG} {k : gY} {d : Nat} {S S1 S2 : gS} (h1 : Go G k d S S1) (h2 : Go G k d S1 S2) : Go G k d S S2 := by
  obtain ⟨⟨a1, a2⟩, f1⟩ := h1
  obtain ⟨⟨b1, b2⟩, f2⟩ := h2
  refine ⟨⟨Nat.le_trans a1 b1, Nat.le_trans a2 b2⟩, ?_⟩
  intro p l e R s m args below meth c u0 Q hK h3 h4 h5 h6 hX
  exact f1 p l e R s m args below meth c u0 Q hK h3 h4 (Nat.le_trans b1 h5) (Nat.le_trans b2 h6) (f2 p l e R s m args below meth c u0 Q hK (Nat.le_trans h3 a1) (Nat.le_trans h4 a2) h5 h6 hX)
theorem Go.up {G : gG} {k : gY} {d d' : Nat} {S S' : gS} (h : Go G k d S S') (hd : d ≤ d') : Go G k d' S S' := by
  refine ⟨h.1, ?_⟩
  intro p l e R s m args below meth c u0 Q hK
  obtain ⟨k1, k2, k3, k4, k5, k6, k7, k8, k9, k10⟩ := hK
  exact h.2 p l e R s m args below meth c u0 Q ⟨k1, k2, k3, k4, k5, k6, k7, k8, Nat.le_trans hd k9, by omega⟩
theorem Go.eq {G : gG} {k : gY} {d : Nat} {S S1 S' : gS} (e : S = S1) (h : Go G k d S1 S') : Go G k d S S' := e ▸ h
theorem Go.to {G : gG} {k : gY} {d : Nat} {S S1 S' : gS} (e : S1 = S') (h : Go G k d S S1) : Go G k d S S' := e ▸ h
/-- a step that touches neither memory nor locals -/
theorem Go.pure {G : gG} {k : gY} {d pc pc' : Nat} {lv : gL} {st st' : List Value} {M : gM}
    (h : ∀ (p : Program) (l : Launch) (e : Env) (R : Room) (s : State) (m : MethodId) (args : Array Value) (below : List Frame) (meth : Method) (c : Code) (H : Heap) (locs : List Loc) (cells slots : Nat) (Q : State → Prop) (ls : Array Slot), gK G k d p R s m meth c → va_S (gA G) s.heap H locs → gR G M H → cells ≤ R.cells → slots ≤ R.slots → lv_has ls k.2.2.1 lv → W p l e R s m args below meth c H locs cells slots Q (F0 m pc' ls st') → W p l e R s m args below meth c H locs cells slots Q (F0 m pc ls st)) :
    Go G k d (pc, lv, st, M) (pc', lv, st', M) := by
  refine ⟨⟨Nat.le_refl _, Nat.le_refl _⟩, ?_⟩
  intro p l e R s m args below meth c u0 Q hK h3 h4 h5 h6 hX H locs ls hR hS hl
  dsimp only at h3 h4 h5 h6
  exact h p l e R s m args below meth c H locs _ _ Q ls hK hS hR (by dsimp only; omega) (by dsimp only; omega) hl (hX H locs ls hR hS hl)
/-- a step that changes the locals alone -/
theorem Go.loc {G : gG} {k : gY} {d pc pc' : Nat} {lv lv' : gL} {st st' : List Value} {M : gM}
    (h : ∀ (p : Program) (l : Launch) (e : Env) (R : Room) (s : State) (m : MethodId) (args : Array Value) (below : List Frame) (meth : Method) (c : Code) (H : Heap) (locs : List Loc) (cells slots : Nat) (Q : State → Prop) (ls : Array Slot), gK G k d p R s m meth c → lv_has ls k.2.2.1 lv → (∀ ls' : Array Slot, lv_has ls' k.2.2.1 lv' → W p l e R s m args below meth c H locs cells slots Q (F0 m pc' ls' st')) → W p l e R s m args below meth c H locs cells slots Q (F0 m pc ls st)) :
    Go G k d (pc, lv, st, M) (pc', lv', st', M) := by
  refine ⟨⟨Nat.le_refl _, Nat.le_refl _⟩, ?_⟩
  intro p l e R s m args below meth c u0 Q hK h3 h4 h5 h6 hX H locs ls hR hS hl
  exact h p l e R s m args below meth c H locs _ _ Q ls hK hl (fun ls' hl' => hX H locs ls' hR hS hl')
/-- fewer locals, in any order -/
theorem Go.sub {G : gG} {k : gY} {d pc : Nat} {lv : gL} (lv' : gL) {st : List Value} {M : gM} (h : ∀ q ∈ lv', q ∈ lv) : Go G k d (pc, lv, st, M) (pc, lv', st, M) := by
  refine ⟨⟨Nat.le_refl _, Nat.le_refl _⟩, ?_⟩
  intro p l e R s m args below meth c u0 Q hK h3 h4 h5 h6 hX H locs ls hR hS hl
  exact hX H locs ls hR hS ⟨hl.1, hl.2.1, fun q hq => hl.2.2 q (h q hq)⟩
