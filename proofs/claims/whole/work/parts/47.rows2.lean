section GROWS2
variable {G : gG} {k : gY} {d pc : Nat} {lv : gL} {st : List Value} {M : gM}
theorem go_zast {a n j : Nat} {f : Nat → Int32} {i x : Int32} (hx : vp_nar .boolean x = x) (hdg : decode k.2.1 pc = .ok (.bastore, 1)) (hr : gRd M a = some (aZ G n f)) (hi : i = nI j) (hj : j < n) (hn : n < 2 ^ 31) : Go G k d (pc, lv, .int x :: .int i :: .ref a :: st, M) (pc + 1, lv, st, gWr M a (aZ G n (upd f j x))) := by
  subst hi
  have hcl := nI_clamp (Nat.lt_trans hj hn)
  refine go_store hr (fun p l e R s m args below meth c H locs cells slots Q ls hK hR hl w => ?_)
  obtain ⟨hx1, hb, -, -, -, hT, -⟩ := hK
  refine W.zast hx1 hb (hR.at hr) ((hT.2.2.2 2 .boolean rfl).1 n (fun j => .int (f j))) (fun q => by cases q) (by show ¬ (nI j < 0 ∨ (arrV _ _ _).slots.size ≤ _); rw [arrV_size]; exact vp_in_nI hj hn) rfl rfl hdg fun H1 e z oq => ?_
  refine w H1 _ ?_ z oq
  show H1[a]? = some (vp_cell _ _)
  rw [e, hcl]
  rw [vp_cell_i, vp_cell_i, arrV_store]
  congr 2
  funext q
  by_cases hq : q = j
  · subst hq
    simp only [updV, upd, if_true]
    exact congrArg Value.int hx
  · simp [updV, upd, hq]
theorem go_newZ {n : Int32} {N : Nat} (hn : n = nI N) (hN : N < 134217728) (hdg : decode k.2.1 pc = .ok (.newarray .boolean, 2)) (hw : Cond.arrayClass .boolean ∈ gTB) : Go G k d (pc, lv, .int n :: st, M) (pc + 2, lv, .ref M.2.1 :: st, gNw M (aZ G N (fun _ => 0)) N) := by
  subst hn
  have hlt : N < 2 ^ 31 := by omega
  refine go_make (fun p l e R s m args below meth c H locs cells slots Q ls hK hsz hcells hslots w => ?_)
  obtain ⟨hx, hb, -, hown, -, hT, -⟩ := hK
  rw [← hsz] at w
  refine va_newaK hx hb (atype := .boolean) (hT.1 _ hw args) rfl hdg rfl (nI_pos hlt) (nI_clamp hlt) (by show N * 1 ≤ 536870912; omega) hcells hslots rfl fun H1 cA e1 z1 o1 hAr hNm => ?_
  have hcA : cA = G.2.1 2 := Option.some.inj (hNm.symm.trans (hT.2.2.2 2 .boolean rfl).2)
  subst hcA
  exact w H1 e1 z1 o1
/-- a static table's address -/
theorem go_gets (i : Nat) (hi : i < 3) {idx : Nat} (hl : Cond.fieldLink k.1.cls idx "ParagraphSetter" (gSn i) "[I" ∈ gTB) (hdg : decode k.2.1 pc = .ok (.getstatic idx, 3)) : Go G k d (pc, lv, st, M) (pc + 3, lv, .ref (G.2.2.2.2.2.2 i) :: st, M) := by
  refine Go.pure (fun p l e R s m args below meth c H locs cells slots Q ls hK hS hR hcc hsl hlv w => ?_)
  obtain ⟨hx, hb, -, hown, -, hT, hZ, -⟩ := hK
  exact va_gets hx hb (hZ.2.2.2 i hi).1 hS hown (hT.1 _ hl args) (fun x h => h) hdg w
theorem go_getsN (i : Nat) (hi : i < 3) {idx : Nat} {host : String} (hl : Cond.fieldLinkNest k.1.cls idx "ParagraphSetter" (gSn i) "[I" host ∈ gNW) (hdg : decode k.2.1 pc = .ok (.getstatic idx, 3)) : Go G k d (pc, lv, st, M) (pc + 3, lv, .ref (G.2.2.2.2.2.2 i) :: st, M) := by
  refine Go.pure (fun p l e R s m args below meth c H locs cells slots Q ls hK hS hR hcc hsl hlv w => ?_)
  obtain ⟨hx, hb, -, hown, -, hT, hZ, -⟩ := hK
  exact va_getsN hx hb (hZ.2.2.2 i hi).1 hS hown (va_tabs rfl rfl (hT.2.1 _ hl)) (fun x h => h) hdg w
/-- a number of a static table -/
theorem go_tld (i j : Nat) (hi : i < 3) (hj : j < 5) {x : Int32} (hx9 : x = nI j) (hdg : decode k.2.1 pc = .ok (.iaload, 1)) : Go G k d (pc, lv, .int x :: .ref (G.2.2.2.2.2.2 i) :: st, M) (pc + 1, lv, .int (gSv i j) :: st, M) := by
  subst hx9
  refine Go.pure (fun p l e R s m args below meth c H locs cells slots Q ls hK hS hR hcc hsl hlv w => ?_)
  obtain ⟨hx, hb, -, hown, -, hT, hZ, -⟩ := hK
  exact va_ti hx hb (hZ.2.2.2 i hi).2 hS (vp_in_nI hj (by decide)) (by rw [nI_clamp (by omega)]) hdg w
theorem go_tlen (i : Nat) (hi : i < 3) (hdg : decode k.2.1 pc = .ok (.arraylength, 1)) : Go G k d (pc, lv, .ref (G.2.2.2.2.2.2 i) :: st, M) (pc + 1, lv, .int (nI 5) :: st, M) := by
  refine Go.pure (fun p l e R s m args below meth c H locs cells slots Q ls hK hS hR hcc hsl hlv w => ?_)
  obtain ⟨hx, hb, -, hown, -, hT, hZ, -⟩ := hK
  exact va_tlen hx hb (hZ.2.2.2 i hi).2 hS rfl hdg w
/-- the script -/
theorem go_sld (j : Nat) (hj : j < G.2.2.2.2.1) (hL : G.2.2.2.2.1 < 2 ^ 31) {x : Int32} (hx9 : x = nI j) (hdg : decode k.2.1 pc = .ok (.iaload, 1)) : Go G k d (pc, lv, .int x :: .ref G.2.2.2.1 :: st, M) (pc + 1, lv, .int (G.2.2.2.2.2.1 j) :: st, M) := by
  subst hx9
  refine Go.pure (fun p l e R s m args below meth c H locs cells slots Q ls hK hS hR hcc hsl hlv w => ?_)
  obtain ⟨hx, hb, -, hown, -, hT, hZ, -⟩ := hK
  refine va_sld hx hb hZ.1 hZ.2.2.1 (fun q => absurd (Nat.lt_of_lt_of_le hZ.2.1 q) (Nat.lt_irrefl _)) hS (vp_in_nI hj hL) hdg ?_
  rw [nI_clamp (by omega)]
  exact w
theorem go_slen (hdg : decode k.2.1 pc = .ok (.arraylength, 1)) : Go G k d (pc, lv, .ref G.2.2.2.1 :: st, M) (pc + 1, lv, .int (nI G.2.2.2.2.1) :: st, M) := by
  refine Go.pure (fun p l e R s m args below meth c H locs cells slots Q ls hK hS hR hcc hsl hlv w => ?_)
  obtain ⟨hx, hb, -, hown, -, hT, hZ, -⟩ := hK
  exact va_slen hx hb hZ.1 hZ.2.2.1 (fun q => absurd (Nat.lt_of_lt_of_le hZ.2.1 q) (Nat.lt_irrefl _)) hS hdg w
end GROWS2
theorem gs_Stg_32 : Cond.fieldLinkNest R_Stg 32 "ParagraphSetter" "FIRST_VALUES" "[I" "ParagraphSetter" ∈ gNW := gNW_in (gIn1 (List.mem_of_getElem? (i := 235) (by decide +kernel))) rfl
