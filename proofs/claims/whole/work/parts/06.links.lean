theorem cl_Law_7 : Cond.classLink R_Law 7 "ParagraphSetter" ∈ gTB := gTB_t (gIn1 (List.mem_of_getElem? (i := 14) (by decide +kernel))) (by decide +kernel)
theorem lk_Law_9 : gLk R_Law 9 m_PS_init := Or.inl (gTB_t (gIn1 (List.mem_of_getElem? (i := 16) (by decide +kernel))) (by decide +kernel))
theorem ob_PS_3 : Cond.methodLink R_PS 3 Lib.objectInit ∈ gTB := gTB_t (gIn1 (List.mem_of_getElem? (i := 19) (by decide +kernel))) (by decide +kernel)
theorem cl_PS_9 : Cond.classLink R_PS 9 "ParagraphSetter$Row" ∈ gTB := gTB_t (gIn1 (List.mem_of_getElem? (i := 22) (by decide +kernel))) (by decide +kernel)
theorem lk_PS_11 : gLk R_PS 11 m_Row_init := Or.inl (gTB_t (gIn1 (List.mem_of_getElem? (i := 24) (by decide +kernel))) (by decide +kernel))
theorem ob_Row_1 : Cond.methodLink R_Row 1 Lib.objectInit ∈ gTB := gTB_t (gIn1 (List.mem_of_getElem? (i := 27) (by decide +kernel))) (by decide +kernel)
theorem f_Row_7 : gF R_Row 7 0 0 := ⟨R_Row, F_Row, 2, rfl, by decide, rfl, l_Row, Or.inl (gTB_t (gIn1 (List.mem_of_getElem? (i := 28) (by decide +kernel))) (by decide +kernel))⟩
theorem ff_Row_7 : ∀ C T N, classes[0]? = some (C, T, N) → C = R_Row ∧ Cond.fieldLink R_Row 7 C (T 0).2.1 (T 0).2.2.1 ∈ gTB := fun C T N h => by cases h; exact ⟨rfl, gTB_t (gIn1 (List.mem_of_getElem? (i := 28) (by decide +kernel))) (by decide +kernel)⟩
theorem f_Pat_25 : gF R_Pat 25 0 0 := ⟨R_Row, F_Row, 2, rfl, by decide, rfl, l_Row, Or.inr ⟨"ParagraphSetter", gNW_in (gIn1 (List.mem_of_getElem? (i := 29) (by decide +kernel))) rfl⟩⟩
theorem f_Exp_63 : gF R_Exp 63 0 0 := ⟨R_Row, F_Row, 2, rfl, by decide, rfl, l_Row, Or.inr ⟨"ParagraphSetter", gNW_in (gIn1 (List.mem_of_getElem? (i := 30) (by decide +kernel))) rfl⟩⟩
theorem f_Row_13 : gF R_Row 13 0 1 := ⟨R_Row, F_Row, 2, rfl, by decide, rfl, l_Row, Or.inl (gTB_t (gIn1 (List.mem_of_getElem? (i := 31) (by decide +kernel))) (by decide +kernel))⟩
theorem f_Pat_22 : gF R_Pat 22 0 1 := ⟨R_Row, F_Row, 2, rfl, by decide, rfl, l_Row, Or.inr ⟨"ParagraphSetter", gNW_in (gIn1 (List.mem_of_getElem? (i := 32) (by decide +kernel))) rfl⟩⟩
theorem f_PS_70 : gF R_PS 70 0 1 := ⟨R_Row, F_Row, 2, rfl, by decide, rfl, l_Row, Or.inr ⟨"ParagraphSetter", gNW_in (gIn1 (List.mem_of_getElem? (i := 33) (by decide +kernel))) rfl⟩⟩
theorem f_Exp_59 : gF R_Exp 59 0 1 := ⟨R_Row, F_Row, 2, rfl, by decide, rfl, l_Row, Or.inr ⟨"ParagraphSetter", gNW_in (gIn1 (List.mem_of_getElem? (i := 34) (by decide +kernel))) rfl⟩⟩
theorem gs_PS_22 : Cond.fieldLink R_PS 22 "ParagraphSetter" "FIRST_VALUES" "[I" ∈ gTB := gTB_t (gIn1 (List.mem_of_getElem? (i := 41) (by decide +kernel))) (by decide +kernel)
theorem cl_PS_28 : Cond.classLink R_PS 28 "ParagraphSetter$Expander" ∈ gTB := gTB_t (gIn1 (List.mem_of_getElem? (i := 43) (by decide +kernel))) (by decide +kernel)
theorem lk_PS_30 : gLk R_PS 30 m_Exp_init := Or.inl (gTB_t (gIn1 (List.mem_of_getElem? (i := 45) (by decide +kernel))) (by decide +kernel))
theorem ob_Exp_3 : Cond.methodLink R_Exp 3 Lib.objectInit ∈ gTB := gTB_t (gIn1 (List.mem_of_getElem? (i := 48) (by decide +kernel))) (by decide +kernel)
theorem cl_Exp_9 : Cond.classLink R_Exp 9 "ParagraphSetter$Macro" ∈ gTB := gTB_t (gIn1 (List.mem_of_getElem? (i := 49) (by decide +kernel))) (by decide +kernel)
theorem cl_Exp_21 : Cond.classLink R_Exp 21 "ParagraphSetter$Row" ∈ gTB := gTB_t (gIn1 (List.mem_of_getElem? (i := 51) (by decide +kernel))) (by decide +kernel)
theorem lk_Exp_23 : gLk R_Exp 23 m_Row_init := Or.inl (gTB_t (gIn1 (List.mem_of_getElem? (i := 52) (by decide +kernel))) (by decide +kernel))
theorem lk_Exp_33 : gLk R_Exp 33 m_Mac_init := Or.inr ⟨"ParagraphSetter", gNW_in (gIn1 (List.mem_of_getElem? (i := 54) (by decide +kernel))) rfl⟩
theorem ob_Mac_3 : Cond.methodLink R_Mac 3 Lib.objectInit ∈ gTB := gTB_t (gIn1 (List.mem_of_getElem? (i := 57) (by decide +kernel))) (by decide +kernel)
theorem cl_Mac_9 : Cond.classLink R_Mac 9 "ParagraphSetter$Row" ∈ gTB := gTB_t (gIn1 (List.mem_of_getElem? (i := 58) (by decide +kernel))) (by decide +kernel)
theorem lk_Mac_11 : gLk R_Mac 11 m_Row_init := Or.inl (gTB_t (gIn1 (List.mem_of_getElem? (i := 59) (by decide +kernel))) (by decide +kernel))
theorem f_Mac_14 : gF R_Mac 14 1 0 := ⟨R_Mac, F_Mac, 2, rfl, by decide, rfl, l_Mac, Or.inl (gTB_t (gIn1 (List.mem_of_getElem? (i := 60) (by decide +kernel))) (by decide +kernel))⟩
theorem ff_Mac_14 : ∀ C T N, classes[1]? = some (C, T, N) → C = R_Mac ∧ Cond.fieldLink R_Mac 14 C (T 0).2.1 (T 0).2.2.1 ∈ gTB := fun C T N h => by cases h; exact ⟨rfl, gTB_t (gIn1 (List.mem_of_getElem? (i := 60) (by decide +kernel))) (by decide +kernel)⟩
theorem f_Exp_103 : gF R_Exp 103 1 0 := ⟨R_Mac, F_Mac, 2, rfl, by decide, rfl, l_Mac, Or.inr ⟨"ParagraphSetter", gNW_in (gIn1 (List.mem_of_getElem? (i := 61) (by decide +kernel))) rfl⟩⟩
theorem f_Mac_20 : gF R_Mac 20 1 1 := ⟨R_Mac, F_Mac, 2, rfl, by decide, rfl, l_Mac, Or.inl (gTB_t (gIn1 (List.mem_of_getElem? (i := 62) (by decide +kernel))) (by decide +kernel))⟩
theorem f_Exp_99 : gF R_Exp 99 1 1 := ⟨R_Mac, F_Mac, 2, rfl, by decide, rfl, l_Mac, Or.inr ⟨"ParagraphSetter", gNW_in (gIn1 (List.mem_of_getElem? (i := 63) (by decide +kernel))) rfl⟩⟩
theorem f_Exp_11 : gF R_Exp 11 2 0 := ⟨R_Exp, F_Exp, 8, rfl, by decide, rfl, l_Exp, Or.inl (gTB_t (gIn1 (List.mem_of_getElem? (i := 69) (by decide +kernel))) (by decide +kernel))⟩
theorem ff_Exp_11 : ∀ C T N, classes[2]? = some (C, T, N) → C = R_Exp ∧ Cond.fieldLink R_Exp 11 C (T 0).2.1 (T 0).2.2.1 ∈ gTB := fun C T N h => by cases h; exact ⟨rfl, gTB_t (gIn1 (List.mem_of_getElem? (i := 69) (by decide +kernel))) (by decide +kernel)⟩
theorem f_PS_90 : gF R_PS 90 2 0 := ⟨R_Exp, F_Exp, 8, rfl, by decide, rfl, l_Exp, Or.inr ⟨"ParagraphSetter", gNW_in (gIn1 (List.mem_of_getElem? (i := 70) (by decide +kernel))) rfl⟩⟩
theorem f_Exp_17 : gF R_Exp 17 2 1 := ⟨R_Exp, F_Exp, 8, rfl, by decide, rfl, l_Exp, Or.inl (gTB_t (gIn1 (List.mem_of_getElem? (i := 71) (by decide +kernel))) (by decide +kernel))⟩
theorem ff_Exp_17 : ∀ C T N, classes[2]? = some (C, T, N) → C = R_Exp ∧ Cond.fieldLink R_Exp 17 C (T 1).2.1 (T 1).2.2.1 ∈ gTB := fun C T N h => by cases h; exact ⟨rfl, gTB_t (gIn1 (List.mem_of_getElem? (i := 71) (by decide +kernel))) (by decide +kernel)⟩
theorem f_Exp_60 : gF R_Exp 60 2 2 := ⟨R_Exp, F_Exp, 8, rfl, by decide, rfl, l_Exp, Or.inl (gTB_t (gIn1 (List.mem_of_getElem? (i := 72) (by decide +kernel))) (by decide +kernel))⟩
theorem f_Exp_26 : gF R_Exp 26 2 3 := ⟨R_Exp, F_Exp, 8, rfl, by decide, rfl, l_Exp, Or.inl (gTB_t (gIn1 (List.mem_of_getElem? (i := 73) (by decide +kernel))) (by decide +kernel))⟩
theorem ff_Exp_26 : ∀ C T N, classes[2]? = some (C, T, N) → C = R_Exp ∧ Cond.fieldLink R_Exp 26 C (T 3).2.1 (T 3).2.2.1 ∈ gTB := fun C T N h => by cases h; exact ⟨rfl, gTB_t (gIn1 (List.mem_of_getElem? (i := 73) (by decide +kernel))) (by decide +kernel)⟩
theorem f_Exp_30 : gF R_Exp 30 2 4 := ⟨R_Exp, F_Exp, 8, rfl, by decide, rfl, l_Exp, Or.inl (gTB_t (gIn1 (List.mem_of_getElem? (i := 74) (by decide +kernel))) (by decide +kernel))⟩
theorem ff_Exp_30 : ∀ C T N, classes[2]? = some (C, T, N) → C = R_Exp ∧ Cond.fieldLink R_Exp 30 C (T 4).2.1 (T 4).2.2.1 ∈ gTB := fun C T N h => by cases h; exact ⟨rfl, gTB_t (gIn1 (List.mem_of_getElem? (i := 74) (by decide +kernel))) (by decide +kernel)⟩
theorem f_Exp_56 : gF R_Exp 56 2 5 := ⟨R_Exp, F_Exp, 8, rfl, by decide, rfl, l_Exp, Or.inl (gTB_t (gIn1 (List.mem_of_getElem? (i := 75) (by decide +kernel))) (by decide +kernel))⟩
theorem f_Exp_66 : gF R_Exp 66 2 6 := ⟨R_Exp, F_Exp, 8, rfl, by decide, rfl, l_Exp, Or.inl (gTB_t (gIn1 (List.mem_of_getElem? (i := 76) (by decide +kernel))) (by decide +kernel))⟩
theorem f_Exp_69 : gF R_Exp 69 2 7 := ⟨R_Exp, F_Exp, 8, rfl, by decide, rfl, l_Exp, Or.inl (gTB_t (gIn1 (List.mem_of_getElem? (i := 77) (by decide +kernel))) (by decide +kernel))⟩
theorem f_PS_114 : gF R_PS 114 2 7 := ⟨R_Exp, F_Exp, 8, rfl, by decide, rfl, l_Exp, Or.inr ⟨"ParagraphSetter", gNW_in (gIn1 (List.mem_of_getElem? (i := 78) (by decide +kernel))) rfl⟩⟩
theorem cl_PS_35 : Cond.classLink R_PS 35 "ParagraphSetter$Hyphenator" ∈ gTB := gTB_t (gIn1 (List.mem_of_getElem? (i := 96) (by decide +kernel))) (by decide +kernel)
theorem lk_PS_37 : gLk R_PS 37 m_Hyp_init := Or.inl (gTB_t (gIn1 (List.mem_of_getElem? (i := 98) (by decide +kernel))) (by decide +kernel))
theorem ob_Hyp_3 : Cond.methodLink R_Hyp 3 Lib.objectInit ∈ gTB := gTB_t (gIn1 (List.mem_of_getElem? (i := 101) (by decide +kernel))) (by decide +kernel)
theorem cl_Hyp_9 : Cond.classLink R_Hyp 9 "ParagraphSetter$Pattern" ∈ gTB := gTB_t (gIn1 (List.mem_of_getElem? (i := 102) (by decide +kernel))) (by decide +kernel)
theorem lk_Hyp_25 : gLk R_Hyp 25 m_Pat_init := Or.inr ⟨"ParagraphSetter", gNW_in (gIn1 (List.mem_of_getElem? (i := 105) (by decide +kernel))) rfl⟩
theorem ob_Pat_3 : Cond.methodLink R_Pat 3 Lib.objectInit ∈ gTB := gTB_t (gIn1 (List.mem_of_getElem? (i := 108) (by decide +kernel))) (by decide +kernel)
theorem f_Pat_9 : gF R_Pat 9 4 0 := ⟨R_Pat, F_Pat, 3, rfl, by decide, rfl, l_Pat, Or.inl (gTB_t (gIn1 (List.mem_of_getElem? (i := 109) (by decide +kernel))) (by decide +kernel))⟩
theorem ff_Pat_9 : ∀ C T N, classes[4]? = some (C, T, N) → C = R_Pat ∧ Cond.fieldLink R_Pat 9 C (T 0).2.1 (T 0).2.2.1 ∈ gTB := fun C T N h => by cases h; exact ⟨rfl, gTB_t (gIn1 (List.mem_of_getElem? (i := 109) (by decide +kernel))) (by decide +kernel)⟩
theorem f_Hyp_57 : gF R_Hyp 57 4 0 := ⟨R_Pat, F_Pat, 3, rfl, by decide, rfl, l_Pat, Or.inr ⟨"ParagraphSetter", gNW_in (gIn1 (List.mem_of_getElem? (i := 110) (by decide +kernel))) rfl⟩⟩
theorem f_Pat_15 : gF R_Pat 15 4 1 := ⟨R_Pat, F_Pat, 3, rfl, by decide, rfl, l_Pat, Or.inl (gTB_t (gIn1 (List.mem_of_getElem? (i := 111) (by decide +kernel))) (by decide +kernel))⟩
theorem ff_Pat_15 : ∀ C T N, classes[4]? = some (C, T, N) → C = R_Pat ∧ Cond.fieldLink R_Pat 15 C (T 1).2.1 (T 1).2.2.1 ∈ gTB := fun C T N h => by cases h; exact ⟨rfl, gTB_t (gIn1 (List.mem_of_getElem? (i := 111) (by decide +kernel))) (by decide +kernel)⟩
theorem f_Hyp_60 : gF R_Hyp 60 4 1 := ⟨R_Pat, F_Pat, 3, rfl, by decide, rfl, l_Pat, Or.inr ⟨"ParagraphSetter", gNW_in (gIn1 (List.mem_of_getElem? (i := 112) (by decide +kernel))) rfl⟩⟩
theorem f_Pat_18 : gF R_Pat 18 4 2 := ⟨R_Pat, F_Pat, 3, rfl, by decide, rfl, l_Pat, Or.inl (gTB_t (gIn1 (List.mem_of_getElem? (i := 113) (by decide +kernel))) (by decide +kernel))⟩
theorem f_Hyp_45 : gF R_Hyp 45 4 2 := ⟨R_Pat, F_Pat, 3, rfl, by decide, rfl, l_Pat, Or.inr ⟨"ParagraphSetter", gNW_in (gIn1 (List.mem_of_getElem? (i := 114) (by decide +kernel))) rfl⟩⟩
theorem f_Hyp_11 : gF R_Hyp 11 5 0 := ⟨R_Hyp, F_Hyp, 3, rfl, by decide, rfl, l_Hyp, Or.inl (gTB_t (gIn1 (List.mem_of_getElem? (i := 122) (by decide +kernel))) (by decide +kernel))⟩
theorem ff_Hyp_11 : ∀ C T N, classes[5]? = some (C, T, N) → C = R_Hyp ∧ Cond.fieldLink R_Hyp 11 C (T 0).2.1 (T 0).2.2.1 ∈ gTB := fun C T N h => by cases h; exact ⟨rfl, gTB_t (gIn1 (List.mem_of_getElem? (i := 122) (by decide +kernel))) (by decide +kernel)⟩
theorem f_Hyp_17 : gF R_Hyp 17 5 1 := ⟨R_Hyp, F_Hyp, 3, rfl, by decide, rfl, l_Hyp, Or.inl (gTB_t (gIn1 (List.mem_of_getElem? (i := 123) (by decide +kernel))) (by decide +kernel))⟩
theorem f_PS_105 : gF R_PS 105 5 1 := ⟨R_Hyp, F_Hyp, 3, rfl, by decide, rfl, l_Hyp, Or.inr ⟨"ParagraphSetter", gNW_in (gIn1 (List.mem_of_getElem? (i := 124) (by decide +kernel))) rfl⟩⟩
theorem f_Hyp_21 : gF R_Hyp 21 5 2 := ⟨R_Hyp, F_Hyp, 3, rfl, by decide, rfl, l_Hyp, Or.inl (gTB_t (gIn1 (List.mem_of_getElem? (i := 125) (by decide +kernel))) (by decide +kernel))⟩
theorem ff_Hyp_21 : ∀ C T N, classes[5]? = some (C, T, N) → C = R_Hyp ∧ Cond.fieldLink R_Hyp 21 C (T 2).2.1 (T 2).2.2.1 ∈ gTB := fun C T N h => by cases h; exact ⟨rfl, gTB_t (gIn1 (List.mem_of_getElem? (i := 125) (by decide +kernel))) (by decide +kernel)⟩
theorem cl_PS_42 : Cond.classLink R_PS 42 "ParagraphSetter$Chooser" ∈ gTB := gTB_t (gIn1 (List.mem_of_getElem? (i := 133) (by decide +kernel))) (by decide +kernel)
theorem lk_PS_44 : gLk R_PS 44 m_Cho_init := Or.inr ⟨"ParagraphSetter", gNW_in (gIn1 (List.mem_of_getElem? (i := 135) (by decide +kernel))) rfl⟩
theorem ob_Cho_3 : Cond.methodLink R_Cho 3 Lib.objectInit ∈ gTB := gTB_t (gIn1 (List.mem_of_getElem? (i := 138) (by decide +kernel))) (by decide +kernel)
theorem f_Cho_9 : gF R_Cho 9 9 0 := ⟨R_Cho, F_Cho, 3, rfl, by decide, rfl, l_Cho, Or.inl (gTB_t (gIn1 (List.mem_of_getElem? (i := 139) (by decide +kernel))) (by decide +kernel))⟩
theorem ff_Cho_9 : ∀ C T N, classes[9]? = some (C, T, N) → C = R_Cho ∧ Cond.fieldLink R_Cho 9 C (T 0).2.1 (T 0).2.2.1 ∈ gTB := fun C T N h => by cases h; exact ⟨rfl, gTB_t (gIn1 (List.mem_of_getElem? (i := 139) (by decide +kernel))) (by decide +kernel)⟩
theorem f_Cho_15 : gF R_Cho 15 9 1 := ⟨R_Cho, F_Cho, 3, rfl, by decide, rfl, l_Cho, Or.inl (gTB_t (gIn1 (List.mem_of_getElem? (i := 140) (by decide +kernel))) (by decide +kernel))⟩
theorem ff_Cho_15 : ∀ C T N, classes[9]? = some (C, T, N) → C = R_Cho ∧ Cond.fieldLink R_Cho 15 C (T 1).2.1 (T 1).2.2.1 ∈ gTB := fun C T N h => by cases h; exact ⟨rfl, gTB_t (gIn1 (List.mem_of_getElem? (i := 140) (by decide +kernel))) (by decide +kernel)⟩
theorem f_Cho_19 : gF R_Cho 19 9 2 := ⟨R_Cho, F_Cho, 3, rfl, by decide, rfl, l_Cho, Or.inl (gTB_t (gIn1 (List.mem_of_getElem? (i := 141) (by decide +kernel))) (by decide +kernel))⟩
theorem ff_Cho_19 : ∀ C T N, classes[9]? = some (C, T, N) → C = R_Cho ∧ Cond.fieldLink R_Cho 19 C (T 2).2.1 (T 2).2.2.1 ∈ gTB := fun C T N h => by cases h; exact ⟨rfl, gTB_t (gIn1 (List.mem_of_getElem? (i := 141) (by decide +kernel))) (by decide +kernel)⟩
theorem cl_PS_49 : Cond.classLink R_PS 49 "ParagraphSetter$Setting" ∈ gTB := gTB_t (gIn1 (List.mem_of_getElem? (i := 150) (by decide +kernel))) (by decide +kernel)
theorem lk_PS_51 : gLk R_PS 51 m_Stg_init := Or.inr ⟨"ParagraphSetter", gNW_in (gIn1 (List.mem_of_getElem? (i := 152) (by decide +kernel))) rfl⟩
theorem ob_Stg_3 : Cond.methodLink R_Stg 3 Lib.objectInit ∈ gTB := gTB_t (gIn1 (List.mem_of_getElem? (i := 155) (by decide +kernel))) (by decide +kernel)
theorem cl_Stg_9 : Cond.classLink R_Stg 9 "ParagraphSetter$Text" ∈ gTB := gTB_t (gIn1 (List.mem_of_getElem? (i := 156) (by decide +kernel))) (by decide +kernel)
theorem lk_Stg_11 : gLk R_Stg 11 m_Txt_init := Or.inr ⟨"ParagraphSetter", gNW_in (gIn1 (List.mem_of_getElem? (i := 158) (by decide +kernel))) rfl⟩
theorem ob_Txt_3 : Cond.methodLink R_Txt 3 Lib.objectInit ∈ gTB := gTB_t (gIn1 (List.mem_of_getElem? (i := 161) (by decide +kernel))) (by decide +kernel)
theorem f_Txt_9 : gF R_Txt 9 3 0 := ⟨R_Txt, F_Txt, 3, rfl, by decide, rfl, l_Txt, Or.inl (gTB_t (gIn1 (List.mem_of_getElem? (i := 162) (by decide +kernel))) (by decide +kernel))⟩
theorem ff_Txt_9 : ∀ C T N, classes[3]? = some (C, T, N) → C = R_Txt ∧ Cond.fieldLink R_Txt 9 C (T 0).2.1 (T 0).2.2.1 ∈ gTB := fun C T N h => by cases h; exact ⟨rfl, gTB_t (gIn1 (List.mem_of_getElem? (i := 162) (by decide +kernel))) (by decide +kernel)⟩
theorem f_Sum_33 : gF R_Sum 33 3 0 := ⟨R_Txt, F_Txt, 3, rfl, by decide, rfl, l_Txt, Or.inr ⟨"ParagraphSetter", gNW_in (gIn1 (List.mem_of_getElem? (i := 163) (by decide +kernel))) rfl⟩⟩
theorem f_Brk_42 : gF R_Brk 42 3 0 := ⟨R_Txt, F_Txt, 3, rfl, by decide, rfl, l_Txt, Or.inr ⟨"ParagraphSetter", gNW_in (gIn1 (List.mem_of_getElem? (i := 164) (by decide +kernel))) rfl⟩⟩
theorem f_Hyp_54 : gF R_Hyp 54 3 0 := ⟨R_Txt, F_Txt, 3, rfl, by decide, rfl, l_Txt, Or.inr ⟨"ParagraphSetter", gNW_in (gIn1 (List.mem_of_getElem? (i := 165) (by decide +kernel))) rfl⟩⟩
theorem f_Stg_121 : gF R_Stg 121 3 0 := ⟨R_Txt, F_Txt, 3, rfl, by decide, rfl, l_Txt, Or.inr ⟨"ParagraphSetter", gNW_in (gIn1 (List.mem_of_getElem? (i := 166) (by decide +kernel))) rfl⟩⟩
theorem f_Txt_15 : gF R_Txt 15 3 1 := ⟨R_Txt, F_Txt, 3, rfl, by decide, rfl, l_Txt, Or.inl (gTB_t (gIn1 (List.mem_of_getElem? (i := 167) (by decide +kernel))) (by decide +kernel))⟩
theorem ff_Txt_15 : ∀ C T N, classes[3]? = some (C, T, N) → C = R_Txt ∧ Cond.fieldLink R_Txt 15 C (T 1).2.1 (T 1).2.2.1 ∈ gTB := fun C T N h => by cases h; exact ⟨rfl, gTB_t (gIn1 (List.mem_of_getElem? (i := 167) (by decide +kernel))) (by decide +kernel)⟩
theorem f_Sum_36 : gF R_Sum 36 3 1 := ⟨R_Txt, F_Txt, 3, rfl, by decide, rfl, l_Txt, Or.inr ⟨"ParagraphSetter", gNW_in (gIn1 (List.mem_of_getElem? (i := 168) (by decide +kernel))) rfl⟩⟩
theorem f_Txt_18 : gF R_Txt 18 3 2 := ⟨R_Txt, F_Txt, 3, rfl, by decide, rfl, l_Txt, Or.inl (gTB_t (gIn1 (List.mem_of_getElem? (i := 169) (by decide +kernel))) (by decide +kernel))⟩
theorem f_Sum_27 : gF R_Sum 27 3 2 := ⟨R_Txt, F_Txt, 3, rfl, by decide, rfl, l_Txt, Or.inr ⟨"ParagraphSetter", gNW_in (gIn1 (List.mem_of_getElem? (i := 170) (by decide +kernel))) rfl⟩⟩
theorem f_Exp_38 : gF R_Exp 38 3 2 := ⟨R_Txt, F_Txt, 3, rfl, by decide, rfl, l_Txt, Or.inr ⟨"ParagraphSetter", gNW_in (gIn1 (List.mem_of_getElem? (i := 171) (by decide +kernel))) rfl⟩⟩
theorem f_Brk_25 : gF R_Brk 25 3 2 := ⟨R_Txt, F_Txt, 3, rfl, by decide, rfl, l_Txt, Or.inr ⟨"ParagraphSetter", gNW_in (gIn1 (List.mem_of_getElem? (i := 172) (by decide +kernel))) rfl⟩⟩
theorem f_Hyp_34 : gF R_Hyp 34 3 2 := ⟨R_Txt, F_Txt, 3, rfl, by decide, rfl, l_Txt, Or.inr ⟨"ParagraphSetter", gNW_in (gIn1 (List.mem_of_getElem? (i := 173) (by decide +kernel))) rfl⟩⟩
theorem f_PS_187 : gF R_PS 187 3 2 := ⟨R_Txt, F_Txt, 3, rfl, by decide, rfl, l_Txt, Or.inr ⟨"ParagraphSetter", gNW_in (gIn1 (List.mem_of_getElem? (i := 174) (by decide +kernel))) rfl⟩⟩
theorem cl_Stg_18 : Cond.classLink R_Stg 18 "ParagraphSetter$Breaks" ∈ gTB := gTB_t (gIn1 (List.mem_of_getElem? (i := 182) (by decide +kernel))) (by decide +kernel)
theorem lk_Stg_20 : gLk R_Stg 20 m_Brk_init := Or.inr ⟨"ParagraphSetter", gNW_in (gIn1 (List.mem_of_getElem? (i := 184) (by decide +kernel))) rfl⟩
theorem ob_Brk_3 : Cond.methodLink R_Brk 3 Lib.objectInit ∈ gTB := gTB_t (gIn1 (List.mem_of_getElem? (i := 187) (by decide +kernel))) (by decide +kernel)
theorem f_Brk_9 : gF R_Brk 9 6 0 := ⟨R_Brk, F_Brk, 4, rfl, by decide, rfl, l_Brk, Or.inl (gTB_t (gIn1 (List.mem_of_getElem? (i := 188) (by decide +kernel))) (by decide +kernel))⟩
theorem ff_Brk_9 : ∀ C T N, classes[6]? = some (C, T, N) → C = R_Brk ∧ Cond.fieldLink R_Brk 9 C (T 0).2.1 (T 0).2.2.1 ∈ gTB := fun C T N h => by cases h; exact ⟨rfl, gTB_t (gIn1 (List.mem_of_getElem? (i := 188) (by decide +kernel))) (by decide +kernel)⟩
theorem f_Cho_56 : gF R_Cho 56 6 0 := ⟨R_Brk, F_Brk, 4, rfl, by decide, rfl, l_Brk, Or.inr ⟨"ParagraphSetter", gNW_in (gIn1 (List.mem_of_getElem? (i := 189) (by decide +kernel))) rfl⟩⟩
theorem f_Stg_74 : gF R_Stg 74 6 0 := ⟨R_Brk, F_Brk, 4, rfl, by decide, rfl, l_Brk, Or.inr ⟨"ParagraphSetter", gNW_in (gIn1 (List.mem_of_getElem? (i := 190) (by decide +kernel))) rfl⟩⟩
theorem f_PS_161 : gF R_PS 161 6 0 := ⟨R_Brk, F_Brk, 4, rfl, by decide, rfl, l_Brk, Or.inr ⟨"ParagraphSetter", gNW_in (gIn1 (List.mem_of_getElem? (i := 191) (by decide +kernel))) rfl⟩⟩
theorem f_Brk_15 : gF R_Brk 15 6 1 := ⟨R_Brk, F_Brk, 4, rfl, by decide, rfl, l_Brk, Or.inl (gTB_t (gIn1 (List.mem_of_getElem? (i := 192) (by decide +kernel))) (by decide +kernel))⟩
theorem ff_Brk_15 : ∀ C T N, classes[6]? = some (C, T, N) → C = R_Brk ∧ Cond.fieldLink R_Brk 15 C (T 1).2.1 (T 1).2.2.1 ∈ gTB := fun C T N h => by cases h; exact ⟨rfl, gTB_t (gIn1 (List.mem_of_getElem? (i := 192) (by decide +kernel))) (by decide +kernel)⟩
theorem f_Stg_130 : gF R_Stg 130 6 1 := ⟨R_Brk, F_Brk, 4, rfl, by decide, rfl, l_Brk, Or.inr ⟨"ParagraphSetter", gNW_in (gIn1 (List.mem_of_getElem? (i := 193) (by decide +kernel))) rfl⟩⟩
theorem f_Brk_18 : gF R_Brk 18 6 2 := ⟨R_Brk, F_Brk, 4, rfl, by decide, rfl, l_Brk, Or.inl (gTB_t (gIn1 (List.mem_of_getElem? (i := 194) (by decide +kernel))) (by decide +kernel))⟩
theorem ff_Brk_18 : ∀ C T N, classes[6]? = some (C, T, N) → C = R_Brk ∧ Cond.fieldLink R_Brk 18 C (T 2).2.1 (T 2).2.2.1 ∈ gTB := fun C T N h => by cases h; exact ⟨rfl, gTB_t (gIn1 (List.mem_of_getElem? (i := 194) (by decide +kernel))) (by decide +kernel)⟩
theorem f_Stg_124 : gF R_Stg 124 6 2 := ⟨R_Brk, F_Brk, 4, rfl, by decide, rfl, l_Brk, Or.inr ⟨"ParagraphSetter", gNW_in (gIn1 (List.mem_of_getElem? (i := 195) (by decide +kernel))) rfl⟩⟩
theorem f_Brk_21 : gF R_Brk 21 6 3 := ⟨R_Brk, F_Brk, 4, rfl, by decide, rfl, l_Brk, Or.inl (gTB_t (gIn1 (List.mem_of_getElem? (i := 196) (by decide +kernel))) (by decide +kernel))⟩
theorem f_Cho_28 : gF R_Cho 28 6 3 := ⟨R_Brk, F_Brk, 4, rfl, by decide, rfl, l_Brk, Or.inr ⟨"ParagraphSetter", gNW_in (gIn1 (List.mem_of_getElem? (i := 197) (by decide +kernel))) rfl⟩⟩
theorem f_PS_188 : gF R_PS 188 6 3 := ⟨R_Brk, F_Brk, 4, rfl, by decide, rfl, l_Brk, Or.inr ⟨"ParagraphSetter", gNW_in (gIn1 (List.mem_of_getElem? (i := 198) (by decide +kernel))) rfl⟩⟩
theorem cl_Stg_25 : Cond.classLink R_Stg 25 "ParagraphSetter$Sums" ∈ gTB := gTB_t (gIn1 (List.mem_of_getElem? (i := 208) (by decide +kernel))) (by decide +kernel)
theorem lk_Stg_27 : gLk R_Stg 27 m_Sum_init := Or.inr ⟨"ParagraphSetter", gNW_in (gIn1 (List.mem_of_getElem? (i := 210) (by decide +kernel))) rfl⟩
theorem ob_Sum_3 : Cond.methodLink R_Sum 3 Lib.objectInit ∈ gTB := gTB_t (gIn1 (List.mem_of_getElem? (i := 213) (by decide +kernel))) (by decide +kernel)
theorem f_Sum_9 : gF R_Sum 9 7 0 := ⟨R_Sum, F_Sum, 5, rfl, by decide, rfl, l_Sum, Or.inl (gTB_t (gIn1 (List.mem_of_getElem? (i := 214) (by decide +kernel))) (by decide +kernel))⟩
theorem ff_Sum_9 : ∀ C T N, classes[7]? = some (C, T, N) → C = R_Sum ∧ Cond.fieldLink R_Sum 9 C (T 0).2.1 (T 0).2.2.1 ∈ gTB := fun C T N h => by cases h; exact ⟨rfl, gTB_t (gIn1 (List.mem_of_getElem? (i := 214) (by decide +kernel))) (by decide +kernel)⟩
theorem f_Stg_71 : gF R_Stg 71 7 0 := ⟨R_Sum, F_Sum, 5, rfl, by decide, rfl, l_Sum, Or.inr ⟨"ParagraphSetter", gNW_in (gIn1 (List.mem_of_getElem? (i := 215) (by decide +kernel))) rfl⟩⟩
theorem f_Sum_15 : gF R_Sum 15 7 1 := ⟨R_Sum, F_Sum, 5, rfl, by decide, rfl, l_Sum, Or.inl (gTB_t (gIn1 (List.mem_of_getElem? (i := 216) (by decide +kernel))) (by decide +kernel))⟩
theorem ff_Sum_15 : ∀ C T N, classes[7]? = some (C, T, N) → C = R_Sum ∧ Cond.fieldLink R_Sum 15 C (T 1).2.1 (T 1).2.2.1 ∈ gTB := fun C T N h => by cases h; exact ⟨rfl, gTB_t (gIn1 (List.mem_of_getElem? (i := 216) (by decide +kernel))) (by decide +kernel)⟩
theorem f_Stg_95 : gF R_Stg 95 7 1 := ⟨R_Sum, F_Sum, 5, rfl, by decide, rfl, l_Sum, Or.inr ⟨"ParagraphSetter", gNW_in (gIn1 (List.mem_of_getElem? (i := 217) (by decide +kernel))) rfl⟩⟩
theorem f_Sum_18 : gF R_Sum 18 7 2 := ⟨R_Sum, F_Sum, 5, rfl, by decide, rfl, l_Sum, Or.inl (gTB_t (gIn1 (List.mem_of_getElem? (i := 218) (by decide +kernel))) (by decide +kernel))⟩
theorem ff_Sum_18 : ∀ C T N, classes[7]? = some (C, T, N) → C = R_Sum ∧ Cond.fieldLink R_Sum 18 C (T 2).2.1 (T 2).2.2.1 ∈ gTB := fun C T N h => by cases h; exact ⟨rfl, gTB_t (gIn1 (List.mem_of_getElem? (i := 218) (by decide +kernel))) (by decide +kernel)⟩
theorem f_Stg_98 : gF R_Stg 98 7 2 := ⟨R_Sum, F_Sum, 5, rfl, by decide, rfl, l_Sum, Or.inr ⟨"ParagraphSetter", gNW_in (gIn1 (List.mem_of_getElem? (i := 219) (by decide +kernel))) rfl⟩⟩
theorem f_Sum_21 : gF R_Sum 21 7 3 := ⟨R_Sum, F_Sum, 5, rfl, by decide, rfl, l_Sum, Or.inl (gTB_t (gIn1 (List.mem_of_getElem? (i := 220) (by decide +kernel))) (by decide +kernel))⟩
theorem ff_Sum_21 : ∀ C T N, classes[7]? = some (C, T, N) → C = R_Sum ∧ Cond.fieldLink R_Sum 21 C (T 3).2.1 (T 3).2.2.1 ∈ gTB := fun C T N h => by cases h; exact ⟨rfl, gTB_t (gIn1 (List.mem_of_getElem? (i := 220) (by decide +kernel))) (by decide +kernel)⟩
theorem f_Stg_64 : gF R_Stg 64 7 3 := ⟨R_Sum, F_Sum, 5, rfl, by decide, rfl, l_Sum, Or.inr ⟨"ParagraphSetter", gNW_in (gIn1 (List.mem_of_getElem? (i := 221) (by decide +kernel))) rfl⟩⟩
theorem f_Sum_24 : gF R_Sum 24 7 4 := ⟨R_Sum, F_Sum, 5, rfl, by decide, rfl, l_Sum, Or.inl (gTB_t (gIn1 (List.mem_of_getElem? (i := 222) (by decide +kernel))) (by decide +kernel))⟩
theorem ff_Sum_24 : ∀ C T N, classes[7]? = some (C, T, N) → C = R_Sum ∧ Cond.fieldLink R_Sum 24 C (T 4).2.1 (T 4).2.2.1 ∈ gTB := fun C T N h => by cases h; exact ⟨rfl, gTB_t (gIn1 (List.mem_of_getElem? (i := 222) (by decide +kernel))) (by decide +kernel)⟩
theorem f_Stg_83 : gF R_Stg 83 7 4 := ⟨R_Sum, F_Sum, 5, rfl, by decide, rfl, l_Sum, Or.inr ⟨"ParagraphSetter", gNW_in (gIn1 (List.mem_of_getElem? (i := 223) (by decide +kernel))) rfl⟩⟩
-- nest static ParagraphSetter$Setting 32 FIRST_VALUES
theorem f_Stg_12 : gF R_Stg 12 8 0 := ⟨R_Stg, F_Stg, 9, rfl, by decide, rfl, l_Stg, Or.inl (gTB_t (gIn1 (List.mem_of_getElem? (i := 236) (by decide +kernel))) (by decide +kernel))⟩
theorem ff_Stg_12 : ∀ C T N, classes[8]? = some (C, T, N) → C = R_Stg ∧ Cond.fieldLink R_Stg 12 C (T 0).2.1 (T 0).2.2.1 ∈ gTB := fun C T N h => by cases h; exact ⟨rfl, gTB_t (gIn1 (List.mem_of_getElem? (i := 236) (by decide +kernel))) (by decide +kernel)⟩
theorem f_PS_106 : gF R_PS 106 8 0 := ⟨R_Stg, F_Stg, 9, rfl, by decide, rfl, l_Stg, Or.inr ⟨"ParagraphSetter", gNW_in (gIn1 (List.mem_of_getElem? (i := 237) (by decide +kernel))) rfl⟩⟩
theorem f_Stg_21 : gF R_Stg 21 8 1 := ⟨R_Stg, F_Stg, 9, rfl, by decide, rfl, l_Stg, Or.inl (gTB_t (gIn1 (List.mem_of_getElem? (i := 238) (by decide +kernel))) (by decide +kernel))⟩
theorem ff_Stg_21 : ∀ C T N, classes[8]? = some (C, T, N) → C = R_Stg ∧ Cond.fieldLink R_Stg 21 C (T 1).2.1 (T 1).2.2.1 ∈ gTB := fun C T N h => by cases h; exact ⟨rfl, gTB_t (gIn1 (List.mem_of_getElem? (i := 238) (by decide +kernel))) (by decide +kernel)⟩
theorem f_Cho_22 : gF R_Cho 22 8 1 := ⟨R_Stg, F_Stg, 9, rfl, by decide, rfl, l_Stg, Or.inr ⟨"ParagraphSetter", gNW_in (gIn1 (List.mem_of_getElem? (i := 239) (by decide +kernel))) rfl⟩⟩
theorem f_PS_127 : gF R_PS 127 8 1 := ⟨R_Stg, F_Stg, 9, rfl, by decide, rfl, l_Stg, Or.inr ⟨"ParagraphSetter", gNW_in (gIn2 (List.mem_of_getElem? (i := 0) (by decide +kernel))) rfl⟩⟩
theorem f_Stg_28 : gF R_Stg 28 8 2 := ⟨R_Stg, F_Stg, 9, rfl, by decide, rfl, l_Stg, Or.inl (gTB_t (gIn2 (List.mem_of_getElem? (i := 1) (by decide +kernel))) (by decide +kernel))⟩
theorem ff_Stg_28 : ∀ C T N, classes[8]? = some (C, T, N) → C = R_Stg ∧ Cond.fieldLink R_Stg 28 C (T 2).2.1 (T 2).2.2.1 ∈ gTB := fun C T N h => by cases h; exact ⟨rfl, gTB_t (gIn2 (List.mem_of_getElem? (i := 1) (by decide +kernel))) (by decide +kernel)⟩
theorem f_Stg_36 : gF R_Stg 36 8 3 := ⟨R_Stg, F_Stg, 9, rfl, by decide, rfl, l_Stg, Or.inl (gTB_t (gIn2 (List.mem_of_getElem? (i := 2) (by decide +kernel))) (by decide +kernel))⟩
theorem ff_Stg_36 : ∀ C T N, classes[8]? = some (C, T, N) → C = R_Stg ∧ Cond.fieldLink R_Stg 36 C (T 3).2.1 (T 3).2.2.1 ∈ gTB := fun C T N h => by cases h; exact ⟨rfl, gTB_t (gIn2 (List.mem_of_getElem? (i := 2) (by decide +kernel))) (by decide +kernel)⟩
theorem f_Stg_39 : gF R_Stg 39 8 4 := ⟨R_Stg, F_Stg, 9, rfl, by decide, rfl, l_Stg, Or.inl (gTB_t (gIn2 (List.mem_of_getElem? (i := 3) (by decide +kernel))) (by decide +kernel))⟩
theorem f_Stg_43 : gF R_Stg 43 8 5 := ⟨R_Stg, F_Stg, 9, rfl, by decide, rfl, l_Stg, Or.inl (gTB_t (gIn2 (List.mem_of_getElem? (i := 4) (by decide +kernel))) (by decide +kernel))⟩
theorem f_PS_117 : gF R_PS 117 8 5 := ⟨R_Stg, F_Stg, 9, rfl, by decide, rfl, l_Stg, Or.inr ⟨"ParagraphSetter", gNW_in (gIn2 (List.mem_of_getElem? (i := 5) (by decide +kernel))) rfl⟩⟩
theorem f_Stg_46 : gF R_Stg 46 8 6 := ⟨R_Stg, F_Stg, 9, rfl, by decide, rfl, l_Stg, Or.inl (gTB_t (gIn2 (List.mem_of_getElem? (i := 6) (by decide +kernel))) (by decide +kernel))⟩
theorem ff_Stg_46 : ∀ C T N, classes[8]? = some (C, T, N) → C = R_Stg ∧ Cond.fieldLink R_Stg 46 C (T 6).2.1 (T 6).2.2.1 ∈ gTB := fun C T N h => by cases h; exact ⟨rfl, gTB_t (gIn2 (List.mem_of_getElem? (i := 6) (by decide +kernel))) (by decide +kernel)⟩
theorem f_Cho_65 : gF R_Cho 65 8 6 := ⟨R_Stg, F_Stg, 9, rfl, by decide, rfl, l_Stg, Or.inr ⟨"ParagraphSetter", gNW_in (gIn2 (List.mem_of_getElem? (i := 7) (by decide +kernel))) rfl⟩⟩
theorem f_PS_158 : gF R_PS 158 8 6 := ⟨R_Stg, F_Stg, 9, rfl, by decide, rfl, l_Stg, Or.inr ⟨"ParagraphSetter", gNW_in (gIn2 (List.mem_of_getElem? (i := 8) (by decide +kernel))) rfl⟩⟩
theorem f_Stg_49 : gF R_Stg 49 8 7 := ⟨R_Stg, F_Stg, 9, rfl, by decide, rfl, l_Stg, Or.inl (gTB_t (gIn2 (List.mem_of_getElem? (i := 9) (by decide +kernel))) (by decide +kernel))⟩
theorem f_Cho_63 : gF R_Cho 63 8 7 := ⟨R_Stg, F_Stg, 9, rfl, by decide, rfl, l_Stg, Or.inr ⟨"ParagraphSetter", gNW_in (gIn2 (List.mem_of_getElem? (i := 10) (by decide +kernel))) rfl⟩⟩
theorem f_PS_148 : gF R_PS 148 8 7 := ⟨R_Stg, F_Stg, 9, rfl, by decide, rfl, l_Stg, Or.inr ⟨"ParagraphSetter", gNW_in (gIn2 (List.mem_of_getElem? (i := 11) (by decide +kernel))) rfl⟩⟩
theorem f_Stg_52 : gF R_Stg 52 8 8 := ⟨R_Stg, F_Stg, 9, rfl, by decide, rfl, l_Stg, Or.inl (gTB_t (gIn2 (List.mem_of_getElem? (i := 12) (by decide +kernel))) (by decide +kernel))⟩
theorem f_Cho_59 : gF R_Cho 59 8 8 := ⟨R_Stg, F_Stg, 9, rfl, by decide, rfl, l_Stg, Or.inr ⟨"ParagraphSetter", gNW_in (gIn2 (List.mem_of_getElem? (i := 13) (by decide +kernel))) rfl⟩⟩
theorem f_PS_151 : gF R_PS 151 8 8 := ⟨R_Stg, F_Stg, 9, rfl, by decide, rfl, l_Stg, Or.inr ⟨"ParagraphSetter", gNW_in (gIn2 (List.mem_of_getElem? (i := 14) (by decide +kernel))) rfl⟩⟩
theorem f_PS_14 : gF R_PS 14 10 0 := ⟨R_PS, F_PS, 8, rfl, by decide, rfl, l_PS, Or.inl (gTB_t (gIn2 (List.mem_of_getElem? (i := 34) (by decide +kernel))) (by decide +kernel))⟩
theorem ff_PS_14 : ∀ C T N, classes[10]? = some (C, T, N) → C = R_PS ∧ Cond.fieldLink R_PS 14 C (T 0).2.1 (T 0).2.2.1 ∈ gTB := fun C T N h => by cases h; exact ⟨rfl, gTB_t (gIn2 (List.mem_of_getElem? (i := 34) (by decide +kernel))) (by decide +kernel)⟩
theorem f_PS_18 : gF R_PS 18 10 1 := ⟨R_PS, F_PS, 8, rfl, by decide, rfl, l_PS, Or.inl (gTB_t (gIn2 (List.mem_of_getElem? (i := 35) (by decide +kernel))) (by decide +kernel))⟩
theorem ff_PS_18 : ∀ C T N, classes[10]? = some (C, T, N) → C = R_PS ∧ Cond.fieldLink R_PS 18 C (T 1).2.1 (T 1).2.2.1 ∈ gTB := fun C T N h => by cases h; exact ⟨rfl, gTB_t (gIn2 (List.mem_of_getElem? (i := 35) (by decide +kernel))) (by decide +kernel)⟩
theorem f_PS_25 : gF R_PS 25 10 2 := ⟨R_PS, F_PS, 8, rfl, by decide, rfl, l_PS, Or.inl (gTB_t (gIn2 (List.mem_of_getElem? (i := 36) (by decide +kernel))) (by decide +kernel))⟩
theorem ff_PS_25 : ∀ C T N, classes[10]? = some (C, T, N) → C = R_PS ∧ Cond.fieldLink R_PS 25 C (T 2).2.1 (T 2).2.2.1 ∈ gTB := fun C T N h => by cases h; exact ⟨rfl, gTB_t (gIn2 (List.mem_of_getElem? (i := 36) (by decide +kernel))) (by decide +kernel)⟩
theorem f_PS_31 : gF R_PS 31 10 3 := ⟨R_PS, F_PS, 8, rfl, by decide, rfl, l_PS, Or.inl (gTB_t (gIn2 (List.mem_of_getElem? (i := 37) (by decide +kernel))) (by decide +kernel))⟩
theorem ff_PS_31 : ∀ C T N, classes[10]? = some (C, T, N) → C = R_PS ∧ Cond.fieldLink R_PS 31 C (T 3).2.1 (T 3).2.2.1 ∈ gTB := fun C T N h => by cases h; exact ⟨rfl, gTB_t (gIn2 (List.mem_of_getElem? (i := 37) (by decide +kernel))) (by decide +kernel)⟩
theorem f_PS_38 : gF R_PS 38 10 4 := ⟨R_PS, F_PS, 8, rfl, by decide, rfl, l_PS, Or.inl (gTB_t (gIn2 (List.mem_of_getElem? (i := 38) (by decide +kernel))) (by decide +kernel))⟩
theorem ff_PS_38 : ∀ C T N, classes[10]? = some (C, T, N) → C = R_PS ∧ Cond.fieldLink R_PS 38 C (T 4).2.1 (T 4).2.2.1 ∈ gTB := fun C T N h => by cases h; exact ⟨rfl, gTB_t (gIn2 (List.mem_of_getElem? (i := 38) (by decide +kernel))) (by decide +kernel)⟩
theorem f_PS_45 : gF R_PS 45 10 5 := ⟨R_PS, F_PS, 8, rfl, by decide, rfl, l_PS, Or.inl (gTB_t (gIn2 (List.mem_of_getElem? (i := 39) (by decide +kernel))) (by decide +kernel))⟩
theorem ff_PS_45 : ∀ C T N, classes[10]? = some (C, T, N) → C = R_PS ∧ Cond.fieldLink R_PS 45 C (T 5).2.1 (T 5).2.2.1 ∈ gTB := fun C T N h => by cases h; exact ⟨rfl, gTB_t (gIn2 (List.mem_of_getElem? (i := 39) (by decide +kernel))) (by decide +kernel)⟩
theorem f_PS_52 : gF R_PS 52 10 6 := ⟨R_PS, F_PS, 8, rfl, by decide, rfl, l_PS, Or.inl (gTB_t (gIn2 (List.mem_of_getElem? (i := 40) (by decide +kernel))) (by decide +kernel))⟩
theorem f_PS_56 : gF R_PS 56 10 7 := ⟨R_PS, F_PS, 8, rfl, by decide, rfl, l_PS, Or.inl (gTB_t (gIn2 (List.mem_of_getElem? (i := 41) (by decide +kernel))) (by decide +kernel))⟩
theorem lk_Law_13 : gLk R_Law 13 m_PS_type := Or.inl (gTB_t (gIn2 (List.mem_of_getElem? (i := 59) (by decide +kernel))) (by decide +kernel))
theorem lk_PS_59 : gLk R_PS 59 m_PS_isOfLine := Or.inl (gTB_t (gIn2 (List.mem_of_getElem? (i := 63) (by decide +kernel))) (by decide +kernel))
theorem lk_PS_193 : gLk R_PS 193 m_PS_isItem := Or.inl (gTB_t (gIn2 (List.mem_of_getElem? (i := 66) (by decide +kernel))) (by decide +kernel))
theorem lk_PS_77 : gLk R_PS 77 m_PS_hasWidth := Or.inl (gTB_t (gIn2 (List.mem_of_getElem? (i := 69) (by decide +kernel))) (by decide +kernel))
theorem lk_PS_205 : gLk R_PS 205 m_PS_isLetter := Or.inl (gTB_t (gIn2 (List.mem_of_getElem? (i := 72) (by decide +kernel))) (by decide +kernel))
theorem lk_PS_202 : gLk R_PS 202 m_PS_isSpace := Or.inl (gTB_t (gIn2 (List.mem_of_getElem? (i := 75) (by decide +kernel))) (by decide +kernel))
theorem lk_PS_196 : gLk R_PS 196 m_PS_isMacroName := Or.inl (gTB_t (gIn2 (List.mem_of_getElem? (i := 78) (by decide +kernel))) (by decide +kernel))
theorem lk_PS_199 : gLk R_PS 199 m_PS_isDigit := Or.inl (gTB_t (gIn2 (List.mem_of_getElem? (i := 81) (by decide +kernel))) (by decide +kernel))
theorem lk_PS_63 : gLk R_PS 63 m_Row_isFull := Or.inl (gTB_t (gIn2 (List.mem_of_getElem? (i := 84) (by decide +kernel))) (by decide +kernel))
theorem lk_PS_67 : gLk R_PS 67 m_Row_add := Or.inl (gTB_t (gIn2 (List.mem_of_getElem? (i := 88) (by decide +kernel))) (by decide +kernel))
theorem lk_Law_18 : gLk R_Law 18 m_PS_wipe := Or.inl (gTB_t (gIn2 (List.mem_of_getElem? (i := 92) (by decide +kernel))) (by decide +kernel))
theorem lk_PS_74 : gLk R_PS 74 m_Row_clear := Or.inl (gTB_t (gIn2 (List.mem_of_getElem? (i := 96) (by decide +kernel))) (by decide +kernel))
theorem lk_Law_23 : gLk R_Law 23 m_PS_width := Or.inl (gTB_t (gIn2 (List.mem_of_getElem? (i := 100) (by decide +kernel))) (by decide +kernel))
theorem lk_PS_80 : gLk R_PS 80 m_PS_widthIndex := Or.inl (gTB_t (gIn2 (List.mem_of_getElem? (i := 104) (by decide +kernel))) (by decide +kernel))
theorem lk_Law_28 : gLk R_Law 28 m_PS_parameter := Or.inl (gTB_t (gIn2 (List.mem_of_getElem? (i := 107) (by decide +kernel))) (by decide +kernel))
theorem gs_PS_84 : Cond.fieldLink R_PS 84 "ParagraphSetter" "LEAST_VALUES" "[I" ∈ gTB := gTB_t (gIn2 (List.mem_of_getElem? (i := 111) (by decide +kernel))) (by decide +kernel)
theorem gs_PS_87 : Cond.fieldLink R_PS 87 "ParagraphSetter" "MOST_VALUES" "[I" ∈ gTB := gTB_t (gIn2 (List.mem_of_getElem? (i := 113) (by decide +kernel))) (by decide +kernel)
theorem lk_Law_32 : gLk R_Law 32 m_PS_define := Or.inl (gTB_t (gIn2 (List.mem_of_getElem? (i := 115) (by decide +kernel))) (by decide +kernel))
theorem lk_PS_94 : gLk R_PS 94 m_Mac_become := Or.inl (gTB_t (gIn2 (List.mem_of_getElem? (i := 119) (by decide +kernel))) (by decide +kernel))
theorem lk_Mac_24 : gLk R_Mac 24 m_Row_become := Or.inl (gTB_t (gIn2 (List.mem_of_getElem? (i := 123) (by decide +kernel))) (by decide +kernel))
theorem lk_Row_17 : gLk R_Row 17 m_Row_clear := Or.inl (gTB_t (gIn2 (List.mem_of_getElem? (i := 127) (by decide +kernel))) (by decide +kernel))
theorem lk_Row_20 : gLk R_Row 20 m_Row_add := Or.inl (gTB_t (gIn2 (List.mem_of_getElem? (i := 128) (by decide +kernel))) (by decide +kernel))
theorem lk_Law_36 : gLk R_Law 36 m_PS_pattern := Or.inl (gTB_t (gIn2 (List.mem_of_getElem? (i := 129) (by decide +kernel))) (by decide +kernel))
theorem lk_PS_100 : gLk R_PS 100 m_Hyp_isFull := Or.inl (gTB_t (gIn2 (List.mem_of_getElem? (i := 133) (by decide +kernel))) (by decide +kernel))
theorem lk_PS_101 : gLk R_PS 101 m_Hyp_learn := Or.inl (gTB_t (gIn2 (List.mem_of_getElem? (i := 137) (by decide +kernel))) (by decide +kernel))
theorem lk_Hyp_26 : gLk R_Hyp 26 m_Hyp_isFull := Or.inl (gTB_t (gIn2 (List.mem_of_getElem? (i := 141) (by decide +kernel))) (by decide +kernel))
theorem lk_Hyp_30 : gLk R_Hyp 30 m_Pat_read := Or.inl (gTB_t (gIn2 (List.mem_of_getElem? (i := 142) (by decide +kernel))) (by decide +kernel))
theorem lk_Pat_28 : gLk R_Pat 28 m_PS_isDigit := Or.inr ⟨"ParagraphSetter", gNW_in (gIn2 (List.mem_of_getElem? (i := 146) (by decide +kernel))) rfl⟩
theorem lk_Pat_32 : gLk R_Pat 32 m_Pat_addSign := Or.inl (gTB_t (gIn2 (List.mem_of_getElem? (i := 147) (by decide +kernel))) (by decide +kernel))
theorem lk_Pat_39 : gLk R_Pat 39 m_PS_isLetter := Or.inr ⟨"ParagraphSetter", gNW_in (gIn2 (List.mem_of_getElem? (i := 151) (by decide +kernel))) rfl⟩
theorem lk_Pat_35 : gLk R_Pat 35 m_Pat_hasPointsAtEdgesOnly := Or.inl (gTB_t (gIn2 (List.mem_of_getElem? (i := 152) (by decide +kernel))) (by decide +kernel))
theorem lk_Law_40 : gLk R_Law 40 m_PS_paragraph := Or.inl (gTB_t (gIn2 (List.mem_of_getElem? (i := 156) (by decide +kernel))) (by decide +kernel))
theorem lk_PS_110 : gLk R_PS 110 m_Exp_expand := Or.inl (gTB_t (gIn2 (List.mem_of_getElem? (i := 160) (by decide +kernel))) (by decide +kernel))
theorem lk_Exp_34 : gLk R_Exp 34 m_Exp_begin := Or.inl (gTB_t (gIn2 (List.mem_of_getElem? (i := 164) (by decide +kernel))) (by decide +kernel))
theorem lk_Exp_44 : gLk R_Exp 44 m_Exp_isListEmpty := Or.inl (gTB_t (gIn2 (List.mem_of_getElem? (i := 168) (by decide +kernel))) (by decide +kernel))
theorem lk_Exp_48 : gLk R_Exp 48 m_Exp_takeOff := Or.inl (gTB_t (gIn2 (List.mem_of_getElem? (i := 172) (by decide +kernel))) (by decide +kernel))
theorem lk_Exp_52 : gLk R_Exp 52 m_Exp_obey := Or.inl (gTB_t (gIn2 (List.mem_of_getElem? (i := 176) (by decide +kernel))) (by decide +kernel))
theorem lk_Exp_72 : gLk R_Exp 72 m_PS_isMacroName := Or.inr ⟨"ParagraphSetter", gNW_in (gIn2 (List.mem_of_getElem? (i := 180) (by decide +kernel))) rfl⟩
theorem lk_Exp_76 : gLk R_Exp 76 m_Exp_callMacro := Or.inl (gTB_t (gIn2 (List.mem_of_getElem? (i := 181) (by decide +kernel))) (by decide +kernel))
theorem lk_Exp_106 : gLk R_Exp 106 m_Row_howMany := Or.inl (gTB_t (gIn2 (List.mem_of_getElem? (i := 185) (by decide +kernel))) (by decide +kernel))
theorem lk_Exp_110 : gLk R_Exp 110 m_Exp_takeArgument := Or.inl (gTB_t (gIn2 (List.mem_of_getElem? (i := 189) (by decide +kernel))) (by decide +kernel))
theorem lk_Exp_116 : gLk R_Exp 116 m_Row_clear := Or.inl (gTB_t (gIn2 (List.mem_of_getElem? (i := 193) (by decide +kernel))) (by decide +kernel))
theorem lk_Exp_119 : gLk R_Exp 119 m_Exp_takeGroup := Or.inl (gTB_t (gIn2 (List.mem_of_getElem? (i := 194) (by decide +kernel))) (by decide +kernel))
theorem lk_Exp_122 : gLk R_Exp 122 m_Row_add := Or.inl (gTB_t (gIn2 (List.mem_of_getElem? (i := 198) (by decide +kernel))) (by decide +kernel))
theorem lk_Exp_113 : gLk R_Exp 113 m_Exp_putInFront := Or.inl (gTB_t (gIn2 (List.mem_of_getElem? (i := 199) (by decide +kernel))) (by decide +kernel))
theorem lk_Exp_80 : gLk R_Exp 80 m_Exp_openGroup := Or.inl (gTB_t (gIn2 (List.mem_of_getElem? (i := 203) (by decide +kernel))) (by decide +kernel))
theorem lk_Exp_83 : gLk R_Exp 83 m_Exp_closeGroup := Or.inl (gTB_t (gIn2 (List.mem_of_getElem? (i := 207) (by decide +kernel))) (by decide +kernel))
theorem lk_Exp_86 : gLk R_Exp 86 m_Exp_changeSpace := Or.inl (gTB_t (gIn2 (List.mem_of_getElem? (i := 211) (by decide +kernel))) (by decide +kernel))
theorem lk_Exp_124 : gLk R_Exp 124 m_PS_isDigit := Or.inr ⟨"ParagraphSetter", gNW_in (gIn2 (List.mem_of_getElem? (i := 215) (by decide +kernel))) rfl⟩
theorem lk_Exp_89 : gLk R_Exp 89 m_PS_isItem := Or.inr ⟨"ParagraphSetter", gNW_in (gIn2 (List.mem_of_getElem? (i := 216) (by decide +kernel))) rfl⟩
theorem lk_Exp_92 : gLk R_Exp 92 m_PS_isSpace := Or.inr ⟨"ParagraphSetter", gNW_in (gIn2 (List.mem_of_getElem? (i := 217) (by decide +kernel))) rfl⟩
theorem lk_Exp_95 : gLk R_Exp 95 m_Txt_add := Or.inl (gTB_t (gIn2 (List.mem_of_getElem? (i := 218) (by decide +kernel))) (by decide +kernel))
theorem lk_PS_118 : gLk R_PS 118 m_Txt_tidy := Or.inl (gTB_t (gIn2 (List.mem_of_getElem? (i := 222) (by decide +kernel))) (by decide +kernel))
theorem lk_Txt_26 : gLk R_Txt 26 m_Txt_dropBlanksBehind := Or.inl (gTB_t (gIn2 (List.mem_of_getElem? (i := 226) (by decide +kernel))) (by decide +kernel))
theorem lk_Txt_35 : gLk R_Txt 35 m_Txt_move := Or.inl (gTB_t (gIn2 (List.mem_of_getElem? (i := 230) (by decide +kernel))) (by decide +kernel))
theorem lk_Txt_29 : gLk R_Txt 29 m_Txt_dropBlanksBefore := Or.inl (gTB_t (gIn2 (List.mem_of_getElem? (i := 234) (by decide +kernel))) (by decide +kernel))
theorem lk_Txt_32 : gLk R_Txt 32 m_Txt_dropBarsBehind := Or.inl (gTB_t (gIn2 (List.mem_of_getElem? (i := 238) (by decide +kernel))) (by decide +kernel))
theorem lk_PS_123 : gLk R_PS 123 m_Hyp_weigh := Or.inl (gTB_t (gIn3 (List.mem_of_getElem? (i := 2) (by decide +kernel))) (by decide +kernel))
theorem lk_Hyp_37 : gLk R_Hyp 37 m_Txt_isLetterAt := Or.inl (gTB_t (gIn3 (List.mem_of_getElem? (i := 6) (by decide +kernel))) (by decide +kernel))
theorem lk_Txt_22 : gLk R_Txt 22 m_PS_isLetter := Or.inr ⟨"ParagraphSetter", gNW_in (gIn3 (List.mem_of_getElem? (i := 10) (by decide +kernel))) rfl⟩
theorem lk_Hyp_41 : gLk R_Hyp 41 m_Hyp_weighWord := Or.inl (gTB_t (gIn3 (List.mem_of_getElem? (i := 11) (by decide +kernel))) (by decide +kernel))
theorem lk_Hyp_46 : gLk R_Hyp 46 m_Hyp_stands := Or.inl (gTB_t (gIn3 (List.mem_of_getElem? (i := 15) (by decide +kernel))) (by decide +kernel))
theorem lk_Hyp_50 : gLk R_Hyp 50 m_Hyp_raise := Or.inl (gTB_t (gIn3 (List.mem_of_getElem? (i := 18) (by decide +kernel))) (by decide +kernel))
theorem lk_Hyp_61 : gLk R_Hyp 61 m_Math_max := Or.inl (gTB_t (gIn3 (List.mem_of_getElem? (i := 22) (by decide +kernel))) (by decide +kernel))
theorem lk_PS_131 : gLk R_PS 131 m_Brk_find := Or.inl (gTB_t (gIn3 (List.mem_of_getElem? (i := 25) (by decide +kernel))) (by decide +kernel))
theorem lk_Brk_28 : gLk R_Brk 28 m_Hyp_isPoint := Or.inl (gTB_t (gIn3 (List.mem_of_getElem? (i := 29) (by decide +kernel))) (by decide +kernel))
theorem lk_Brk_34 : gLk R_Brk 34 m_Brk_add := Or.inl (gTB_t (gIn3 (List.mem_of_getElem? (i := 33) (by decide +kernel))) (by decide +kernel))
theorem lk_Brk_38 : gLk R_Brk 38 m_Brk_addAt := Or.inl (gTB_t (gIn3 (List.mem_of_getElem? (i := 37) (by decide +kernel))) (by decide +kernel))
theorem lk_Brk_45 : gLk R_Brk 45 m_Txt_isBlank := Or.inl (gTB_t (gIn3 (List.mem_of_getElem? (i := 41) (by decide +kernel))) (by decide +kernel))
theorem lk_PS_137 : gLk R_PS 137 m_Stg_measure := Or.inl (gTB_t (gIn3 (List.mem_of_getElem? (i := 45) (by decide +kernel))) (by decide +kernel))
theorem lk_Stg_56 : gLk R_Stg 56 m_Sum_addUp := Or.inl (gTB_t (gIn3 (List.mem_of_getElem? (i := 49) (by decide +kernel))) (by decide +kernel))
theorem lk_Sum_39 : gLk R_Sum 39 m_PS_hasWidth := Or.inr ⟨"ParagraphSetter", gNW_in (gIn3 (List.mem_of_getElem? (i := 53) (by decide +kernel))) rfl⟩
theorem lk_Sum_43 : gLk R_Sum 43 m_PS_widthIndex := Or.inr ⟨"ParagraphSetter", gNW_in (gIn3 (List.mem_of_getElem? (i := 54) (by decide +kernel))) rfl⟩
theorem lk_Sum_47 : gLk R_Sum 47 m_PS_isLetter := Or.inr ⟨"ParagraphSetter", gNW_in (gIn3 (List.mem_of_getElem? (i := 55) (by decide +kernel))) rfl⟩
theorem lk_Stg_60 : gLk R_Stg 60 m_PS_widthIndex := Or.inr ⟨"ParagraphSetter", gNW_in (gIn3 (List.mem_of_getElem? (i := 56) (by decide +kernel))) rfl⟩
theorem lk_PS_141 : gLk R_PS 141 m_Cho_choose := Or.inl (gTB_t (gIn3 (List.mem_of_getElem? (i := 57) (by decide +kernel))) (by decide +kernel))
theorem lk_Cho_34 : gLk R_Cho 34 m_Cho_findNext := Or.inl (gTB_t (gIn3 (List.mem_of_getElem? (i := 61) (by decide +kernel))) (by decide +kernel))
theorem lk_Cho_42 : gLk R_Cho 42 m_Stg_badness := Or.inl (gTB_t (gIn3 (List.mem_of_getElem? (i := 65) (by decide +kernel))) (by decide +kernel))
theorem lk_Stg_81 : gLk R_Stg 81 m_Stg_letters := Or.inl (gTB_t (gIn3 (List.mem_of_getElem? (i := 69) (by decide +kernel))) (by decide +kernel))
theorem lk_Stg_67 : gLk R_Stg 67 m_Stg_over := Or.inl (gTB_t (gIn3 (List.mem_of_getElem? (i := 73) (by decide +kernel))) (by decide +kernel))
theorem lk_Stg_88 : gLk R_Stg 88 m_Stg_difference := Or.inl (gTB_t (gIn3 (List.mem_of_getElem? (i := 78) (by decide +kernel))) (by decide +kernel))
theorem lk_Stg_77 : gLk R_Stg 77 m_Stg_natural := Or.inl (gTB_t (gIn3 (List.mem_of_getElem? (i := 82) (by decide +kernel))) (by decide +kernel))
theorem lk_Stg_91 : gLk R_Stg 91 m_Stg_isLoose := Or.inl (gTB_t (gIn3 (List.mem_of_getElem? (i := 86) (by decide +kernel))) (by decide +kernel))
theorem lk_Stg_103 : gLk R_Stg 103 m_Math_abs := Or.inl (gTB_t (gIn3 (List.mem_of_getElem? (i := 91) (by decide +kernel))) (by decide +kernel))
theorem lk_Stg_108 : gLk R_Stg 108 m_Stg_cube := Or.inl (gTB_t (gIn3 (List.mem_of_getElem? (i := 94) (by decide +kernel))) (by decide +kernel))
theorem lk_Cho_48 : gLk R_Cho 48 m_Stg_price := Or.inl (gTB_t (gIn3 (List.mem_of_getElem? (i := 98) (by decide +kernel))) (by decide +kernel))
theorem lk_Stg_112 : gLk R_Stg 112 m_Stg_square := Or.inl (gTB_t (gIn3 (List.mem_of_getElem? (i := 102) (by decide +kernel))) (by decide +kernel))
theorem lk_Cho_52 : gLk R_Cho 52 m_Cho_keepBetter := Or.inl (gTB_t (gIn3 (List.mem_of_getElem? (i := 105) (by decide +kernel))) (by decide +kernel))
theorem lk_Cho_38 : gLk R_Cho 38 m_Cho_follow := Or.inl (gTB_t (gIn3 (List.mem_of_getElem? (i := 109) (by decide +kernel))) (by decide +kernel))
theorem lk_PS_145 : gLk R_PS 145 m_PS_showDraft := Or.inl (gTB_t (gIn3 (List.mem_of_getElem? (i := 113) (by decide +kernel))) (by decide +kernel))
theorem lk_Law_44 : gLk R_Law 44 m_PS_cost := Or.inl (gTB_t (gIn3 (List.mem_of_getElem? (i := 117) (by decide +kernel))) (by decide +kernel))
theorem lk_Law_49 : gLk R_Law 49 m_PS_line := Or.inl (gTB_t (gIn3 (List.mem_of_getElem? (i := 121) (by decide +kernel))) (by decide +kernel))
theorem lk_PS_155 : gLk R_PS 155 m_Stg_hasLine := Or.inl (gTB_t (gIn3 (List.mem_of_getElem? (i := 125) (by decide +kernel))) (by decide +kernel))
theorem lk_PS_164 : gLk R_PS 164 m_Stg_natural := Or.inl (gTB_t (gIn3 (List.mem_of_getElem? (i := 129) (by decide +kernel))) (by decide +kernel))
theorem lk_PS_168 : gLk R_PS 168 m_Stg_difference := Or.inl (gTB_t (gIn3 (List.mem_of_getElem? (i := 130) (by decide +kernel))) (by decide +kernel))
theorem lk_PS_171 : gLk R_PS 171 m_Stg_badness := Or.inl (gTB_t (gIn3 (List.mem_of_getElem? (i := 131) (by decide +kernel))) (by decide +kernel))
theorem lk_PS_175 : gLk R_PS 175 m_Stg_letters := Or.inl (gTB_t (gIn3 (List.mem_of_getElem? (i := 132) (by decide +kernel))) (by decide +kernel))
theorem lk_Law_53 : gLk R_Law 53 m_PS_character := Or.inl (gTB_t (gIn3 (List.mem_of_getElem? (i := 133) (by decide +kernel))) (by decide +kernel))
theorem lk_PS_178 : gLk R_PS 178 m_Stg_codeAt := Or.inl (gTB_t (gIn3 (List.mem_of_getElem? (i := 137) (by decide +kernel))) (by decide +kernel))
theorem lk_Stg_118 : gLk R_Stg 118 m_Stg_length := Or.inl (gTB_t (gIn3 (List.mem_of_getElem? (i := 141) (by decide +kernel))) (by decide +kernel))
theorem lk_Stg_115 : gLk R_Stg 115 m_Stg_items := Or.inl (gTB_t (gIn3 (List.mem_of_getElem? (i := 145) (by decide +kernel))) (by decide +kernel))
theorem lk_Law_57 : gLk R_Law 57 m_PS_place := Or.inl (gTB_t (gIn3 (List.mem_of_getElem? (i := 149) (by decide +kernel))) (by decide +kernel))
theorem lk_PS_181 : gLk R_PS 181 m_Stg_length := Or.inl (gTB_t (gIn3 (List.mem_of_getElem? (i := 153) (by decide +kernel))) (by decide +kernel))
theorem lk_PS_184 : gLk R_PS 184 m_Stg_placeOf := Or.inl (gTB_t (gIn3 (List.mem_of_getElem? (i := 154) (by decide +kernel))) (by decide +kernel))
theorem lk_Stg_127 : gLk R_Stg 127 m_Math_floorDiv := Or.inl (gTB_t (gIn3 (List.mem_of_getElem? (i := 158) (by decide +kernel))) (by decide +kernel))
theorem lk_Law_61 : gLk R_Law 61 m_PS_count := Or.inl (gTB_t (gIn3 (List.mem_of_getElem? (i := 161) (by decide +kernel))) (by decide +kernel))
theorem lk_PS_189 : gLk R_PS 189 m_Brk_points := Or.inl (gTB_t (gIn3 (List.mem_of_getElem? (i := 165) (by decide +kernel))) (by decide +kernel))
theorem cl_Law_10 : Cond.classLink R_Law 10 "ParagraphSetterModel" ∈ gTB := gTB_t (gIn3 (List.mem_of_getElem? (i := 169) (by decide +kernel))) (by decide +kernel)
theorem lk_Law_12 : gLk R_Law 12 m_Mod_init := Or.inl (gTB_t (gIn3 (List.mem_of_getElem? (i := 171) (by decide +kernel))) (by decide +kernel))
theorem ob_Mod_1 : Cond.methodLink R_Mod 1 Lib.objectInit ∈ gTB := gTB_t (gIn3 (List.mem_of_getElem? (i := 174) (by decide +kernel))) (by decide +kernel)
theorem f_Mod_7 : gF R_Mod 7 11 0 := ⟨R_Mod, F_Mod, 52, rfl, by decide, rfl, l_Mod, Or.inl (gTB_t (gIn3 (List.mem_of_getElem? (i := 175) (by decide +kernel))) (by decide +kernel))⟩
theorem ff_Mod_7 : ∀ C T N, classes[11]? = some (C, T, N) → C = R_Mod ∧ Cond.fieldLink R_Mod 7 C (T 0).2.1 (T 0).2.2.1 ∈ gTB := fun C T N h => by cases h; exact ⟨rfl, gTB_t (gIn3 (List.mem_of_getElem? (i := 175) (by decide +kernel))) (by decide +kernel)⟩
theorem f_Mod_118 : gF R_Mod 118 11 1 := ⟨R_Mod, F_Mod, 52, rfl, by decide, rfl, l_Mod, Or.inl (gTB_t (gIn3 (List.mem_of_getElem? (i := 176) (by decide +kernel))) (by decide +kernel))⟩
theorem f_Mod_13 : gF R_Mod 13 11 2 := ⟨R_Mod, F_Mod, 52, rfl, by decide, rfl, l_Mod, Or.inl (gTB_t (gIn3 (List.mem_of_getElem? (i := 177) (by decide +kernel))) (by decide +kernel))⟩
theorem ff_Mod_13 : ∀ C T N, classes[11]? = some (C, T, N) → C = R_Mod ∧ Cond.fieldLink R_Mod 13 C (T 2).2.1 (T 2).2.2.1 ∈ gTB := fun C T N h => by cases h; exact ⟨rfl, gTB_t (gIn3 (List.mem_of_getElem? (i := 177) (by decide +kernel))) (by decide +kernel)⟩
theorem f_Mod_16 : gF R_Mod 16 11 3 := ⟨R_Mod, F_Mod, 52, rfl, by decide, rfl, l_Mod, Or.inl (gTB_t (gIn3 (List.mem_of_getElem? (i := 178) (by decide +kernel))) (by decide +kernel))⟩
theorem ff_Mod_16 : ∀ C T N, classes[11]? = some (C, T, N) → C = R_Mod ∧ Cond.fieldLink R_Mod 16 C (T 3).2.1 (T 3).2.2.1 ∈ gTB := fun C T N h => by cases h; exact ⟨rfl, gTB_t (gIn3 (List.mem_of_getElem? (i := 178) (by decide +kernel))) (by decide +kernel)⟩
theorem f_Mod_19 : gF R_Mod 19 11 4 := ⟨R_Mod, F_Mod, 52, rfl, by decide, rfl, l_Mod, Or.inl (gTB_t (gIn3 (List.mem_of_getElem? (i := 179) (by decide +kernel))) (by decide +kernel))⟩
theorem ff_Mod_19 : ∀ C T N, classes[11]? = some (C, T, N) → C = R_Mod ∧ Cond.fieldLink R_Mod 19 C (T 4).2.1 (T 4).2.2.1 ∈ gTB := fun C T N h => by cases h; exact ⟨rfl, gTB_t (gIn3 (List.mem_of_getElem? (i := 179) (by decide +kernel))) (by decide +kernel)⟩
theorem f_Mod_22 : gF R_Mod 22 11 5 := ⟨R_Mod, F_Mod, 52, rfl, by decide, rfl, l_Mod, Or.inl (gTB_t (gIn3 (List.mem_of_getElem? (i := 180) (by decide +kernel))) (by decide +kernel))⟩
theorem ff_Mod_22 : ∀ C T N, classes[11]? = some (C, T, N) → C = R_Mod ∧ Cond.fieldLink R_Mod 22 C (T 5).2.1 (T 5).2.2.1 ∈ gTB := fun C T N h => by cases h; exact ⟨rfl, gTB_t (gIn3 (List.mem_of_getElem? (i := 180) (by decide +kernel))) (by decide +kernel)⟩
theorem f_Mod_25 : gF R_Mod 25 11 6 := ⟨R_Mod, F_Mod, 52, rfl, by decide, rfl, l_Mod, Or.inl (gTB_t (gIn3 (List.mem_of_getElem? (i := 181) (by decide +kernel))) (by decide +kernel))⟩
theorem ff_Mod_25 : ∀ C T N, classes[11]? = some (C, T, N) → C = R_Mod ∧ Cond.fieldLink R_Mod 25 C (T 6).2.1 (T 6).2.2.1 ∈ gTB := fun C T N h => by cases h; exact ⟨rfl, gTB_t (gIn3 (List.mem_of_getElem? (i := 181) (by decide +kernel))) (by decide +kernel)⟩
theorem f_Mod_28 : gF R_Mod 28 11 7 := ⟨R_Mod, F_Mod, 52, rfl, by decide, rfl, l_Mod, Or.inl (gTB_t (gIn3 (List.mem_of_getElem? (i := 182) (by decide +kernel))) (by decide +kernel))⟩
theorem ff_Mod_28 : ∀ C T N, classes[11]? = some (C, T, N) → C = R_Mod ∧ Cond.fieldLink R_Mod 28 C (T 7).2.1 (T 7).2.2.1 ∈ gTB := fun C T N h => by cases h; exact ⟨rfl, gTB_t (gIn3 (List.mem_of_getElem? (i := 182) (by decide +kernel))) (by decide +kernel)⟩
theorem f_Mod_31 : gF R_Mod 31 11 8 := ⟨R_Mod, F_Mod, 52, rfl, by decide, rfl, l_Mod, Or.inl (gTB_t (gIn3 (List.mem_of_getElem? (i := 183) (by decide +kernel))) (by decide +kernel))⟩
theorem ff_Mod_31 : ∀ C T N, classes[11]? = some (C, T, N) → C = R_Mod ∧ Cond.fieldLink R_Mod 31 C (T 8).2.1 (T 8).2.2.1 ∈ gTB := fun C T N h => by cases h; exact ⟨rfl, gTB_t (gIn3 (List.mem_of_getElem? (i := 183) (by decide +kernel))) (by decide +kernel)⟩
theorem f_Mod_122 : gF R_Mod 122 11 9 := ⟨R_Mod, F_Mod, 52, rfl, by decide, rfl, l_Mod, Or.inl (gTB_t (gIn3 (List.mem_of_getElem? (i := 184) (by decide +kernel))) (by decide +kernel))⟩
theorem f_Mod_34 : gF R_Mod 34 11 10 := ⟨R_Mod, F_Mod, 52, rfl, by decide, rfl, l_Mod, Or.inl (gTB_t (gIn3 (List.mem_of_getElem? (i := 185) (by decide +kernel))) (by decide +kernel))⟩
theorem ff_Mod_34 : ∀ C T N, classes[11]? = some (C, T, N) → C = R_Mod ∧ Cond.fieldLink R_Mod 34 C (T 10).2.1 (T 10).2.2.1 ∈ gTB := fun C T N h => by cases h; exact ⟨rfl, gTB_t (gIn3 (List.mem_of_getElem? (i := 185) (by decide +kernel))) (by decide +kernel)⟩
theorem f_Mod_37 : gF R_Mod 37 11 11 := ⟨R_Mod, F_Mod, 52, rfl, by decide, rfl, l_Mod, Or.inl (gTB_t (gIn3 (List.mem_of_getElem? (i := 186) (by decide +kernel))) (by decide +kernel))⟩
theorem ff_Mod_37 : ∀ C T N, classes[11]? = some (C, T, N) → C = R_Mod ∧ Cond.fieldLink R_Mod 37 C (T 11).2.1 (T 11).2.2.1 ∈ gTB := fun C T N h => by cases h; exact ⟨rfl, gTB_t (gIn3 (List.mem_of_getElem? (i := 186) (by decide +kernel))) (by decide +kernel)⟩
theorem f_Mod_40 : gF R_Mod 40 11 12 := ⟨R_Mod, F_Mod, 52, rfl, by decide, rfl, l_Mod, Or.inl (gTB_t (gIn3 (List.mem_of_getElem? (i := 187) (by decide +kernel))) (by decide +kernel))⟩
theorem ff_Mod_40 : ∀ C T N, classes[11]? = some (C, T, N) → C = R_Mod ∧ Cond.fieldLink R_Mod 40 C (T 12).2.1 (T 12).2.2.1 ∈ gTB := fun C T N h => by cases h; exact ⟨rfl, gTB_t (gIn3 (List.mem_of_getElem? (i := 187) (by decide +kernel))) (by decide +kernel)⟩
theorem f_Mod_43 : gF R_Mod 43 11 13 := ⟨R_Mod, F_Mod, 52, rfl, by decide, rfl, l_Mod, Or.inl (gTB_t (gIn3 (List.mem_of_getElem? (i := 188) (by decide +kernel))) (by decide +kernel))⟩
theorem ff_Mod_43 : ∀ C T N, classes[11]? = some (C, T, N) → C = R_Mod ∧ Cond.fieldLink R_Mod 43 C (T 13).2.1 (T 13).2.2.1 ∈ gTB := fun C T N h => by cases h; exact ⟨rfl, gTB_t (gIn3 (List.mem_of_getElem? (i := 188) (by decide +kernel))) (by decide +kernel)⟩
theorem f_Mod_125 : gF R_Mod 125 11 14 := ⟨R_Mod, F_Mod, 52, rfl, by decide, rfl, l_Mod, Or.inl (gTB_t (gIn3 (List.mem_of_getElem? (i := 189) (by decide +kernel))) (by decide +kernel))⟩
theorem f_Mod_128 : gF R_Mod 128 11 15 := ⟨R_Mod, F_Mod, 52, rfl, by decide, rfl, l_Mod, Or.inl (gTB_t (gIn3 (List.mem_of_getElem? (i := 190) (by decide +kernel))) (by decide +kernel))⟩
theorem f_Mod_135 : gF R_Mod 135 11 16 := ⟨R_Mod, F_Mod, 52, rfl, by decide, rfl, l_Mod, Or.inl (gTB_t (gIn3 (List.mem_of_getElem? (i := 191) (by decide +kernel))) (by decide +kernel))⟩
theorem f_Mod_46 : gF R_Mod 46 11 17 := ⟨R_Mod, F_Mod, 52, rfl, by decide, rfl, l_Mod, Or.inl (gTB_t (gIn3 (List.mem_of_getElem? (i := 192) (by decide +kernel))) (by decide +kernel))⟩
theorem ff_Mod_46 : ∀ C T N, classes[11]? = some (C, T, N) → C = R_Mod ∧ Cond.fieldLink R_Mod 46 C (T 17).2.1 (T 17).2.2.1 ∈ gTB := fun C T N h => by cases h; exact ⟨rfl, gTB_t (gIn3 (List.mem_of_getElem? (i := 192) (by decide +kernel))) (by decide +kernel)⟩
theorem f_Mod_49 : gF R_Mod 49 11 18 := ⟨R_Mod, F_Mod, 52, rfl, by decide, rfl, l_Mod, Or.inl (gTB_t (gIn3 (List.mem_of_getElem? (i := 193) (by decide +kernel))) (by decide +kernel))⟩
theorem ff_Mod_49 : ∀ C T N, classes[11]? = some (C, T, N) → C = R_Mod ∧ Cond.fieldLink R_Mod 49 C (T 18).2.1 (T 18).2.2.1 ∈ gTB := fun C T N h => by cases h; exact ⟨rfl, gTB_t (gIn3 (List.mem_of_getElem? (i := 193) (by decide +kernel))) (by decide +kernel)⟩
theorem f_Mod_52 : gF R_Mod 52 11 19 := ⟨R_Mod, F_Mod, 52, rfl, by decide, rfl, l_Mod, Or.inl (gTB_t (gIn3 (List.mem_of_getElem? (i := 194) (by decide +kernel))) (by decide +kernel))⟩
theorem ff_Mod_52 : ∀ C T N, classes[11]? = some (C, T, N) → C = R_Mod ∧ Cond.fieldLink R_Mod 52 C (T 19).2.1 (T 19).2.2.1 ∈ gTB := fun C T N h => by cases h; exact ⟨rfl, gTB_t (gIn3 (List.mem_of_getElem? (i := 194) (by decide +kernel))) (by decide +kernel)⟩
theorem f_Mod_55 : gF R_Mod 55 11 20 := ⟨R_Mod, F_Mod, 52, rfl, by decide, rfl, l_Mod, Or.inl (gTB_t (gIn3 (List.mem_of_getElem? (i := 195) (by decide +kernel))) (by decide +kernel))⟩
theorem ff_Mod_55 : ∀ C T N, classes[11]? = some (C, T, N) → C = R_Mod ∧ Cond.fieldLink R_Mod 55 C (T 20).2.1 (T 20).2.2.1 ∈ gTB := fun C T N h => by cases h; exact ⟨rfl, gTB_t (gIn3 (List.mem_of_getElem? (i := 195) (by decide +kernel))) (by decide +kernel)⟩
theorem f_Mod_58 : gF R_Mod 58 11 21 := ⟨R_Mod, F_Mod, 52, rfl, by decide, rfl, l_Mod, Or.inl (gTB_t (gIn3 (List.mem_of_getElem? (i := 196) (by decide +kernel))) (by decide +kernel))⟩
theorem ff_Mod_58 : ∀ C T N, classes[11]? = some (C, T, N) → C = R_Mod ∧ Cond.fieldLink R_Mod 58 C (T 21).2.1 (T 21).2.2.1 ∈ gTB := fun C T N h => by cases h; exact ⟨rfl, gTB_t (gIn3 (List.mem_of_getElem? (i := 196) (by decide +kernel))) (by decide +kernel)⟩
theorem f_Mod_142 : gF R_Mod 142 11 22 := ⟨R_Mod, F_Mod, 52, rfl, by decide, rfl, l_Mod, Or.inl (gTB_t (gIn3 (List.mem_of_getElem? (i := 197) (by decide +kernel))) (by decide +kernel))⟩
theorem f_Mod_202 : gF R_Mod 202 11 23 := ⟨R_Mod, F_Mod, 52, rfl, by decide, rfl, l_Mod, Or.inl (gTB_t (gIn3 (List.mem_of_getElem? (i := 198) (by decide +kernel))) (by decide +kernel))⟩
theorem f_Mod_61 : gF R_Mod 61 11 24 := ⟨R_Mod, F_Mod, 52, rfl, by decide, rfl, l_Mod, Or.inl (gTB_t (gIn3 (List.mem_of_getElem? (i := 199) (by decide +kernel))) (by decide +kernel))⟩
theorem ff_Mod_61 : ∀ C T N, classes[11]? = some (C, T, N) → C = R_Mod ∧ Cond.fieldLink R_Mod 61 C (T 24).2.1 (T 24).2.2.1 ∈ gTB := fun C T N h => by cases h; exact ⟨rfl, gTB_t (gIn3 (List.mem_of_getElem? (i := 199) (by decide +kernel))) (by decide +kernel)⟩
theorem f_Mod_65 : gF R_Mod 65 11 25 := ⟨R_Mod, F_Mod, 52, rfl, by decide, rfl, l_Mod, Or.inl (gTB_t (gIn3 (List.mem_of_getElem? (i := 200) (by decide +kernel))) (by decide +kernel))⟩
theorem ff_Mod_65 : ∀ C T N, classes[11]? = some (C, T, N) → C = R_Mod ∧ Cond.fieldLink R_Mod 65 C (T 25).2.1 (T 25).2.2.1 ∈ gTB := fun C T N h => by cases h; exact ⟨rfl, gTB_t (gIn3 (List.mem_of_getElem? (i := 200) (by decide +kernel))) (by decide +kernel)⟩
theorem f_Mod_68 : gF R_Mod 68 11 26 := ⟨R_Mod, F_Mod, 52, rfl, by decide, rfl, l_Mod, Or.inl (gTB_t (gIn3 (List.mem_of_getElem? (i := 201) (by decide +kernel))) (by decide +kernel))⟩
theorem ff_Mod_68 : ∀ C T N, classes[11]? = some (C, T, N) → C = R_Mod ∧ Cond.fieldLink R_Mod 68 C (T 26).2.1 (T 26).2.2.1 ∈ gTB := fun C T N h => by cases h; exact ⟨rfl, gTB_t (gIn3 (List.mem_of_getElem? (i := 201) (by decide +kernel))) (by decide +kernel)⟩
theorem f_Mod_71 : gF R_Mod 71 11 27 := ⟨R_Mod, F_Mod, 52, rfl, by decide, rfl, l_Mod, Or.inl (gTB_t (gIn3 (List.mem_of_getElem? (i := 202) (by decide +kernel))) (by decide +kernel))⟩
theorem ff_Mod_71 : ∀ C T N, classes[11]? = some (C, T, N) → C = R_Mod ∧ Cond.fieldLink R_Mod 71 C (T 27).2.1 (T 27).2.2.1 ∈ gTB := fun C T N h => by cases h; exact ⟨rfl, gTB_t (gIn3 (List.mem_of_getElem? (i := 202) (by decide +kernel))) (by decide +kernel)⟩
theorem f_Mod_163 : gF R_Mod 163 11 28 := ⟨R_Mod, F_Mod, 52, rfl, by decide, rfl, l_Mod, Or.inl (gTB_t (gIn3 (List.mem_of_getElem? (i := 203) (by decide +kernel))) (by decide +kernel))⟩
theorem f_Mod_157 : gF R_Mod 157 11 29 := ⟨R_Mod, F_Mod, 52, rfl, by decide, rfl, l_Mod, Or.inl (gTB_t (gIn3 (List.mem_of_getElem? (i := 204) (by decide +kernel))) (by decide +kernel))⟩
theorem f_Mod_74 : gF R_Mod 74 11 30 := ⟨R_Mod, F_Mod, 52, rfl, by decide, rfl, l_Mod, Or.inl (gTB_t (gIn3 (List.mem_of_getElem? (i := 205) (by decide +kernel))) (by decide +kernel))⟩
theorem ff_Mod_74 : ∀ C T N, classes[11]? = some (C, T, N) → C = R_Mod ∧ Cond.fieldLink R_Mod 74 C (T 30).2.1 (T 30).2.2.1 ∈ gTB := fun C T N h => by cases h; exact ⟨rfl, gTB_t (gIn3 (List.mem_of_getElem? (i := 205) (by decide +kernel))) (by decide +kernel)⟩
theorem f_Mod_78 : gF R_Mod 78 11 31 := ⟨R_Mod, F_Mod, 52, rfl, by decide, rfl, l_Mod, Or.inl (gTB_t (gIn3 (List.mem_of_getElem? (i := 206) (by decide +kernel))) (by decide +kernel))⟩
theorem ff_Mod_78 : ∀ C T N, classes[11]? = some (C, T, N) → C = R_Mod ∧ Cond.fieldLink R_Mod 78 C (T 31).2.1 (T 31).2.2.1 ∈ gTB := fun C T N h => by cases h; exact ⟨rfl, gTB_t (gIn3 (List.mem_of_getElem? (i := 206) (by decide +kernel))) (by decide +kernel)⟩
theorem f_Mod_81 : gF R_Mod 81 11 32 := ⟨R_Mod, F_Mod, 52, rfl, by decide, rfl, l_Mod, Or.inl (gTB_t (gIn3 (List.mem_of_getElem? (i := 207) (by decide +kernel))) (by decide +kernel))⟩
theorem ff_Mod_81 : ∀ C T N, classes[11]? = some (C, T, N) → C = R_Mod ∧ Cond.fieldLink R_Mod 81 C (T 32).2.1 (T 32).2.2.1 ∈ gTB := fun C T N h => by cases h; exact ⟨rfl, gTB_t (gIn3 (List.mem_of_getElem? (i := 207) (by decide +kernel))) (by decide +kernel)⟩
theorem f_Mod_170 : gF R_Mod 170 11 33 := ⟨R_Mod, F_Mod, 52, rfl, by decide, rfl, l_Mod, Or.inl (gTB_t (gIn3 (List.mem_of_getElem? (i := 208) (by decide +kernel))) (by decide +kernel))⟩
theorem f_Mod_173 : gF R_Mod 173 11 34 := ⟨R_Mod, F_Mod, 52, rfl, by decide, rfl, l_Mod, Or.inl (gTB_t (gIn3 (List.mem_of_getElem? (i := 209) (by decide +kernel))) (by decide +kernel))⟩
theorem f_Mod_182 : gF R_Mod 182 11 35 := ⟨R_Mod, F_Mod, 52, rfl, by decide, rfl, l_Mod, Or.inl (gTB_t (gIn3 (List.mem_of_getElem? (i := 210) (by decide +kernel))) (by decide +kernel))⟩
theorem f_Mod_179 : gF R_Mod 179 11 36 := ⟨R_Mod, F_Mod, 52, rfl, by decide, rfl, l_Mod, Or.inl (gTB_t (gIn3 (List.mem_of_getElem? (i := 211) (by decide +kernel))) (by decide +kernel))⟩
theorem f_Mod_176 : gF R_Mod 176 11 37 := ⟨R_Mod, F_Mod, 52, rfl, by decide, rfl, l_Mod, Or.inl (gTB_t (gIn3 (List.mem_of_getElem? (i := 212) (by decide +kernel))) (by decide +kernel))⟩
theorem f_Mod_84 : gF R_Mod 84 11 38 := ⟨R_Mod, F_Mod, 52, rfl, by decide, rfl, l_Mod, Or.inl (gTB_t (gIn3 (List.mem_of_getElem? (i := 213) (by decide +kernel))) (by decide +kernel))⟩
theorem ff_Mod_84 : ∀ C T N, classes[11]? = some (C, T, N) → C = R_Mod ∧ Cond.fieldLink R_Mod 84 C (T 38).2.1 (T 38).2.2.1 ∈ gTB := fun C T N h => by cases h; exact ⟨rfl, gTB_t (gIn3 (List.mem_of_getElem? (i := 213) (by decide +kernel))) (by decide +kernel)⟩
theorem f_Mod_87 : gF R_Mod 87 11 39 := ⟨R_Mod, F_Mod, 52, rfl, by decide, rfl, l_Mod, Or.inl (gTB_t (gIn3 (List.mem_of_getElem? (i := 214) (by decide +kernel))) (by decide +kernel))⟩
theorem ff_Mod_87 : ∀ C T N, classes[11]? = some (C, T, N) → C = R_Mod ∧ Cond.fieldLink R_Mod 87 C (T 39).2.1 (T 39).2.2.1 ∈ gTB := fun C T N h => by cases h; exact ⟨rfl, gTB_t (gIn3 (List.mem_of_getElem? (i := 214) (by decide +kernel))) (by decide +kernel)⟩
theorem f_Mod_90 : gF R_Mod 90 11 40 := ⟨R_Mod, F_Mod, 52, rfl, by decide, rfl, l_Mod, Or.inl (gTB_t (gIn3 (List.mem_of_getElem? (i := 215) (by decide +kernel))) (by decide +kernel))⟩
theorem ff_Mod_90 : ∀ C T N, classes[11]? = some (C, T, N) → C = R_Mod ∧ Cond.fieldLink R_Mod 90 C (T 40).2.1 (T 40).2.2.1 ∈ gTB := fun C T N h => by cases h; exact ⟨rfl, gTB_t (gIn3 (List.mem_of_getElem? (i := 215) (by decide +kernel))) (by decide +kernel)⟩
theorem f_Mod_93 : gF R_Mod 93 11 41 := ⟨R_Mod, F_Mod, 52, rfl, by decide, rfl, l_Mod, Or.inl (gTB_t (gIn3 (List.mem_of_getElem? (i := 216) (by decide +kernel))) (by decide +kernel))⟩
theorem ff_Mod_93 : ∀ C T N, classes[11]? = some (C, T, N) → C = R_Mod ∧ Cond.fieldLink R_Mod 93 C (T 41).2.1 (T 41).2.2.1 ∈ gTB := fun C T N h => by cases h; exact ⟨rfl, gTB_t (gIn3 (List.mem_of_getElem? (i := 216) (by decide +kernel))) (by decide +kernel)⟩
theorem f_Mod_96 : gF R_Mod 96 11 42 := ⟨R_Mod, F_Mod, 52, rfl, by decide, rfl, l_Mod, Or.inl (gTB_t (gIn3 (List.mem_of_getElem? (i := 217) (by decide +kernel))) (by decide +kernel))⟩
theorem ff_Mod_96 : ∀ C T N, classes[11]? = some (C, T, N) → C = R_Mod ∧ Cond.fieldLink R_Mod 96 C (T 42).2.1 (T 42).2.2.1 ∈ gTB := fun C T N h => by cases h; exact ⟨rfl, gTB_t (gIn3 (List.mem_of_getElem? (i := 217) (by decide +kernel))) (by decide +kernel)⟩
theorem f_Mod_99 : gF R_Mod 99 11 43 := ⟨R_Mod, F_Mod, 52, rfl, by decide, rfl, l_Mod, Or.inl (gTB_t (gIn3 (List.mem_of_getElem? (i := 218) (by decide +kernel))) (by decide +kernel))⟩
theorem ff_Mod_99 : ∀ C T N, classes[11]? = some (C, T, N) → C = R_Mod ∧ Cond.fieldLink R_Mod 99 C (T 43).2.1 (T 43).2.2.1 ∈ gTB := fun C T N h => by cases h; exact ⟨rfl, gTB_t (gIn3 (List.mem_of_getElem? (i := 218) (by decide +kernel))) (by decide +kernel)⟩
theorem f_Mod_102 : gF R_Mod 102 11 44 := ⟨R_Mod, F_Mod, 52, rfl, by decide, rfl, l_Mod, Or.inl (gTB_t (gIn3 (List.mem_of_getElem? (i := 219) (by decide +kernel))) (by decide +kernel))⟩
theorem ff_Mod_102 : ∀ C T N, classes[11]? = some (C, T, N) → C = R_Mod ∧ Cond.fieldLink R_Mod 102 C (T 44).2.1 (T 44).2.2.1 ∈ gTB := fun C T N h => by cases h; exact ⟨rfl, gTB_t (gIn3 (List.mem_of_getElem? (i := 219) (by decide +kernel))) (by decide +kernel)⟩
theorem f_Mod_105 : gF R_Mod 105 11 45 := ⟨R_Mod, F_Mod, 52, rfl, by decide, rfl, l_Mod, Or.inl (gTB_t (gIn3 (List.mem_of_getElem? (i := 220) (by decide +kernel))) (by decide +kernel))⟩
theorem ff_Mod_105 : ∀ C T N, classes[11]? = some (C, T, N) → C = R_Mod ∧ Cond.fieldLink R_Mod 105 C (T 45).2.1 (T 45).2.2.1 ∈ gTB := fun C T N h => by cases h; exact ⟨rfl, gTB_t (gIn3 (List.mem_of_getElem? (i := 220) (by decide +kernel))) (by decide +kernel)⟩
theorem f_Mod_108 : gF R_Mod 108 11 46 := ⟨R_Mod, F_Mod, 52, rfl, by decide, rfl, l_Mod, Or.inl (gTB_t (gIn3 (List.mem_of_getElem? (i := 221) (by decide +kernel))) (by decide +kernel))⟩
theorem ff_Mod_108 : ∀ C T N, classes[11]? = some (C, T, N) → C = R_Mod ∧ Cond.fieldLink R_Mod 108 C (T 46).2.1 (T 46).2.2.1 ∈ gTB := fun C T N h => by cases h; exact ⟨rfl, gTB_t (gIn3 (List.mem_of_getElem? (i := 221) (by decide +kernel))) (by decide +kernel)⟩
theorem f_Mod_199 : gF R_Mod 199 11 47 := ⟨R_Mod, F_Mod, 52, rfl, by decide, rfl, l_Mod, Or.inl (gTB_t (gIn3 (List.mem_of_getElem? (i := 222) (by decide +kernel))) (by decide +kernel))⟩
theorem f_Mod_205 : gF R_Mod 205 11 48 := ⟨R_Mod, F_Mod, 52, rfl, by decide, rfl, l_Mod, Or.inl (gTB_t (gIn3 (List.mem_of_getElem? (i := 223) (by decide +kernel))) (by decide +kernel))⟩
theorem f_Mod_208 : gF R_Mod 208 11 49 := ⟨R_Mod, F_Mod, 52, rfl, by decide, rfl, l_Mod, Or.inl (gTB_t (gIn3 (List.mem_of_getElem? (i := 224) (by decide +kernel))) (by decide +kernel))⟩
theorem f_Mod_211 : gF R_Mod 211 11 50 := ⟨R_Mod, F_Mod, 52, rfl, by decide, rfl, l_Mod, Or.inl (gTB_t (gIn3 (List.mem_of_getElem? (i := 225) (by decide +kernel))) (by decide +kernel))⟩
theorem f_Mod_214 : gF R_Mod 214 11 51 := ⟨R_Mod, F_Mod, 52, rfl, by decide, rfl, l_Mod, Or.inl (gTB_t (gIn3 (List.mem_of_getElem? (i := 226) (by decide +kernel))) (by decide +kernel))⟩
theorem lk_Law_17 : gLk R_Law 17 m_Mod_type := Or.inl (gTB_t (gIn4 (List.mem_of_getElem? (i := 93) (by decide +kernel))) (by decide +kernel))
theorem lk_Mod_111 : gLk R_Mod 111 m_Mod_letter := Or.inl (gTB_t (gIn4 (List.mem_of_getElem? (i := 97) (by decide +kernel))) (by decide +kernel))
theorem lk_Mod_115 : gLk R_Mod 115 m_Mod_digit := Or.inl (gTB_t (gIn4 (List.mem_of_getElem? (i := 100) (by decide +kernel))) (by decide +kernel))
theorem lk_Law_22 : gLk R_Law 22 m_Mod_wipe := Or.inl (gTB_t (gIn4 (List.mem_of_getElem? (i := 103) (by decide +kernel))) (by decide +kernel))
theorem lk_Law_27 : gLk R_Law 27 m_Mod_width := Or.inl (gTB_t (gIn4 (List.mem_of_getElem? (i := 107) (by decide +kernel))) (by decide +kernel))
theorem lk_Law_31 : gLk R_Law 31 m_Mod_parameter := Or.inl (gTB_t (gIn4 (List.mem_of_getElem? (i := 111) (by decide +kernel))) (by decide +kernel))
theorem lk_Law_35 : gLk R_Law 35 m_Mod_define := Or.inl (gTB_t (gIn4 (List.mem_of_getElem? (i := 115) (by decide +kernel))) (by decide +kernel))
theorem lk_Law_39 : gLk R_Law 39 m_Mod_pattern := Or.inl (gTB_t (gIn4 (List.mem_of_getElem? (i := 119) (by decide +kernel))) (by decide +kernel))
theorem lk_Law_43 : gLk R_Law 43 m_Mod_paragraph := Or.inl (gTB_t (gIn4 (List.mem_of_getElem? (i := 123) (by decide +kernel))) (by decide +kernel))
theorem lk_Mod_218 : gLk R_Mod 218 m_Mod_expand := Or.inl (gTB_t (gIn4 (List.mem_of_getElem? (i := 127) (by decide +kernel))) (by decide +kernel))
theorem lk_Mod_131 : gLk R_Mod 131 m_Mod_take := Or.inl (gTB_t (gIn4 (List.mem_of_getElem? (i := 131) (by decide +kernel))) (by decide +kernel))
theorem lk_Mod_145 : gLk R_Mod 145 m_Mod_call := Or.inl (gTB_t (gIn4 (List.mem_of_getElem? (i := 135) (by decide +kernel))) (by decide +kernel))
theorem lk_Mod_138 : gLk R_Mod 138 m_Mod_takeArgument := Or.inl (gTB_t (gIn4 (List.mem_of_getElem? (i := 139) (by decide +kernel))) (by decide +kernel))
theorem lk_Mod_221 : gLk R_Mod 221 m_Mod_clean := Or.inl (gTB_t (gIn4 (List.mem_of_getElem? (i := 143) (by decide +kernel))) (by decide +kernel))
theorem lk_Mod_149 : gLk R_Mod 149 m_Mod_drop := Or.inl (gTB_t (gIn4 (List.mem_of_getElem? (i := 147) (by decide +kernel))) (by decide +kernel))
theorem lk_Mod_224 : gLk R_Mod 224 m_Mod_hyphenate := Or.inl (gTB_t (gIn4 (List.mem_of_getElem? (i := 151) (by decide +kernel))) (by decide +kernel))
theorem lk_Mod_160 : gLk R_Mod 160 m_Mod_greatest := Or.inl (gTB_t (gIn4 (List.mem_of_getElem? (i := 155) (by decide +kernel))) (by decide +kernel))
theorem lk_Mod_153 : gLk R_Mod 153 m_Mod_signOf := Or.inl (gTB_t (gIn4 (List.mem_of_getElem? (i := 159) (by decide +kernel))) (by decide +kernel))
theorem lk_Mod_227 : gLk R_Mod 227 m_Mod_findBreaks := Or.inl (gTB_t (gIn4 (List.mem_of_getElem? (i := 163) (by decide +kernel))) (by decide +kernel))
theorem lk_Mod_166 : gLk R_Mod 166 m_Mod_addBreak := Or.inl (gTB_t (gIn4 (List.mem_of_getElem? (i := 167) (by decide +kernel))) (by decide +kernel))
theorem lk_Mod_230 : gLk R_Mod 230 m_Mod_solve := Or.inl (gTB_t (gIn4 (List.mem_of_getElem? (i := 171) (by decide +kernel))) (by decide +kernel))
theorem lk_Mod_191 : gLk R_Mod 191 m_Mod_measure := Or.inl (gTB_t (gIn4 (List.mem_of_getElem? (i := 176) (by decide +kernel))) (by decide +kernel))
theorem lk_Mod_195 : gLk R_Mod 195 m_Mod_price := Or.inl (gTB_t (gIn4 (List.mem_of_getElem? (i := 182) (by decide +kernel))) (by decide +kernel))
theorem lk_Mod_233 : gLk R_Mod 233 m_Mod_jot := Or.inl (gTB_t (gIn4 (List.mem_of_getElem? (i := 186) (by decide +kernel))) (by decide +kernel))
theorem lk_Law_48 : gLk R_Law 48 m_Mod_cost := Or.inl (gTB_t (gIn4 (List.mem_of_getElem? (i := 190) (by decide +kernel))) (by decide +kernel))
theorem lk_Law_52 : gLk R_Law 52 m_Mod_line := Or.inl (gTB_t (gIn4 (List.mem_of_getElem? (i := 194) (by decide +kernel))) (by decide +kernel))
theorem lk_Mod_236 : gLk R_Mod 236 m_Mod_isLine := Or.inl (gTB_t (gIn4 (List.mem_of_getElem? (i := 198) (by decide +kernel))) (by decide +kernel))
theorem lk_Law_56 : gLk R_Law 56 m_Mod_character := Or.inl (gTB_t (gIn4 (List.mem_of_getElem? (i := 202) (by decide +kernel))) (by decide +kernel))
theorem lk_Mod_239 : gLk R_Mod 239 m_Mod_characters := Or.inl (gTB_t (gIn4 (List.mem_of_getElem? (i := 206) (by decide +kernel))) (by decide +kernel))
theorem lk_Law_60 : gLk R_Law 60 m_Mod_place := Or.inl (gTB_t (gIn4 (List.mem_of_getElem? (i := 210) (by decide +kernel))) (by decide +kernel))
theorem lk_Law_64 : gLk R_Law 64 m_Mod_count := Or.inl (gTB_t (gIn4 (List.mem_of_getElem? (i := 214) (by decide +kernel))) (by decide +kernel))
theorem ft_Row_0 : gFt 0 0 true (.array .int) := ⟨R_Row, F_Row, 2, t_Row, rfl, t_Row_ok, n_Row, rfl, by decide +kernel⟩
theorem ft_Row_1 : gFt 0 1 false (.int) := ⟨R_Row, F_Row, 2, t_Row, rfl, t_Row_ok, n_Row, rfl, by decide +kernel⟩
theorem ins_Row : Cond.instantiable R_Row 2 ∈ gTB := gTB_t (gIn1 (List.mem_of_getElem? (i := 23) (by decide +kernel))) (by decide +kernel)
theorem ini_Row : Cond.initialized R_Row ∈ gTB := gTB_t (gIn1 (List.mem_of_getElem? (i := 2) (by decide +kernel))) (by decide +kernel)
theorem ft_Mac_0 : gFt 1 0 true (.object "ParagraphSetter$Row") := ⟨R_Mac, F_Mac, 2, t_Mac, rfl, t_Mac_ok, n_Mac, rfl, by decide +kernel⟩
theorem ft_Mac_1 : gFt 1 1 false (.boolean) := ⟨R_Mac, F_Mac, 2, t_Mac, rfl, t_Mac_ok, n_Mac, rfl, by decide +kernel⟩
theorem ins_Mac : Cond.instantiable R_Mac 2 ∈ gTB := gTB_t (gIn1 (List.mem_of_getElem? (i := 53) (by decide +kernel))) (by decide +kernel)
theorem ini_Mac : Cond.initialized R_Mac ∈ gTB := gTB_t (gIn1 (List.mem_of_getElem? (i := 4) (by decide +kernel))) (by decide +kernel)
theorem ft_Exp_0 : gFt 2 0 true (.array (.object "ParagraphSetter$Macro")) := ⟨R_Exp, F_Exp, 8, t_Exp, rfl, t_Exp_ok, n_Exp, rfl, by decide +kernel⟩
theorem ft_Exp_1 : gFt 2 1 true (.array .int) := ⟨R_Exp, F_Exp, 8, t_Exp, rfl, t_Exp_ok, n_Exp, rfl, by decide +kernel⟩
theorem ft_Exp_2 : gFt 2 2 false (.int) := ⟨R_Exp, F_Exp, 8, t_Exp, rfl, t_Exp_ok, n_Exp, rfl, by decide +kernel⟩
theorem ft_Exp_3 : gFt 2 3 true (.object "ParagraphSetter$Row") := ⟨R_Exp, F_Exp, 8, t_Exp, rfl, t_Exp_ok, n_Exp, rfl, by decide +kernel⟩
theorem ft_Exp_4 : gFt 2 4 true (.array .int) := ⟨R_Exp, F_Exp, 8, t_Exp, rfl, t_Exp_ok, n_Exp, rfl, by decide +kernel⟩
theorem ft_Exp_5 : gFt 2 5 false (.int) := ⟨R_Exp, F_Exp, 8, t_Exp, rfl, t_Exp_ok, n_Exp, rfl, by decide +kernel⟩
theorem ft_Exp_6 : gFt 2 6 false (.int) := ⟨R_Exp, F_Exp, 8, t_Exp, rfl, t_Exp_ok, n_Exp, rfl, by decide +kernel⟩
theorem ft_Exp_7 : gFt 2 7 false (.int) := ⟨R_Exp, F_Exp, 8, t_Exp, rfl, t_Exp_ok, n_Exp, rfl, by decide +kernel⟩
theorem ins_Exp : Cond.instantiable R_Exp 8 ∈ gTB := gTB_t (gIn1 (List.mem_of_getElem? (i := 44) (by decide +kernel))) (by decide +kernel)
theorem ini_Exp : Cond.initialized R_Exp ∈ gTB := gTB_t (gIn1 (List.mem_of_getElem? (i := 3) (by decide +kernel))) (by decide +kernel)
theorem ft_Txt_0 : gFt 3 0 true (.array .int) := ⟨R_Txt, F_Txt, 3, t_Txt, rfl, t_Txt_ok, n_Txt, rfl, by decide +kernel⟩
theorem ft_Txt_1 : gFt 3 1 true (.array .int) := ⟨R_Txt, F_Txt, 3, t_Txt, rfl, t_Txt_ok, n_Txt, rfl, by decide +kernel⟩
theorem ft_Txt_2 : gFt 3 2 false (.int) := ⟨R_Txt, F_Txt, 3, t_Txt, rfl, t_Txt_ok, n_Txt, rfl, by decide +kernel⟩
theorem ins_Txt : Cond.instantiable R_Txt 3 ∈ gTB := gTB_t (gIn1 (List.mem_of_getElem? (i := 157) (by decide +kernel))) (by decide +kernel)
theorem ini_Txt : Cond.initialized R_Txt ∈ gTB := gTB_t (gIn1 (List.mem_of_getElem? (i := 9) (by decide +kernel))) (by decide +kernel)
theorem ft_Pat_0 : gFt 4 0 true (.array .int) := ⟨R_Pat, F_Pat, 3, t_Pat, rfl, t_Pat_ok, n_Pat, rfl, by decide +kernel⟩
theorem ft_Pat_1 : gFt 4 1 true (.array .int) := ⟨R_Pat, F_Pat, 3, t_Pat, rfl, t_Pat_ok, n_Pat, rfl, by decide +kernel⟩
theorem ft_Pat_2 : gFt 4 2 false (.int) := ⟨R_Pat, F_Pat, 3, t_Pat, rfl, t_Pat_ok, n_Pat, rfl, by decide +kernel⟩
theorem ins_Pat : Cond.instantiable R_Pat 3 ∈ gTB := gTB_t (gIn1 (List.mem_of_getElem? (i := 104) (by decide +kernel))) (by decide +kernel)
theorem ini_Pat : Cond.initialized R_Pat ∈ gTB := gTB_t (gIn1 (List.mem_of_getElem? (i := 6) (by decide +kernel))) (by decide +kernel)
theorem ft_Hyp_0 : gFt 5 0 true (.array (.object "ParagraphSetter$Pattern")) := ⟨R_Hyp, F_Hyp, 3, t_Hyp, rfl, t_Hyp_ok, n_Hyp, rfl, by decide +kernel⟩
theorem ft_Hyp_1 : gFt 5 1 false (.int) := ⟨R_Hyp, F_Hyp, 3, t_Hyp, rfl, t_Hyp_ok, n_Hyp, rfl, by decide +kernel⟩
theorem ft_Hyp_2 : gFt 5 2 true (.array .int) := ⟨R_Hyp, F_Hyp, 3, t_Hyp, rfl, t_Hyp_ok, n_Hyp, rfl, by decide +kernel⟩
theorem ins_Hyp : Cond.instantiable R_Hyp 3 ∈ gTB := gTB_t (gIn1 (List.mem_of_getElem? (i := 97) (by decide +kernel))) (by decide +kernel)
theorem ini_Hyp : Cond.initialized R_Hyp ∈ gTB := gTB_t (gIn1 (List.mem_of_getElem? (i := 5) (by decide +kernel))) (by decide +kernel)
theorem ft_Brk_0 : gFt 6 0 true (.array .int) := ⟨R_Brk, F_Brk, 4, t_Brk, rfl, t_Brk_ok, n_Brk, rfl, by decide +kernel⟩
theorem ft_Brk_1 : gFt 6 1 true (.array .int) := ⟨R_Brk, F_Brk, 4, t_Brk, rfl, t_Brk_ok, n_Brk, rfl, by decide +kernel⟩
theorem ft_Brk_2 : gFt 6 2 true (.array .int) := ⟨R_Brk, F_Brk, 4, t_Brk, rfl, t_Brk_ok, n_Brk, rfl, by decide +kernel⟩
theorem ft_Brk_3 : gFt 6 3 false (.int) := ⟨R_Brk, F_Brk, 4, t_Brk, rfl, t_Brk_ok, n_Brk, rfl, by decide +kernel⟩
theorem ins_Brk : Cond.instantiable R_Brk 4 ∈ gTB := gTB_t (gIn1 (List.mem_of_getElem? (i := 183) (by decide +kernel))) (by decide +kernel)
theorem ini_Brk : Cond.initialized R_Brk ∈ gTB := gTB_t (gIn1 (List.mem_of_getElem? (i := 10) (by decide +kernel))) (by decide +kernel)
theorem ft_Sum_0 : gFt 7 0 true (.array .int) := ⟨R_Sum, F_Sum, 5, t_Sum, rfl, t_Sum_ok, n_Sum, rfl, by decide +kernel⟩
theorem ft_Sum_1 : gFt 7 1 true (.array .int) := ⟨R_Sum, F_Sum, 5, t_Sum, rfl, t_Sum_ok, n_Sum, rfl, by decide +kernel⟩
theorem ft_Sum_2 : gFt 7 2 true (.array .int) := ⟨R_Sum, F_Sum, 5, t_Sum, rfl, t_Sum_ok, n_Sum, rfl, by decide +kernel⟩
theorem ft_Sum_3 : gFt 7 3 true (.array .int) := ⟨R_Sum, F_Sum, 5, t_Sum, rfl, t_Sum_ok, n_Sum, rfl, by decide +kernel⟩
theorem ft_Sum_4 : gFt 7 4 true (.array .int) := ⟨R_Sum, F_Sum, 5, t_Sum, rfl, t_Sum_ok, n_Sum, rfl, by decide +kernel⟩
theorem ins_Sum : Cond.instantiable R_Sum 5 ∈ gTB := gTB_t (gIn1 (List.mem_of_getElem? (i := 209) (by decide +kernel))) (by decide +kernel)
theorem ini_Sum : Cond.initialized R_Sum ∈ gTB := gTB_t (gIn1 (List.mem_of_getElem? (i := 11) (by decide +kernel))) (by decide +kernel)
theorem ft_Stg_0 : gFt 8 0 true (.object "ParagraphSetter$Text") := ⟨R_Stg, F_Stg, 9, t_Stg, rfl, t_Stg_ok, n_Stg, rfl, by decide +kernel⟩
theorem ft_Stg_1 : gFt 8 1 true (.object "ParagraphSetter$Breaks") := ⟨R_Stg, F_Stg, 9, t_Stg, rfl, t_Stg_ok, n_Stg, rfl, by decide +kernel⟩
theorem ft_Stg_2 : gFt 8 2 true (.object "ParagraphSetter$Sums") := ⟨R_Stg, F_Stg, 9, t_Stg, rfl, t_Stg_ok, n_Stg, rfl, by decide +kernel⟩
theorem ft_Stg_3 : gFt 8 3 true (.array .int) := ⟨R_Stg, F_Stg, 9, t_Stg, rfl, t_Stg_ok, n_Stg, rfl, by decide +kernel⟩
theorem ft_Stg_4 : gFt 8 4 false (.int) := ⟨R_Stg, F_Stg, 9, t_Stg, rfl, t_Stg_ok, n_Stg, rfl, by decide +kernel⟩
theorem ft_Stg_5 : gFt 8 5 false (.int) := ⟨R_Stg, F_Stg, 9, t_Stg, rfl, t_Stg_ok, n_Stg, rfl, by decide +kernel⟩
theorem ft_Stg_6 : gFt 8 6 true (.array .int) := ⟨R_Stg, F_Stg, 9, t_Stg, rfl, t_Stg_ok, n_Stg, rfl, by decide +kernel⟩
theorem ft_Stg_7 : gFt 8 7 false (.int) := ⟨R_Stg, F_Stg, 9, t_Stg, rfl, t_Stg_ok, n_Stg, rfl, by decide +kernel⟩
theorem ft_Stg_8 : gFt 8 8 false (.long) := ⟨R_Stg, F_Stg, 9, t_Stg, rfl, t_Stg_ok, n_Stg, rfl, by decide +kernel⟩
theorem ins_Stg : Cond.instantiable R_Stg 9 ∈ gTB := gTB_t (gIn1 (List.mem_of_getElem? (i := 151) (by decide +kernel))) (by decide +kernel)
theorem ini_Stg : Cond.initialized R_Stg ∈ gTB := gTB_t (gIn1 (List.mem_of_getElem? (i := 8) (by decide +kernel))) (by decide +kernel)
theorem ft_Cho_0 : gFt 9 0 true (.array .long) := ⟨R_Cho, F_Cho, 3, t_Cho, rfl, t_Cho_ok, n_Cho, rfl, by decide +kernel⟩
theorem ft_Cho_1 : gFt 9 1 true (.array .int) := ⟨R_Cho, F_Cho, 3, t_Cho, rfl, t_Cho_ok, n_Cho, rfl, by decide +kernel⟩
theorem ft_Cho_2 : gFt 9 2 true (.array .int) := ⟨R_Cho, F_Cho, 3, t_Cho, rfl, t_Cho_ok, n_Cho, rfl, by decide +kernel⟩
theorem ins_Cho : Cond.instantiable R_Cho 3 ∈ gTB := gTB_t (gIn1 (List.mem_of_getElem? (i := 134) (by decide +kernel))) (by decide +kernel)
theorem ini_Cho : Cond.initialized R_Cho ∈ gTB := gTB_t (gIn1 (List.mem_of_getElem? (i := 7) (by decide +kernel))) (by decide +kernel)
theorem ft_PS_0 : gFt 10 0 true (.object "ParagraphSetter$Row") := ⟨R_PS, F_PS, 8, t_PS, rfl, t_PS_ok, n_PS, rfl, by decide +kernel⟩
theorem ft_PS_1 : gFt 10 1 true (.array .int) := ⟨R_PS, F_PS, 8, t_PS, rfl, t_PS_ok, n_PS, rfl, by decide +kernel⟩
theorem ft_PS_2 : gFt 10 2 true (.array .int) := ⟨R_PS, F_PS, 8, t_PS, rfl, t_PS_ok, n_PS, rfl, by decide +kernel⟩
theorem ft_PS_3 : gFt 10 3 true (.object "ParagraphSetter$Expander") := ⟨R_PS, F_PS, 8, t_PS, rfl, t_PS_ok, n_PS, rfl, by decide +kernel⟩
theorem ft_PS_4 : gFt 10 4 true (.object "ParagraphSetter$Hyphenator") := ⟨R_PS, F_PS, 8, t_PS, rfl, t_PS_ok, n_PS, rfl, by decide +kernel⟩
theorem ft_PS_5 : gFt 10 5 true (.object "ParagraphSetter$Chooser") := ⟨R_PS, F_PS, 8, t_PS, rfl, t_PS_ok, n_PS, rfl, by decide +kernel⟩
theorem ft_PS_6 : gFt 10 6 false (.object "ParagraphSetter$Setting") := ⟨R_PS, F_PS, 8, t_PS, rfl, t_PS_ok, n_PS, rfl, by decide +kernel⟩
theorem ft_PS_7 : gFt 10 7 false (.object "ParagraphSetter$Setting") := ⟨R_PS, F_PS, 8, t_PS, rfl, t_PS_ok, n_PS, rfl, by decide +kernel⟩
theorem ins_PS : Cond.instantiable R_PS 8 ∈ gTB := gTB_t (gIn1 (List.mem_of_getElem? (i := 15) (by decide +kernel))) (by decide +kernel)
theorem ini_PS : Cond.initialized R_PS ∈ gTB := gTB_t (gIn1 (List.mem_of_getElem? (i := 1) (by decide +kernel))) (by decide +kernel)
theorem ft_Mod_0 : gFt 11 0 true (.array .int) := ⟨R_Mod, F_Mod, 52, t_Mod, rfl, t_Mod_ok, n_Mod, rfl, by decide +kernel⟩
theorem ft_Mod_1 : gFt 11 1 false (.int) := ⟨R_Mod, F_Mod, 52, t_Mod, rfl, t_Mod_ok, n_Mod, rfl, by decide +kernel⟩
theorem ft_Mod_2 : gFt 11 2 true (.array .int) := ⟨R_Mod, F_Mod, 52, t_Mod, rfl, t_Mod_ok, n_Mod, rfl, by decide +kernel⟩
theorem ft_Mod_3 : gFt 11 3 true (.array .int) := ⟨R_Mod, F_Mod, 52, t_Mod, rfl, t_Mod_ok, n_Mod, rfl, by decide +kernel⟩
theorem ft_Mod_4 : gFt 11 4 true (.array .int) := ⟨R_Mod, F_Mod, 52, t_Mod, rfl, t_Mod_ok, n_Mod, rfl, by decide +kernel⟩
theorem ft_Mod_5 : gFt 11 5 true (.array .int) := ⟨R_Mod, F_Mod, 52, t_Mod, rfl, t_Mod_ok, n_Mod, rfl, by decide +kernel⟩
theorem ft_Mod_6 : gFt 11 6 true (.array .int) := ⟨R_Mod, F_Mod, 52, t_Mod, rfl, t_Mod_ok, n_Mod, rfl, by decide +kernel⟩
theorem ft_Mod_7 : gFt 11 7 true (.array .int) := ⟨R_Mod, F_Mod, 52, t_Mod, rfl, t_Mod_ok, n_Mod, rfl, by decide +kernel⟩
theorem ft_Mod_8 : gFt 11 8 true (.array .int) := ⟨R_Mod, F_Mod, 52, t_Mod, rfl, t_Mod_ok, n_Mod, rfl, by decide +kernel⟩
theorem ft_Mod_9 : gFt 11 9 false (.int) := ⟨R_Mod, F_Mod, 52, t_Mod, rfl, t_Mod_ok, n_Mod, rfl, by decide +kernel⟩
theorem ft_Mod_10 : gFt 11 10 true (.array .int) := ⟨R_Mod, F_Mod, 52, t_Mod, rfl, t_Mod_ok, n_Mod, rfl, by decide +kernel⟩
theorem ft_Mod_11 : gFt 11 11 true (.array .int) := ⟨R_Mod, F_Mod, 52, t_Mod, rfl, t_Mod_ok, n_Mod, rfl, by decide +kernel⟩
theorem ft_Mod_12 : gFt 11 12 true (.array .int) := ⟨R_Mod, F_Mod, 52, t_Mod, rfl, t_Mod_ok, n_Mod, rfl, by decide +kernel⟩
theorem ft_Mod_13 : gFt 11 13 true (.array .int) := ⟨R_Mod, F_Mod, 52, t_Mod, rfl, t_Mod_ok, n_Mod, rfl, by decide +kernel⟩
theorem ft_Mod_14 : gFt 11 14 false (.int) := ⟨R_Mod, F_Mod, 52, t_Mod, rfl, t_Mod_ok, n_Mod, rfl, by decide +kernel⟩
theorem ft_Mod_15 : gFt 11 15 false (.int) := ⟨R_Mod, F_Mod, 52, t_Mod, rfl, t_Mod_ok, n_Mod, rfl, by decide +kernel⟩
theorem ft_Mod_16 : gFt 11 16 false (.int) := ⟨R_Mod, F_Mod, 52, t_Mod, rfl, t_Mod_ok, n_Mod, rfl, by decide +kernel⟩
theorem ft_Mod_17 : gFt 11 17 true (.array .int) := ⟨R_Mod, F_Mod, 52, t_Mod, rfl, t_Mod_ok, n_Mod, rfl, by decide +kernel⟩
theorem ft_Mod_18 : gFt 11 18 true (.array .int) := ⟨R_Mod, F_Mod, 52, t_Mod, rfl, t_Mod_ok, n_Mod, rfl, by decide +kernel⟩
theorem ft_Mod_19 : gFt 11 19 true (.array .int) := ⟨R_Mod, F_Mod, 52, t_Mod, rfl, t_Mod_ok, n_Mod, rfl, by decide +kernel⟩
theorem ft_Mod_20 : gFt 11 20 true (.array .int) := ⟨R_Mod, F_Mod, 52, t_Mod, rfl, t_Mod_ok, n_Mod, rfl, by decide +kernel⟩
theorem ft_Mod_21 : gFt 11 21 true (.array .int) := ⟨R_Mod, F_Mod, 52, t_Mod, rfl, t_Mod_ok, n_Mod, rfl, by decide +kernel⟩
theorem ft_Mod_22 : gFt 11 22 false (.int) := ⟨R_Mod, F_Mod, 52, t_Mod, rfl, t_Mod_ok, n_Mod, rfl, by decide +kernel⟩
theorem ft_Mod_23 : gFt 11 23 false (.int) := ⟨R_Mod, F_Mod, 52, t_Mod, rfl, t_Mod_ok, n_Mod, rfl, by decide +kernel⟩
theorem ft_Mod_24 : gFt 11 24 true (.array .boolean) := ⟨R_Mod, F_Mod, 52, t_Mod, rfl, t_Mod_ok, n_Mod, rfl, by decide +kernel⟩
theorem ft_Mod_25 : gFt 11 25 true (.array .int) := ⟨R_Mod, F_Mod, 52, t_Mod, rfl, t_Mod_ok, n_Mod, rfl, by decide +kernel⟩
theorem ft_Mod_26 : gFt 11 26 true (.array .int) := ⟨R_Mod, F_Mod, 52, t_Mod, rfl, t_Mod_ok, n_Mod, rfl, by decide +kernel⟩
theorem ft_Mod_27 : gFt 11 27 true (.array .int) := ⟨R_Mod, F_Mod, 52, t_Mod, rfl, t_Mod_ok, n_Mod, rfl, by decide +kernel⟩
theorem ft_Mod_28 : gFt 11 28 false (.int) := ⟨R_Mod, F_Mod, 52, t_Mod, rfl, t_Mod_ok, n_Mod, rfl, by decide +kernel⟩
theorem ft_Mod_29 : gFt 11 29 false (.int) := ⟨R_Mod, F_Mod, 52, t_Mod, rfl, t_Mod_ok, n_Mod, rfl, by decide +kernel⟩
theorem ft_Mod_30 : gFt 11 30 true (.array .long) := ⟨R_Mod, F_Mod, 52, t_Mod, rfl, t_Mod_ok, n_Mod, rfl, by decide +kernel⟩
theorem ft_Mod_31 : gFt 11 31 true (.array .int) := ⟨R_Mod, F_Mod, 52, t_Mod, rfl, t_Mod_ok, n_Mod, rfl, by decide +kernel⟩
theorem ft_Mod_32 : gFt 11 32 true (.array .int) := ⟨R_Mod, F_Mod, 52, t_Mod, rfl, t_Mod_ok, n_Mod, rfl, by decide +kernel⟩
theorem ft_Mod_33 : gFt 11 33 false (.int) := ⟨R_Mod, F_Mod, 52, t_Mod, rfl, t_Mod_ok, n_Mod, rfl, by decide +kernel⟩
theorem ft_Mod_34 : gFt 11 34 false (.int) := ⟨R_Mod, F_Mod, 52, t_Mod, rfl, t_Mod_ok, n_Mod, rfl, by decide +kernel⟩
theorem ft_Mod_35 : gFt 11 35 false (.int) := ⟨R_Mod, F_Mod, 52, t_Mod, rfl, t_Mod_ok, n_Mod, rfl, by decide +kernel⟩
theorem ft_Mod_36 : gFt 11 36 false (.int) := ⟨R_Mod, F_Mod, 52, t_Mod, rfl, t_Mod_ok, n_Mod, rfl, by decide +kernel⟩
theorem ft_Mod_37 : gFt 11 37 false (.int) := ⟨R_Mod, F_Mod, 52, t_Mod, rfl, t_Mod_ok, n_Mod, rfl, by decide +kernel⟩
theorem ft_Mod_38 : gFt 11 38 true (.array .int) := ⟨R_Mod, F_Mod, 52, t_Mod, rfl, t_Mod_ok, n_Mod, rfl, by decide +kernel⟩
theorem ft_Mod_39 : gFt 11 39 true (.array .int) := ⟨R_Mod, F_Mod, 52, t_Mod, rfl, t_Mod_ok, n_Mod, rfl, by decide +kernel⟩
theorem ft_Mod_40 : gFt 11 40 true (.array .int) := ⟨R_Mod, F_Mod, 52, t_Mod, rfl, t_Mod_ok, n_Mod, rfl, by decide +kernel⟩
theorem ft_Mod_41 : gFt 11 41 true (.array .int) := ⟨R_Mod, F_Mod, 52, t_Mod, rfl, t_Mod_ok, n_Mod, rfl, by decide +kernel⟩
theorem ft_Mod_42 : gFt 11 42 true (.array .int) := ⟨R_Mod, F_Mod, 52, t_Mod, rfl, t_Mod_ok, n_Mod, rfl, by decide +kernel⟩
theorem ft_Mod_43 : gFt 11 43 true (.array .int) := ⟨R_Mod, F_Mod, 52, t_Mod, rfl, t_Mod_ok, n_Mod, rfl, by decide +kernel⟩
theorem ft_Mod_44 : gFt 11 44 true (.array .int) := ⟨R_Mod, F_Mod, 52, t_Mod, rfl, t_Mod_ok, n_Mod, rfl, by decide +kernel⟩
theorem ft_Mod_45 : gFt 11 45 true (.array .int) := ⟨R_Mod, F_Mod, 52, t_Mod, rfl, t_Mod_ok, n_Mod, rfl, by decide +kernel⟩
theorem ft_Mod_46 : gFt 11 46 true (.array .int) := ⟨R_Mod, F_Mod, 52, t_Mod, rfl, t_Mod_ok, n_Mod, rfl, by decide +kernel⟩
theorem ft_Mod_47 : gFt 11 47 false (.int) := ⟨R_Mod, F_Mod, 52, t_Mod, rfl, t_Mod_ok, n_Mod, rfl, by decide +kernel⟩
theorem ft_Mod_48 : gFt 11 48 false (.int) := ⟨R_Mod, F_Mod, 52, t_Mod, rfl, t_Mod_ok, n_Mod, rfl, by decide +kernel⟩
theorem ft_Mod_49 : gFt 11 49 false (.int) := ⟨R_Mod, F_Mod, 52, t_Mod, rfl, t_Mod_ok, n_Mod, rfl, by decide +kernel⟩
theorem ft_Mod_50 : gFt 11 50 false (.int) := ⟨R_Mod, F_Mod, 52, t_Mod, rfl, t_Mod_ok, n_Mod, rfl, by decide +kernel⟩
theorem ft_Mod_51 : gFt 11 51 false (.long) := ⟨R_Mod, F_Mod, 52, t_Mod, rfl, t_Mod_ok, n_Mod, rfl, by decide +kernel⟩
theorem ins_Mod : Cond.instantiable R_Mod 52 ∈ gTB := gTB_t (gIn3 (List.mem_of_getElem? (i := 170) (by decide +kernel))) (by decide +kernel)
theorem ini_Mod : Cond.initialized R_Mod ∈ gTB := gTB_t (gIn1 (List.mem_of_getElem? (i := 12) (by decide +kernel))) (by decide +kernel)
theorem ac_int : Cond.arrayClass .int ∈ gTB := gTB_t (gIn1 (List.mem_of_getElem? (i := 40) (by decide +kernel))) (by decide +kernel)
theorem ao_Mac : Cond.arrayOver (.object "ParagraphSetter$Macro") ∈ gNW := gNW_in (gIn1 (List.mem_of_getElem? (i := 50) (by decide +kernel))) rfl
theorem ao_Pat : Cond.arrayOver (.object "ParagraphSetter$Pattern") ∈ gNW := gNW_in (gIn1 (List.mem_of_getElem? (i := 103) (by decide +kernel))) rfl
theorem ac_long : Cond.arrayClass .long ∈ gTB := gTB_t (gIn1 (List.mem_of_getElem? (i := 149) (by decide +kernel))) (by decide +kernel)
theorem ac_boolean : Cond.arrayClass .boolean ∈ gTB := gTB_t (gIn4 (List.mem_of_getElem? (i := 92) (by decide +kernel))) (by decide +kernel)
theorem ob_im : Cond.instanceMethod Lib.objectInit ∈ gTB := gTB_t (gIn1 (List.mem_of_getElem? (i := 20) (by decide +kernel))) (by decide +kernel)
theorem ob_co : Cond.code Lib.objectInit ⟨#[0xb1]⟩ 1 none ∈ gTB := gTB_t (gIn1 (List.mem_of_getElem? (i := 21) (by decide +kernel))) (by decide +kernel)
