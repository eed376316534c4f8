section
-- ===== PART A: goes FIRST, ahead of the names: the tables' words, and 'selects' of the private methods out of them =====
/-- a private method of a class that the tables say can be made, by its rows of tables_1 -/
def lw_okq (q : MethodName × Nat) : Prop := (q.1.cls ≠ "java/lang/invoke/MethodHandle" ∧ q.1.cls ≠ "java/lang/invoke/VarHandle") ∧ Cond.instantiable q.1.cls q.2 ∈ tables_1 ∧ Cond.privateMethod q.1 ∈ tables_1 ∧ Cond.instanceMethod q.1 ∈ tables_1
theorem lw_p0 : lw_okq (⟨"ParagraphSetter$Pattern", "addSign", "(I)Z"⟩, 3) := ⟨⟨by decide +kernel, by decide +kernel⟩, List.mem_of_getElem? (i := 104) (by decide +kernel), List.mem_of_getElem? (i := 388) (by decide +kernel), List.mem_of_getElem? (i := 389) (by decide +kernel)⟩
theorem lw_p1 : lw_okq (⟨"ParagraphSetter$Pattern", "hasPointsAtEdgesOnly", "()Z"⟩, 3) := ⟨⟨by decide +kernel, by decide +kernel⟩, List.mem_of_getElem? (i := 104) (by decide +kernel), List.mem_of_getElem? (i := 393) (by decide +kernel), List.mem_of_getElem? (i := 394) (by decide +kernel)⟩
theorem lw_p2 : lw_okq (⟨"ParagraphSetter$Expander", "begin", "(LParagraphSetter$Row;)V"⟩, 8) := ⟨⟨by decide +kernel, by decide +kernel⟩, List.mem_of_getElem? (i := 44) (by decide +kernel), List.mem_of_getElem? (i := 405) (by decide +kernel), List.mem_of_getElem? (i := 406) (by decide +kernel)⟩
theorem lw_p3 : lw_okq (⟨"ParagraphSetter$Expander", "isListEmpty", "()Z"⟩, 8) := ⟨⟨by decide +kernel, by decide +kernel⟩, List.mem_of_getElem? (i := 44) (by decide +kernel), List.mem_of_getElem? (i := 409) (by decide +kernel), List.mem_of_getElem? (i := 410) (by decide +kernel)⟩
theorem lw_p4 : lw_okq (⟨"ParagraphSetter$Expander", "takeOff", "()I"⟩, 8) := ⟨⟨by decide +kernel, by decide +kernel⟩, List.mem_of_getElem? (i := 44) (by decide +kernel), List.mem_of_getElem? (i := 413) (by decide +kernel), List.mem_of_getElem? (i := 414) (by decide +kernel)⟩
theorem lw_p5 : lw_okq (⟨"ParagraphSetter$Expander", "obey", "(ILParagraphSetter$Text;)I"⟩, 8) := ⟨⟨by decide +kernel, by decide +kernel⟩, List.mem_of_getElem? (i := 44) (by decide +kernel), List.mem_of_getElem? (i := 417) (by decide +kernel), List.mem_of_getElem? (i := 418) (by decide +kernel)⟩
theorem lw_p6 : lw_okq (⟨"ParagraphSetter$Expander", "callMacro", "(LParagraphSetter$Macro;)I"⟩, 8) := ⟨⟨by decide +kernel, by decide +kernel⟩, List.mem_of_getElem? (i := 44) (by decide +kernel), List.mem_of_getElem? (i := 422) (by decide +kernel), List.mem_of_getElem? (i := 423) (by decide +kernel)⟩
theorem lw_p7 : lw_okq (⟨"ParagraphSetter$Expander", "takeArgument", "()Z"⟩, 8) := ⟨⟨by decide +kernel, by decide +kernel⟩, List.mem_of_getElem? (i := 44) (by decide +kernel), List.mem_of_getElem? (i := 430) (by decide +kernel), List.mem_of_getElem? (i := 431) (by decide +kernel)⟩
theorem lw_p8 : lw_okq (⟨"ParagraphSetter$Expander", "takeGroup", "()Z"⟩, 8) := ⟨⟨by decide +kernel, by decide +kernel⟩, List.mem_of_getElem? (i := 44) (by decide +kernel), List.mem_of_getElem? (i := 435) (by decide +kernel), List.mem_of_getElem? (i := 436) (by decide +kernel)⟩
theorem lw_p9 : lw_okq (⟨"ParagraphSetter$Expander", "putInFront", "(LParagraphSetter$Row;)V"⟩, 8) := ⟨⟨by decide +kernel, by decide +kernel⟩, List.mem_of_getElem? (i := 44) (by decide +kernel), List.mem_of_getElem? (i := 440) (by decide +kernel), List.mem_of_getElem? (i := 441) (by decide +kernel)⟩
theorem lw_p10 : lw_okq (⟨"ParagraphSetter$Expander", "openGroup", "()I"⟩, 8) := ⟨⟨by decide +kernel, by decide +kernel⟩, List.mem_of_getElem? (i := 44) (by decide +kernel), List.mem_of_getElem? (i := 444) (by decide +kernel), List.mem_of_getElem? (i := 445) (by decide +kernel)⟩
theorem lw_p11 : lw_okq (⟨"ParagraphSetter$Expander", "closeGroup", "()I"⟩, 8) := ⟨⟨by decide +kernel, by decide +kernel⟩, List.mem_of_getElem? (i := 44) (by decide +kernel), List.mem_of_getElem? (i := 448) (by decide +kernel), List.mem_of_getElem? (i := 449) (by decide +kernel)⟩
theorem lw_p12 : lw_okq (⟨"ParagraphSetter$Expander", "changeSpace", "()I"⟩, 8) := ⟨⟨by decide +kernel, by decide +kernel⟩, List.mem_of_getElem? (i := 44) (by decide +kernel), List.mem_of_getElem? (i := 452) (by decide +kernel), List.mem_of_getElem? (i := 453) (by decide +kernel)⟩
theorem lw_p13 : lw_okq (⟨"ParagraphSetter$Text", "dropBlanksBehind", "()V"⟩, 3) := ⟨⟨by decide +kernel, by decide +kernel⟩, List.mem_of_getElem? (i := 157) (by decide +kernel), List.mem_of_getElem? (i := 467) (by decide +kernel), List.mem_of_getElem? (i := 468) (by decide +kernel)⟩
theorem lw_p14 : lw_okq (⟨"ParagraphSetter$Text", "move", "(II)V"⟩, 3) := ⟨⟨by decide +kernel, by decide +kernel⟩, List.mem_of_getElem? (i := 157) (by decide +kernel), List.mem_of_getElem? (i := 471) (by decide +kernel), List.mem_of_getElem? (i := 472) (by decide +kernel)⟩
theorem lw_p15 : lw_okq (⟨"ParagraphSetter$Text", "dropBlanksBefore", "()V"⟩, 3) := ⟨⟨by decide +kernel, by decide +kernel⟩, List.mem_of_getElem? (i := 157) (by decide +kernel), List.mem_of_getElem? (i := 475) (by decide +kernel), List.mem_of_getElem? (i := 476) (by decide +kernel)⟩
def lw_privs_1 : List (MethodName × Nat) := [(⟨"ParagraphSetter$Pattern", "addSign", "(I)Z"⟩, 3), (⟨"ParagraphSetter$Pattern", "hasPointsAtEdgesOnly", "()Z"⟩, 3), (⟨"ParagraphSetter$Expander", "begin", "(LParagraphSetter$Row;)V"⟩, 8), (⟨"ParagraphSetter$Expander", "isListEmpty", "()Z"⟩, 8), (⟨"ParagraphSetter$Expander", "takeOff", "()I"⟩, 8), (⟨"ParagraphSetter$Expander", "obey", "(ILParagraphSetter$Text;)I"⟩, 8), (⟨"ParagraphSetter$Expander", "callMacro", "(LParagraphSetter$Macro;)I"⟩, 8), (⟨"ParagraphSetter$Expander", "takeArgument", "()Z"⟩, 8), (⟨"ParagraphSetter$Expander", "takeGroup", "()Z"⟩, 8), (⟨"ParagraphSetter$Expander", "putInFront", "(LParagraphSetter$Row;)V"⟩, 8), (⟨"ParagraphSetter$Expander", "openGroup", "()I"⟩, 8), (⟨"ParagraphSetter$Expander", "closeGroup", "()I"⟩, 8), (⟨"ParagraphSetter$Expander", "changeSpace", "()I"⟩, 8), (⟨"ParagraphSetter$Text", "dropBlanksBehind", "()V"⟩, 3), (⟨"ParagraphSetter$Text", "move", "(II)V"⟩, 3), (⟨"ParagraphSetter$Text", "dropBlanksBefore", "()V"⟩, 3)]
theorem lw_r1 : ∀ q ∈ lw_privs_1, lw_okq q := List.forall_mem_cons.mpr ⟨lw_p0, List.forall_mem_cons.mpr ⟨lw_p1, List.forall_mem_cons.mpr ⟨lw_p2, List.forall_mem_cons.mpr ⟨lw_p3, List.forall_mem_cons.mpr ⟨lw_p4, List.forall_mem_cons.mpr ⟨lw_p5, List.forall_mem_cons.mpr ⟨lw_p6, List.forall_mem_cons.mpr ⟨lw_p7, List.forall_mem_cons.mpr ⟨lw_p8, List.forall_mem_cons.mpr ⟨lw_p9, List.forall_mem_cons.mpr ⟨lw_p10, List.forall_mem_cons.mpr ⟨lw_p11, List.forall_mem_cons.mpr ⟨lw_p12, List.forall_mem_cons.mpr ⟨lw_p13, List.forall_mem_cons.mpr ⟨lw_p14, List.forall_mem_cons.mpr ⟨lw_p15, fun _ h => absurd h List.not_mem_nil⟩⟩⟩⟩⟩⟩⟩⟩⟩⟩⟩⟩⟩⟩⟩⟩
theorem lw_p16 : lw_okq (⟨"ParagraphSetter$Text", "dropBarsBehind", "()V"⟩, 3) := ⟨⟨by decide +kernel, by decide +kernel⟩, List.mem_of_getElem? (i := 157) (by decide +kernel), List.mem_of_getElem? (i := 479) (by decide +kernel), List.mem_of_getElem? (i := 480) (by decide +kernel)⟩
theorem lw_p17 : lw_okq (⟨"ParagraphSetter$Hyphenator", "weighWord", "(LParagraphSetter$Text;II)V"⟩, 3) := ⟨⟨by decide +kernel, by decide +kernel⟩, List.mem_of_getElem? (i := 97) (by decide +kernel), List.mem_of_getElem? (i := 492) (by decide +kernel), List.mem_of_getElem? (i := 493) (by decide +kernel)⟩
theorem lw_p18 : lw_okq (⟨"ParagraphSetter$Hyphenator", "raise", "(LParagraphSetter$Pattern;III)V"⟩, 3) := ⟨⟨by decide +kernel, by decide +kernel⟩, List.mem_of_getElem? (i := 97) (by decide +kernel), List.mem_of_getElem? (i := 499) (by decide +kernel), List.mem_of_getElem? (i := 500) (by decide +kernel)⟩
theorem lw_p19 : lw_okq (⟨"ParagraphSetter$Breaks", "add", "(III)Z"⟩, 4) := ⟨⟨by decide +kernel, by decide +kernel⟩, List.mem_of_getElem? (i := 183) (by decide +kernel), List.mem_of_getElem? (i := 514) (by decide +kernel), List.mem_of_getElem? (i := 515) (by decide +kernel)⟩
theorem lw_p20 : lw_okq (⟨"ParagraphSetter$Breaks", "addAt", "(LParagraphSetter$Text;I)Z"⟩, 4) := ⟨⟨by decide +kernel, by decide +kernel⟩, List.mem_of_getElem? (i := 183) (by decide +kernel), List.mem_of_getElem? (i := 518) (by decide +kernel), List.mem_of_getElem? (i := 519) (by decide +kernel)⟩
theorem lw_p21 : lw_okq (⟨"ParagraphSetter$Chooser", "findNext", "(LParagraphSetter$Setting;I)V"⟩, 3) := ⟨⟨by decide +kernel, by decide +kernel⟩, List.mem_of_getElem? (i := 134) (by decide +kernel), List.mem_of_getElem? (i := 542) (by decide +kernel), List.mem_of_getElem? (i := 543) (by decide +kernel)⟩
theorem lw_p22 : lw_okq (⟨"ParagraphSetter$Setting", "over", "([III)I"⟩, 9) := ⟨⟨by decide +kernel, by decide +kernel⟩, List.mem_of_getElem? (i := 151) (by decide +kernel), List.mem_of_getElem? (i := 554) (by decide +kernel), List.mem_of_getElem? (i := 555) (by decide +kernel)⟩
theorem lw_p23 : lw_okq (⟨"ParagraphSetter$Setting", "isLoose", "(II)Z"⟩, 9) := ⟨⟨by decide +kernel, by decide +kernel⟩, List.mem_of_getElem? (i := 151) (by decide +kernel), List.mem_of_getElem? (i := 567) (by decide +kernel), List.mem_of_getElem? (i := 568) (by decide +kernel)⟩
theorem lw_p24 : lw_okq (⟨"ParagraphSetter$Chooser", "keepBetter", "(IIJ)V"⟩, 3) := ⟨⟨by decide +kernel, by decide +kernel⟩, List.mem_of_getElem? (i := 134) (by decide +kernel), List.mem_of_getElem? (i := 586) (by decide +kernel), List.mem_of_getElem? (i := 587) (by decide +kernel)⟩
theorem lw_p25 : lw_okq (⟨"ParagraphSetter$Chooser", "follow", "(LParagraphSetter$Setting;)V"⟩, 3) := ⟨⟨by decide +kernel, by decide +kernel⟩, List.mem_of_getElem? (i := 134) (by decide +kernel), List.mem_of_getElem? (i := 590) (by decide +kernel), List.mem_of_getElem? (i := 591) (by decide +kernel)⟩
theorem lw_p26 : lw_okq (⟨"ParagraphSetter", "showDraft", "()V"⟩, 8) := ⟨⟨by decide +kernel, by decide +kernel⟩, List.mem_of_getElem? (i := 15) (by decide +kernel), List.mem_of_getElem? (i := 594) (by decide +kernel), List.mem_of_getElem? (i := 595) (by decide +kernel)⟩
theorem lw_p27 : lw_okq (⟨"ParagraphSetter$Setting", "items", "(I)I"⟩, 9) := ⟨⟨by decide +kernel, by decide +kernel⟩, List.mem_of_getElem? (i := 151) (by decide +kernel), List.mem_of_getElem? (i := 626) (by decide +kernel), List.mem_of_getElem? (i := 627) (by decide +kernel)⟩
theorem lw_p28 : lw_okq (⟨"ParagraphSetterModel", "expand", "()I"⟩, 52) := ⟨⟨by decide +kernel, by decide +kernel⟩, List.mem_of_getElem? (i := 650) (by decide +kernel), List.mem_of_getElem? (i := 848) (by decide +kernel), List.mem_of_getElem? (i := 849) (by decide +kernel)⟩
theorem lw_p29 : lw_okq (⟨"ParagraphSetterModel", "take", "()I"⟩, 52) := ⟨⟨by decide +kernel, by decide +kernel⟩, List.mem_of_getElem? (i := 650) (by decide +kernel), List.mem_of_getElem? (i := 852) (by decide +kernel), List.mem_of_getElem? (i := 853) (by decide +kernel)⟩
theorem lw_p30 : lw_okq (⟨"ParagraphSetterModel", "call", "(I)I"⟩, 52) := ⟨⟨by decide +kernel, by decide +kernel⟩, List.mem_of_getElem? (i := 650) (by decide +kernel), List.mem_of_getElem? (i := 856) (by decide +kernel), List.mem_of_getElem? (i := 857) (by decide +kernel)⟩
theorem lw_p31 : lw_okq (⟨"ParagraphSetterModel", "takeArgument", "()Z"⟩, 52) := ⟨⟨by decide +kernel, by decide +kernel⟩, List.mem_of_getElem? (i := 650) (by decide +kernel), List.mem_of_getElem? (i := 860) (by decide +kernel), List.mem_of_getElem? (i := 861) (by decide +kernel)⟩
def lw_privs_2 : List (MethodName × Nat) := [(⟨"ParagraphSetter$Text", "dropBarsBehind", "()V"⟩, 3), (⟨"ParagraphSetter$Hyphenator", "weighWord", "(LParagraphSetter$Text;II)V"⟩, 3), (⟨"ParagraphSetter$Hyphenator", "raise", "(LParagraphSetter$Pattern;III)V"⟩, 3), (⟨"ParagraphSetter$Breaks", "add", "(III)Z"⟩, 4), (⟨"ParagraphSetter$Breaks", "addAt", "(LParagraphSetter$Text;I)Z"⟩, 4), (⟨"ParagraphSetter$Chooser", "findNext", "(LParagraphSetter$Setting;I)V"⟩, 3), (⟨"ParagraphSetter$Setting", "over", "([III)I"⟩, 9), (⟨"ParagraphSetter$Setting", "isLoose", "(II)Z"⟩, 9), (⟨"ParagraphSetter$Chooser", "keepBetter", "(IIJ)V"⟩, 3), (⟨"ParagraphSetter$Chooser", "follow", "(LParagraphSetter$Setting;)V"⟩, 3), (⟨"ParagraphSetter", "showDraft", "()V"⟩, 8), (⟨"ParagraphSetter$Setting", "items", "(I)I"⟩, 9), (⟨"ParagraphSetterModel", "expand", "()I"⟩, 52), (⟨"ParagraphSetterModel", "take", "()I"⟩, 52), (⟨"ParagraphSetterModel", "call", "(I)I"⟩, 52), (⟨"ParagraphSetterModel", "takeArgument", "()Z"⟩, 52)]
theorem lw_r2 : ∀ q ∈ lw_privs_2, lw_okq q := List.forall_mem_cons.mpr ⟨lw_p16, List.forall_mem_cons.mpr ⟨lw_p17, List.forall_mem_cons.mpr ⟨lw_p18, List.forall_mem_cons.mpr ⟨lw_p19, List.forall_mem_cons.mpr ⟨lw_p20, List.forall_mem_cons.mpr ⟨lw_p21, List.forall_mem_cons.mpr ⟨lw_p22, List.forall_mem_cons.mpr ⟨lw_p23, List.forall_mem_cons.mpr ⟨lw_p24, List.forall_mem_cons.mpr ⟨lw_p25, List.forall_mem_cons.mpr ⟨lw_p26, List.forall_mem_cons.mpr ⟨lw_p27, List.forall_mem_cons.mpr ⟨lw_p28, List.forall_mem_cons.mpr ⟨lw_p29, List.forall_mem_cons.mpr ⟨lw_p30, List.forall_mem_cons.mpr ⟨lw_p31, fun _ h => absurd h List.not_mem_nil⟩⟩⟩⟩⟩⟩⟩⟩⟩⟩⟩⟩⟩⟩⟩⟩
theorem lw_p32 : lw_okq (⟨"ParagraphSetterModel", "clean", "()V"⟩, 52) := ⟨⟨by decide +kernel, by decide +kernel⟩, List.mem_of_getElem? (i := 650) (by decide +kernel), List.mem_of_getElem? (i := 864) (by decide +kernel), List.mem_of_getElem? (i := 865) (by decide +kernel)⟩
theorem lw_p33 : lw_okq (⟨"ParagraphSetterModel", "drop", "(I)V"⟩, 52) := ⟨⟨by decide +kernel, by decide +kernel⟩, List.mem_of_getElem? (i := 650) (by decide +kernel), List.mem_of_getElem? (i := 868) (by decide +kernel), List.mem_of_getElem? (i := 869) (by decide +kernel)⟩
theorem lw_p34 : lw_okq (⟨"ParagraphSetterModel", "hyphenate", "()V"⟩, 52) := ⟨⟨by decide +kernel, by decide +kernel⟩, List.mem_of_getElem? (i := 650) (by decide +kernel), List.mem_of_getElem? (i := 872) (by decide +kernel), List.mem_of_getElem? (i := 873) (by decide +kernel)⟩
theorem lw_p35 : lw_okq (⟨"ParagraphSetterModel", "greatest", "(III)I"⟩, 52) := ⟨⟨by decide +kernel, by decide +kernel⟩, List.mem_of_getElem? (i := 650) (by decide +kernel), List.mem_of_getElem? (i := 876) (by decide +kernel), List.mem_of_getElem? (i := 877) (by decide +kernel)⟩
theorem lw_p36 : lw_okq (⟨"ParagraphSetterModel", "signOf", "(III)I"⟩, 52) := ⟨⟨by decide +kernel, by decide +kernel⟩, List.mem_of_getElem? (i := 650) (by decide +kernel), List.mem_of_getElem? (i := 880) (by decide +kernel), List.mem_of_getElem? (i := 881) (by decide +kernel)⟩
theorem lw_p37 : lw_okq (⟨"ParagraphSetterModel", "findBreaks", "()Z"⟩, 52) := ⟨⟨by decide +kernel, by decide +kernel⟩, List.mem_of_getElem? (i := 650) (by decide +kernel), List.mem_of_getElem? (i := 884) (by decide +kernel), List.mem_of_getElem? (i := 885) (by decide +kernel)⟩
theorem lw_p38 : lw_okq (⟨"ParagraphSetterModel", "addBreak", "(III)Z"⟩, 52) := ⟨⟨by decide +kernel, by decide +kernel⟩, List.mem_of_getElem? (i := 650) (by decide +kernel), List.mem_of_getElem? (i := 888) (by decide +kernel), List.mem_of_getElem? (i := 889) (by decide +kernel)⟩
theorem lw_p39 : lw_okq (⟨"ParagraphSetterModel", "solve", "()V"⟩, 52) := ⟨⟨by decide +kernel, by decide +kernel⟩, List.mem_of_getElem? (i := 650) (by decide +kernel), List.mem_of_getElem? (i := 892) (by decide +kernel), List.mem_of_getElem? (i := 893) (by decide +kernel)⟩
theorem lw_p40 : lw_okq (⟨"ParagraphSetterModel", "measure", "(II)Z"⟩, 52) := ⟨⟨by decide +kernel, by decide +kernel⟩, List.mem_of_getElem? (i := 650) (by decide +kernel), List.mem_of_getElem? (i := 897) (by decide +kernel), List.mem_of_getElem? (i := 898) (by decide +kernel)⟩
theorem lw_p41 : lw_okq (⟨"ParagraphSetterModel", "price", "(II)J"⟩, 52) := ⟨⟨by decide +kernel, by decide +kernel⟩, List.mem_of_getElem? (i := 650) (by decide +kernel), List.mem_of_getElem? (i := 903) (by decide +kernel), List.mem_of_getElem? (i := 904) (by decide +kernel)⟩
theorem lw_p42 : lw_okq (⟨"ParagraphSetterModel", "jot", "()V"⟩, 52) := ⟨⟨by decide +kernel, by decide +kernel⟩, List.mem_of_getElem? (i := 650) (by decide +kernel), List.mem_of_getElem? (i := 907) (by decide +kernel), List.mem_of_getElem? (i := 908) (by decide +kernel)⟩
theorem lw_p43 : lw_okq (⟨"ParagraphSetterModel", "isLine", "(I)Z"⟩, 52) := ⟨⟨by decide +kernel, by decide +kernel⟩, List.mem_of_getElem? (i := 650) (by decide +kernel), List.mem_of_getElem? (i := 919) (by decide +kernel), List.mem_of_getElem? (i := 920) (by decide +kernel)⟩
theorem lw_p44 : lw_okq (⟨"ParagraphSetterModel", "characters", "(I)I"⟩, 52) := ⟨⟨by decide +kernel, by decide +kernel⟩, List.mem_of_getElem? (i := 650) (by decide +kernel), List.mem_of_getElem? (i := 927) (by decide +kernel), List.mem_of_getElem? (i := 928) (by decide +kernel)⟩
def lw_privs_3 : List (MethodName × Nat) := [(⟨"ParagraphSetterModel", "clean", "()V"⟩, 52), (⟨"ParagraphSetterModel", "drop", "(I)V"⟩, 52), (⟨"ParagraphSetterModel", "hyphenate", "()V"⟩, 52), (⟨"ParagraphSetterModel", "greatest", "(III)I"⟩, 52), (⟨"ParagraphSetterModel", "signOf", "(III)I"⟩, 52), (⟨"ParagraphSetterModel", "findBreaks", "()Z"⟩, 52), (⟨"ParagraphSetterModel", "addBreak", "(III)Z"⟩, 52), (⟨"ParagraphSetterModel", "solve", "()V"⟩, 52), (⟨"ParagraphSetterModel", "measure", "(II)Z"⟩, 52), (⟨"ParagraphSetterModel", "price", "(II)J"⟩, 52), (⟨"ParagraphSetterModel", "jot", "()V"⟩, 52), (⟨"ParagraphSetterModel", "isLine", "(I)Z"⟩, 52), (⟨"ParagraphSetterModel", "characters", "(I)I"⟩, 52)]
theorem lw_r3 : ∀ q ∈ lw_privs_3, lw_okq q := List.forall_mem_cons.mpr ⟨lw_p32, List.forall_mem_cons.mpr ⟨lw_p33, List.forall_mem_cons.mpr ⟨lw_p34, List.forall_mem_cons.mpr ⟨lw_p35, List.forall_mem_cons.mpr ⟨lw_p36, List.forall_mem_cons.mpr ⟨lw_p37, List.forall_mem_cons.mpr ⟨lw_p38, List.forall_mem_cons.mpr ⟨lw_p39, List.forall_mem_cons.mpr ⟨lw_p40, List.forall_mem_cons.mpr ⟨lw_p41, List.forall_mem_cons.mpr ⟨lw_p42, List.forall_mem_cons.mpr ⟨lw_p43, List.forall_mem_cons.mpr ⟨lw_p44, fun _ h => absurd h List.not_mem_nil⟩⟩⟩⟩⟩⟩⟩⟩⟩⟩⟩⟩⟩
def lw_privs : List (MethodName × Nat) := lw_privs_1 ++ (lw_privs_2 ++ (lw_privs_3))
def lw_tbl : List Cond := k2_sels lw_privs ++ tables_1
theorem lw_privs_ok : ∀ q ∈ lw_privs, lw_okq q := by
  show ∀ q ∈ lw_privs_1 ++ (lw_privs_2 ++ (lw_privs_3)), lw_okq q
  exact List.forall_mem_append.mpr ⟨lw_r1, List.forall_mem_append.mpr ⟨lw_r2, lw_r3⟩⟩
def gTB : List Cond := lw_tbl.filter goodWord
theorem gTB_good : ∀ w ∈ gTB, (w.onTables && w.keeps) = true ∨ ∃ ty, w = .arrayClass ty := fun w h => good_of_word (List.mem_filter.mp h).2
theorem gTB_t {w : Cond} (h : w ∈ tables_1) (hg : goodWord w = true) : w ∈ gTB := List.mem_filter.mpr ⟨List.mem_append_right _ h, hg⟩
theorem gTB_s {w : Cond} (h : w ∈ k2_sels lw_privs) (hg : goodWord w = true) : w ∈ gTB := List.mem_filter.mpr ⟨List.mem_append_left _ h, hg⟩
theorem gIn1 {w : Cond} (h : w ∈ tables_1_1) : w ∈ tables_1 := List.mem_append_left _ h
theorem gIn2 {w : Cond} (h : w ∈ tables_1_2) : w ∈ tables_1 := List.mem_append_right _ (List.mem_append_left _ h)
theorem gIn3 {w : Cond} (h : w ∈ tables_1_3) : w ∈ tables_1 := List.mem_append_right _ (List.mem_append_right _ (List.mem_append_left _ h))
theorem gIn4 {w : Cond} (h : w ∈ tables_1_4) : w ∈ tables_1 := List.mem_append_right _ (List.mem_append_right _ (List.mem_append_right _ (h)))
def R_Row : String := "ParagraphSetter$Row"
def F_Row : u_T := fun k => match k with
  | 0 => ("ParagraphSetter$Row", "codes", "[I", true)
  | _ => ("ParagraphSetter$Row", "size", "I", false)
def t_Row : Nat → FieldType := fun k => match k with
  | 0 => .array .int
  | _ => .int
def R_Mac : String := "ParagraphSetter$Macro"
def F_Mac : u_T := fun k => match k with
  | 0 => ("ParagraphSetter$Macro", "body", "LParagraphSetter$Row;", true)
  | _ => ("ParagraphSetter$Macro", "defined", "Z", false)
def t_Mac : Nat → FieldType := fun k => match k with
  | 0 => .object "ParagraphSetter$Row"
  | _ => .boolean
def R_Exp : String := "ParagraphSetter$Expander"
def F_Exp : u_T := fun k => match k with
  | 0 => ("ParagraphSetter$Expander", "macros", "[LParagraphSetter$Macro;", true)
  | 1 => ("ParagraphSetter$Expander", "list", "[I", true)
  | 2 => ("ParagraphSetter$Expander", "first", "I", false)
  | 3 => ("ParagraphSetter$Expander", "argument", "LParagraphSetter$Row;", true)
  | 4 => ("ParagraphSetter$Expander", "outerSpaces", "[I", true)
  | 5 => ("ParagraphSetter$Expander", "open", "I", false)
  | 6 => ("ParagraphSetter$Expander", "space", "I", false)
  | _ => ("ParagraphSetter$Expander", "calls", "I", false)
def t_Exp : Nat → FieldType := fun k => match k with
  | 0 => .array (.object "ParagraphSetter$Macro")
  | 1 => .array .int
  | 2 => .int
  | 3 => .object "ParagraphSetter$Row"
  | 4 => .array .int
  | 5 => .int
  | 6 => .int
  | _ => .int
def R_Txt : String := "ParagraphSetter$Text"
def F_Txt : u_T := fun k => match k with
  | 0 => ("ParagraphSetter$Text", "codes", "[I", true)
  | 1 => ("ParagraphSetter$Text", "spaces", "[I", true)
  | _ => ("ParagraphSetter$Text", "size", "I", false)
def t_Txt : Nat → FieldType := fun k => match k with
  | 0 => .array .int
  | 1 => .array .int
  | _ => .int
def R_Pat : String := "ParagraphSetter$Pattern"
def F_Pat : u_T := fun k => match k with
  | 0 => ("ParagraphSetter$Pattern", "signs", "[I", true)
  | 1 => ("ParagraphSetter$Pattern", "levels", "[I", true)
  | _ => ("ParagraphSetter$Pattern", "size", "I", false)
def t_Pat : Nat → FieldType := fun k => match k with
  | 0 => .array .int
  | 1 => .array .int
  | _ => .int
def R_Hyp : String := "ParagraphSetter$Hyphenator"
def F_Hyp : u_T := fun k => match k with
  | 0 => ("ParagraphSetter$Hyphenator", "patterns", "[LParagraphSetter$Pattern;", true)
  | 1 => ("ParagraphSetter$Hyphenator", "size", "I", false)
  | _ => ("ParagraphSetter$Hyphenator", "levels", "[I", true)
def t_Hyp : Nat → FieldType := fun k => match k with
  | 0 => .array (.object "ParagraphSetter$Pattern")
  | 1 => .int
  | _ => .array .int
def R_Brk : String := "ParagraphSetter$Breaks"
def F_Brk : u_T := fun k => match k with
  | 0 => ("ParagraphSetter$Breaks", "kinds", "[I", true)
  | 1 => ("ParagraphSetter$Breaks", "ends", "[I", true)
  | 2 => ("ParagraphSetter$Breaks", "begins", "[I", true)
  | _ => ("ParagraphSetter$Breaks", "size", "I", false)
def t_Brk : Nat → FieldType := fun k => match k with
  | 0 => .array .int
  | 1 => .array .int
  | 2 => .array .int
  | _ => .int
def R_Sum : String := "ParagraphSetter$Sums"
def F_Sum : u_T := fun k => match k with
  | 0 => ("ParagraphSetter$Sums", "widths", "[I", true)
  | 1 => ("ParagraphSetter$Sums", "stretches", "[I", true)
  | 2 => ("ParagraphSetter$Sums", "shrinks", "[I", true)
  | 3 => ("ParagraphSetter$Sums", "letters", "[I", true)
  | _ => ("ParagraphSetter$Sums", "dashes", "[I", true)
def t_Sum : Nat → FieldType := fun k => match k with
  | 0 => .array .int
  | 1 => .array .int
  | 2 => .array .int
  | 3 => .array .int
  | _ => .array .int
def R_Stg : String := "ParagraphSetter$Setting"
def F_Stg : u_T := fun k => match k with
  | 0 => ("ParagraphSetter$Setting", "text", "LParagraphSetter$Text;", true)
  | 1 => ("ParagraphSetter$Setting", "breaks", "LParagraphSetter$Breaks;", true)
  | 2 => ("ParagraphSetter$Setting", "sums", "LParagraphSetter$Sums;", true)
  | 3 => ("ParagraphSetter$Setting", "parameters", "[I", true)
  | 4 => ("ParagraphSetter$Setting", "dashWidth", "I", false)
  | 5 => ("ParagraphSetter$Setting", "calls", "I", false)
  | 6 => ("ParagraphSetter$Setting", "ends", "[I", true)
  | 7 => ("ParagraphSetter$Setting", "lines", "I", false)
  | _ => ("ParagraphSetter$Setting", "total", "J", false)
def t_Stg : Nat → FieldType := fun k => match k with
  | 0 => .object "ParagraphSetter$Text"
  | 1 => .object "ParagraphSetter$Breaks"
  | 2 => .object "ParagraphSetter$Sums"
  | 3 => .array .int
  | 4 => .int
  | 5 => .int
  | 6 => .array .int
  | 7 => .int
  | _ => .long
def R_Cho : String := "ParagraphSetter$Chooser"
def F_Cho : u_T := fun k => match k with
  | 0 => ("ParagraphSetter$Chooser", "prices", "[J", true)
  | 1 => ("ParagraphSetter$Chooser", "lines", "[I", true)
  | _ => ("ParagraphSetter$Chooser", "nexts", "[I", true)
def t_Cho : Nat → FieldType := fun k => match k with
  | 0 => .array .long
  | 1 => .array .int
  | _ => .array .int
def R_PS : String := "ParagraphSetter"
def F_PS : u_T := fun k => match k with
  | 0 => ("ParagraphSetter", "typed", "LParagraphSetter$Row;", true)
  | 1 => ("ParagraphSetter", "widths", "[I", true)
  | 2 => ("ParagraphSetter", "parameters", "[I", true)
  | 3 => ("ParagraphSetter", "expander", "LParagraphSetter$Expander;", true)
  | 4 => ("ParagraphSetter", "hyphenator", "LParagraphSetter$Hyphenator;", true)
  | 5 => ("ParagraphSetter", "chooser", "LParagraphSetter$Chooser;", true)
  | 6 => ("ParagraphSetter", "latest", "LParagraphSetter$Setting;", false)
  | _ => ("ParagraphSetter", "draft", "LParagraphSetter$Setting;", false)
def t_PS : Nat → FieldType := fun k => match k with
  | 0 => .object "ParagraphSetter$Row"
  | 1 => .array .int
  | 2 => .array .int
  | 3 => .object "ParagraphSetter$Expander"
  | 4 => .object "ParagraphSetter$Hyphenator"
  | 5 => .object "ParagraphSetter$Chooser"
  | 6 => .object "ParagraphSetter$Setting"
  | _ => .object "ParagraphSetter$Setting"
def R_Mod : String := "ParagraphSetterModel"
def F_Mod : u_T := fun k => match k with
  | 0 => ("ParagraphSetterModel", "line", "[I", true)
  | 1 => ("ParagraphSetterModel", "length", "I", false)
  | 2 => ("ParagraphSetterModel", "widths", "[I", true)
  | 3 => ("ParagraphSetterModel", "parameter", "[I", true)
  | 4 => ("ParagraphSetterModel", "body", "[I", true)
  | 5 => ("ParagraphSetterModel", "bodyLength", "[I", true)
  | 6 => ("ParagraphSetterModel", "sign", "[I", true)
  | 7 => ("ParagraphSetterModel", "level", "[I", true)
  | 8 => ("ParagraphSetterModel", "signs", "[I", true)
  | 9 => ("ParagraphSetterModel", "patterns", "I", false)
  | 10 => ("ParagraphSetterModel", "list", "[I", true)
  | 11 => ("ParagraphSetterModel", "rest", "[I", true)
  | 12 => ("ParagraphSetterModel", "argument", "[I", true)
  | 13 => ("ParagraphSetterModel", "saved", "[I", true)
  | 14 => ("ParagraphSetterModel", "listLength", "I", false)
  | 15 => ("ParagraphSetterModel", "argumentLength", "I", false)
  | 16 => ("ParagraphSetterModel", "calls", "I", false)
  | 17 => ("ParagraphSetterModel", "item", "[I", true)
  | 18 => ("ParagraphSetterModel", "space", "[I", true)
  | 19 => ("ParagraphSetterModel", "sItem", "[I", true)
  | 20 => ("ParagraphSetterModel", "sSize", "[I", true)
  | 21 => ("ParagraphSetterModel", "sSpace", "[I", true)
  | 22 => ("ParagraphSetterModel", "items", "I", false)
  | 23 => ("ParagraphSetterModel", "sItems", "I", false)
  | 24 => ("ParagraphSetterModel", "point", "[Z", true)
  | 25 => ("ParagraphSetterModel", "kind", "[I", true)
  | 26 => ("ParagraphSetterModel", "stop", "[I", true)
  | 27 => ("ParagraphSetterModel", "begin", "[I", true)
  | 28 => ("ParagraphSetterModel", "breaks", "I", false)
  | 29 => ("ParagraphSetterModel", "points", "I", false)
  | 30 => ("ParagraphSetterModel", "best", "[J", true)
  | 31 => ("ParagraphSetterModel", "lines", "[I", true)
  | 32 => ("ParagraphSetterModel", "choice", "[I", true)
  | 33 => ("ParagraphSetterModel", "first", "I", false)
  | 34 => ("ParagraphSetterModel", "natural", "I", false)
  | 35 => ("ParagraphSetterModel", "stretch", "I", false)
  | 36 => ("ParagraphSetterModel", "shrink", "I", false)
  | 37 => ("ParagraphSetterModel", "bad", "I", false)
  | 38 => ("ParagraphSetterModel", "first2", "[I", true)
  | 39 => ("ParagraphSetterModel", "stop2", "[I", true)
  | 40 => ("ParagraphSetterModel", "kind2", "[I", true)
  | 41 => ("ParagraphSetterModel", "number2", "[I", true)
  | 42 => ("ParagraphSetterModel", "natural2", "[I", true)
  | 43 => ("ParagraphSetterModel", "d2", "[I", true)
  | 44 => ("ParagraphSetterModel", "bad2", "[I", true)
  | 45 => ("ParagraphSetterModel", "stretch2", "[I", true)
  | 46 => ("ParagraphSetterModel", "shrink2", "[I", true)
  | 47 => ("ParagraphSetterModel", "lines2", "I", false)
  | 48 => ("ParagraphSetterModel", "breaks2", "I", false)
  | 49 => ("ParagraphSetterModel", "points2", "I", false)
  | 50 => ("ParagraphSetterModel", "calls2", "I", false)
  | _ => ("ParagraphSetterModel", "cost2", "J", false)
def t_Mod : Nat → FieldType := fun k => match k with
  | 0 => .array .int
  | 1 => .int
  | 2 => .array .int
  | 3 => .array .int
  | 4 => .array .int
  | 5 => .array .int
  | 6 => .array .int
  | 7 => .array .int
  | 8 => .array .int
  | 9 => .int
  | 10 => .array .int
  | 11 => .array .int
  | 12 => .array .int
  | 13 => .array .int
  | 14 => .int
  | 15 => .int
  | 16 => .int
  | 17 => .array .int
  | 18 => .array .int
  | 19 => .array .int
  | 20 => .array .int
  | 21 => .array .int
  | 22 => .int
  | 23 => .int
  | 24 => .array .boolean
  | 25 => .array .int
  | 26 => .array .int
  | 27 => .array .int
  | 28 => .int
  | 29 => .int
  | 30 => .array .long
  | 31 => .array .int
  | 32 => .array .int
  | 33 => .int
  | 34 => .int
  | 35 => .int
  | 36 => .int
  | 37 => .int
  | 38 => .array .int
  | 39 => .array .int
  | 40 => .array .int
  | 41 => .array .int
  | 42 => .array .int
  | 43 => .array .int
  | 44 => .array .int
  | 45 => .array .int
  | 46 => .array .int
  | 47 => .int
  | 48 => .int
  | 49 => .int
  | 50 => .int
  | _ => .long
def R_Law : String := "ParagraphSetterLaw"
def R_Math : String := "java/lang/Math"
abbrev classes : List vw_C := [(R_Row, F_Row, 2), (R_Mac, F_Mac, 2), (R_Exp, F_Exp, 8), (R_Txt, F_Txt, 3), (R_Pat, F_Pat, 3), (R_Hyp, F_Hyp, 3), (R_Brk, F_Brk, 4), (R_Sum, F_Sum, 5), (R_Stg, F_Stg, 9), (R_Cho, F_Cho, 3), (R_PS, F_PS, 8), (R_Mod, F_Mod, 52)]
abbrev gTys : List FieldType := [.int, .long, .boolean, .object "ParagraphSetter$Macro", .object "ParagraphSetter$Pattern"]
theorem n_Row : ∀ a, a < 2 → ∀ b, b < 2 → a ≠ b → (F_Row a).2.1 ≠ (F_Row b).2.1 := by decide +kernel
theorem t_Row_ok : ∀ k, k < 2 → parseFieldDescriptor (F_Row k).2.2.1 = some (t_Row k) := by decide +kernel
theorem n_Mac : ∀ a, a < 2 → ∀ b, b < 2 → a ≠ b → (F_Mac a).2.1 ≠ (F_Mac b).2.1 := by decide +kernel
theorem t_Mac_ok : ∀ k, k < 2 → parseFieldDescriptor (F_Mac k).2.2.1 = some (t_Mac k) := by decide +kernel
theorem n_Exp : ∀ a, a < 8 → ∀ b, b < 8 → a ≠ b → (F_Exp a).2.1 ≠ (F_Exp b).2.1 := by decide +kernel
theorem t_Exp_ok : ∀ k, k < 8 → parseFieldDescriptor (F_Exp k).2.2.1 = some (t_Exp k) := by decide +kernel
theorem n_Txt : ∀ a, a < 3 → ∀ b, b < 3 → a ≠ b → (F_Txt a).2.1 ≠ (F_Txt b).2.1 := by decide +kernel
theorem t_Txt_ok : ∀ k, k < 3 → parseFieldDescriptor (F_Txt k).2.2.1 = some (t_Txt k) := by decide +kernel
theorem n_Pat : ∀ a, a < 3 → ∀ b, b < 3 → a ≠ b → (F_Pat a).2.1 ≠ (F_Pat b).2.1 := by decide +kernel
theorem t_Pat_ok : ∀ k, k < 3 → parseFieldDescriptor (F_Pat k).2.2.1 = some (t_Pat k) := by decide +kernel
theorem n_Hyp : ∀ a, a < 3 → ∀ b, b < 3 → a ≠ b → (F_Hyp a).2.1 ≠ (F_Hyp b).2.1 := by decide +kernel
theorem t_Hyp_ok : ∀ k, k < 3 → parseFieldDescriptor (F_Hyp k).2.2.1 = some (t_Hyp k) := by decide +kernel
theorem n_Brk : ∀ a, a < 4 → ∀ b, b < 4 → a ≠ b → (F_Brk a).2.1 ≠ (F_Brk b).2.1 := by decide +kernel
theorem t_Brk_ok : ∀ k, k < 4 → parseFieldDescriptor (F_Brk k).2.2.1 = some (t_Brk k) := by decide +kernel
theorem n_Sum : ∀ a, a < 5 → ∀ b, b < 5 → a ≠ b → (F_Sum a).2.1 ≠ (F_Sum b).2.1 := by decide +kernel
theorem t_Sum_ok : ∀ k, k < 5 → parseFieldDescriptor (F_Sum k).2.2.1 = some (t_Sum k) := by decide +kernel
theorem n_Stg : ∀ a, a < 9 → ∀ b, b < 9 → a ≠ b → (F_Stg a).2.1 ≠ (F_Stg b).2.1 := by decide +kernel
theorem t_Stg_ok : ∀ k, k < 9 → parseFieldDescriptor (F_Stg k).2.2.1 = some (t_Stg k) := by decide +kernel
theorem n_Cho : ∀ a, a < 3 → ∀ b, b < 3 → a ≠ b → (F_Cho a).2.1 ≠ (F_Cho b).2.1 := by decide +kernel
theorem t_Cho_ok : ∀ k, k < 3 → parseFieldDescriptor (F_Cho k).2.2.1 = some (t_Cho k) := by decide +kernel
theorem n_PS : ∀ a, a < 8 → ∀ b, b < 8 → a ≠ b → (F_PS a).2.1 ≠ (F_PS b).2.1 := by decide +kernel
theorem t_PS_ok : ∀ k, k < 8 → parseFieldDescriptor (F_PS k).2.2.1 = some (t_PS k) := by decide +kernel
theorem n_Mod : ∀ a, a < 52 → ∀ b, b < 52 → a ≠ b → (F_Mod a).2.1 ≠ (F_Mod b).2.1 := by decide +kernel
theorem t_Mod_ok : ∀ k, k < 52 → parseFieldDescriptor (F_Mod k).2.2.1 = some (t_Mod k) := by decide +kernel
theorem l_Row_0 : u_lay R_Row F_Row 0 ∈ gTB := gTB_t (gIn1 (List.mem_of_getElem? (i := 35) (by decide +kernel))) (by decide +kernel)
theorem l_Row_1 : u_lay R_Row F_Row 1 ∈ gTB := gTB_t (gIn1 (List.mem_of_getElem? (i := 37) (by decide +kernel))) (by decide +kernel)
theorem l_Row : ∀ w ∈ u_ws R_Row F_Row 2, w ∈ gTB := fun w hw => by
  obtain ⟨k, hk, rfl⟩ := List.mem_map.mp hw
  have hk := List.mem_range.mp hk
  match k, hk with
  | 0, _ => exact l_Row_0
  | 1, _ => exact l_Row_1
  | k + 2, hk => exact absurd hk (by omega)
theorem l_Mac_0 : u_lay R_Mac F_Mac 0 ∈ gTB := gTB_t (gIn1 (List.mem_of_getElem? (i := 64) (by decide +kernel))) (by decide +kernel)
theorem l_Mac_1 : u_lay R_Mac F_Mac 1 ∈ gTB := gTB_t (gIn1 (List.mem_of_getElem? (i := 66) (by decide +kernel))) (by decide +kernel)
theorem l_Mac : ∀ w ∈ u_ws R_Mac F_Mac 2, w ∈ gTB := fun w hw => by
  obtain ⟨k, hk, rfl⟩ := List.mem_map.mp hw
  have hk := List.mem_range.mp hk
  match k, hk with
  | 0, _ => exact l_Mac_0
  | 1, _ => exact l_Mac_1
  | k + 2, hk => exact absurd hk (by omega)
theorem l_Exp_0 : u_lay R_Exp F_Exp 0 ∈ gTB := gTB_t (gIn1 (List.mem_of_getElem? (i := 79) (by decide +kernel))) (by decide +kernel)
theorem l_Exp_1 : u_lay R_Exp F_Exp 1 ∈ gTB := gTB_t (gIn1 (List.mem_of_getElem? (i := 81) (by decide +kernel))) (by decide +kernel)
theorem l_Exp_2 : u_lay R_Exp F_Exp 2 ∈ gTB := gTB_t (gIn1 (List.mem_of_getElem? (i := 83) (by decide +kernel))) (by decide +kernel)
theorem l_Exp_3 : u_lay R_Exp F_Exp 3 ∈ gTB := gTB_t (gIn1 (List.mem_of_getElem? (i := 85) (by decide +kernel))) (by decide +kernel)
theorem l_Exp_4 : u_lay R_Exp F_Exp 4 ∈ gTB := gTB_t (gIn1 (List.mem_of_getElem? (i := 87) (by decide +kernel))) (by decide +kernel)
theorem l_Exp_5 : u_lay R_Exp F_Exp 5 ∈ gTB := gTB_t (gIn1 (List.mem_of_getElem? (i := 89) (by decide +kernel))) (by decide +kernel)
theorem l_Exp_6 : u_lay R_Exp F_Exp 6 ∈ gTB := gTB_t (gIn1 (List.mem_of_getElem? (i := 91) (by decide +kernel))) (by decide +kernel)
theorem l_Exp_7 : u_lay R_Exp F_Exp 7 ∈ gTB := gTB_t (gIn1 (List.mem_of_getElem? (i := 93) (by decide +kernel))) (by decide +kernel)
theorem l_Exp : ∀ w ∈ u_ws R_Exp F_Exp 8, w ∈ gTB := fun w hw => by
  obtain ⟨k, hk, rfl⟩ := List.mem_map.mp hw
  have hk := List.mem_range.mp hk
  match k, hk with
  | 0, _ => exact l_Exp_0
  | 1, _ => exact l_Exp_1
  | 2, _ => exact l_Exp_2
  | 3, _ => exact l_Exp_3
  | 4, _ => exact l_Exp_4
  | 5, _ => exact l_Exp_5
  | 6, _ => exact l_Exp_6
  | 7, _ => exact l_Exp_7
  | k + 8, hk => exact absurd hk (by omega)
theorem l_Txt_0 : u_lay R_Txt F_Txt 0 ∈ gTB := gTB_t (gIn1 (List.mem_of_getElem? (i := 175) (by decide +kernel))) (by decide +kernel)
theorem l_Txt_1 : u_lay R_Txt F_Txt 1 ∈ gTB := gTB_t (gIn1 (List.mem_of_getElem? (i := 177) (by decide +kernel))) (by decide +kernel)
theorem l_Txt_2 : u_lay R_Txt F_Txt 2 ∈ gTB := gTB_t (gIn1 (List.mem_of_getElem? (i := 179) (by decide +kernel))) (by decide +kernel)
theorem l_Txt : ∀ w ∈ u_ws R_Txt F_Txt 3, w ∈ gTB := fun w hw => by
  obtain ⟨k, hk, rfl⟩ := List.mem_map.mp hw
  have hk := List.mem_range.mp hk
  match k, hk with
  | 0, _ => exact l_Txt_0
  | 1, _ => exact l_Txt_1
  | 2, _ => exact l_Txt_2
  | k + 3, hk => exact absurd hk (by omega)
theorem l_Pat_0 : u_lay R_Pat F_Pat 0 ∈ gTB := gTB_t (gIn1 (List.mem_of_getElem? (i := 115) (by decide +kernel))) (by decide +kernel)
theorem l_Pat_1 : u_lay R_Pat F_Pat 1 ∈ gTB := gTB_t (gIn1 (List.mem_of_getElem? (i := 117) (by decide +kernel))) (by decide +kernel)
theorem l_Pat_2 : u_lay R_Pat F_Pat 2 ∈ gTB := gTB_t (gIn1 (List.mem_of_getElem? (i := 119) (by decide +kernel))) (by decide +kernel)
theorem l_Pat : ∀ w ∈ u_ws R_Pat F_Pat 3, w ∈ gTB := fun w hw => by
  obtain ⟨k, hk, rfl⟩ := List.mem_map.mp hw
  have hk := List.mem_range.mp hk
  match k, hk with
  | 0, _ => exact l_Pat_0
  | 1, _ => exact l_Pat_1
  | 2, _ => exact l_Pat_2
  | k + 3, hk => exact absurd hk (by omega)
theorem l_Hyp_0 : u_lay R_Hyp F_Hyp 0 ∈ gTB := gTB_t (gIn1 (List.mem_of_getElem? (i := 126) (by decide +kernel))) (by decide +kernel)
theorem l_Hyp_1 : u_lay R_Hyp F_Hyp 1 ∈ gTB := gTB_t (gIn1 (List.mem_of_getElem? (i := 128) (by decide +kernel))) (by decide +kernel)
theorem l_Hyp_2 : u_lay R_Hyp F_Hyp 2 ∈ gTB := gTB_t (gIn1 (List.mem_of_getElem? (i := 130) (by decide +kernel))) (by decide +kernel)
theorem l_Hyp : ∀ w ∈ u_ws R_Hyp F_Hyp 3, w ∈ gTB := fun w hw => by
  obtain ⟨k, hk, rfl⟩ := List.mem_map.mp hw
  have hk := List.mem_range.mp hk
  match k, hk with
  | 0, _ => exact l_Hyp_0
  | 1, _ => exact l_Hyp_1
  | 2, _ => exact l_Hyp_2
  | k + 3, hk => exact absurd hk (by omega)
theorem l_Brk_0 : u_lay R_Brk F_Brk 0 ∈ gTB := gTB_t (gIn1 (List.mem_of_getElem? (i := 199) (by decide +kernel))) (by decide +kernel)
theorem l_Brk_1 : u_lay R_Brk F_Brk 1 ∈ gTB := gTB_t (gIn1 (List.mem_of_getElem? (i := 201) (by decide +kernel))) (by decide +kernel)
theorem l_Brk_2 : u_lay R_Brk F_Brk 2 ∈ gTB := gTB_t (gIn1 (List.mem_of_getElem? (i := 203) (by decide +kernel))) (by decide +kernel)
theorem l_Brk_3 : u_lay R_Brk F_Brk 3 ∈ gTB := gTB_t (gIn1 (List.mem_of_getElem? (i := 205) (by decide +kernel))) (by decide +kernel)
theorem l_Brk : ∀ w ∈ u_ws R_Brk F_Brk 4, w ∈ gTB := fun w hw => by
  obtain ⟨k, hk, rfl⟩ := List.mem_map.mp hw
  have hk := List.mem_range.mp hk
  match k, hk with
  | 0, _ => exact l_Brk_0
  | 1, _ => exact l_Brk_1
  | 2, _ => exact l_Brk_2
  | 3, _ => exact l_Brk_3
  | k + 4, hk => exact absurd hk (by omega)
theorem l_Sum_0 : u_lay R_Sum F_Sum 0 ∈ gTB := gTB_t (gIn1 (List.mem_of_getElem? (i := 224) (by decide +kernel))) (by decide +kernel)
theorem l_Sum_1 : u_lay R_Sum F_Sum 1 ∈ gTB := gTB_t (gIn1 (List.mem_of_getElem? (i := 226) (by decide +kernel))) (by decide +kernel)
theorem l_Sum_2 : u_lay R_Sum F_Sum 2 ∈ gTB := gTB_t (gIn1 (List.mem_of_getElem? (i := 228) (by decide +kernel))) (by decide +kernel)
theorem l_Sum_3 : u_lay R_Sum F_Sum 3 ∈ gTB := gTB_t (gIn1 (List.mem_of_getElem? (i := 230) (by decide +kernel))) (by decide +kernel)
theorem l_Sum_4 : u_lay R_Sum F_Sum 4 ∈ gTB := gTB_t (gIn1 (List.mem_of_getElem? (i := 232) (by decide +kernel))) (by decide +kernel)
theorem l_Sum : ∀ w ∈ u_ws R_Sum F_Sum 5, w ∈ gTB := fun w hw => by
  obtain ⟨k, hk, rfl⟩ := List.mem_map.mp hw
  have hk := List.mem_range.mp hk
  match k, hk with
  | 0, _ => exact l_Sum_0
  | 1, _ => exact l_Sum_1
  | 2, _ => exact l_Sum_2
  | 3, _ => exact l_Sum_3
  | 4, _ => exact l_Sum_4
  | k + 5, hk => exact absurd hk (by omega)
theorem l_Stg_0 : u_lay R_Stg F_Stg 0 ∈ gTB := gTB_t (gIn2 (List.mem_of_getElem? (i := 15) (by decide +kernel))) (by decide +kernel)
theorem l_Stg_1 : u_lay R_Stg F_Stg 1 ∈ gTB := gTB_t (gIn2 (List.mem_of_getElem? (i := 17) (by decide +kernel))) (by decide +kernel)
theorem l_Stg_2 : u_lay R_Stg F_Stg 2 ∈ gTB := gTB_t (gIn2 (List.mem_of_getElem? (i := 19) (by decide +kernel))) (by decide +kernel)
theorem l_Stg_3 : u_lay R_Stg F_Stg 3 ∈ gTB := gTB_t (gIn2 (List.mem_of_getElem? (i := 21) (by decide +kernel))) (by decide +kernel)
theorem l_Stg_4 : u_lay R_Stg F_Stg 4 ∈ gTB := gTB_t (gIn2 (List.mem_of_getElem? (i := 23) (by decide +kernel))) (by decide +kernel)
theorem l_Stg_5 : u_lay R_Stg F_Stg 5 ∈ gTB := gTB_t (gIn2 (List.mem_of_getElem? (i := 25) (by decide +kernel))) (by decide +kernel)
theorem l_Stg_6 : u_lay R_Stg F_Stg 6 ∈ gTB := gTB_t (gIn2 (List.mem_of_getElem? (i := 27) (by decide +kernel))) (by decide +kernel)
theorem l_Stg_7 : u_lay R_Stg F_Stg 7 ∈ gTB := gTB_t (gIn2 (List.mem_of_getElem? (i := 29) (by decide +kernel))) (by decide +kernel)
theorem l_Stg_8 : u_lay R_Stg F_Stg 8 ∈ gTB := gTB_t (gIn2 (List.mem_of_getElem? (i := 31) (by decide +kernel))) (by decide +kernel)
theorem l_Stg : ∀ w ∈ u_ws R_Stg F_Stg 9, w ∈ gTB := fun w hw => by
  obtain ⟨k, hk, rfl⟩ := List.mem_map.mp hw
  have hk := List.mem_range.mp hk
  match k, hk with
  | 0, _ => exact l_Stg_0
  | 1, _ => exact l_Stg_1
  | 2, _ => exact l_Stg_2
  | 3, _ => exact l_Stg_3
  | 4, _ => exact l_Stg_4
  | 5, _ => exact l_Stg_5
  | 6, _ => exact l_Stg_6
  | 7, _ => exact l_Stg_7
  | 8, _ => exact l_Stg_8
  | k + 9, hk => exact absurd hk (by omega)
theorem l_Cho_0 : u_lay R_Cho F_Cho 0 ∈ gTB := gTB_t (gIn1 (List.mem_of_getElem? (i := 142) (by decide +kernel))) (by decide +kernel)
theorem l_Cho_1 : u_lay R_Cho F_Cho 1 ∈ gTB := gTB_t (gIn1 (List.mem_of_getElem? (i := 144) (by decide +kernel))) (by decide +kernel)
theorem l_Cho_2 : u_lay R_Cho F_Cho 2 ∈ gTB := gTB_t (gIn1 (List.mem_of_getElem? (i := 146) (by decide +kernel))) (by decide +kernel)
theorem l_Cho : ∀ w ∈ u_ws R_Cho F_Cho 3, w ∈ gTB := fun w hw => by
  obtain ⟨k, hk, rfl⟩ := List.mem_map.mp hw
  have hk := List.mem_range.mp hk
  match k, hk with
  | 0, _ => exact l_Cho_0
  | 1, _ => exact l_Cho_1
  | 2, _ => exact l_Cho_2
  | k + 3, hk => exact absurd hk (by omega)
theorem l_PS_0 : u_lay R_PS F_PS 0 ∈ gTB := gTB_t (gIn2 (List.mem_of_getElem? (i := 42) (by decide +kernel))) (by decide +kernel)
theorem l_PS_1 : u_lay R_PS F_PS 1 ∈ gTB := gTB_t (gIn2 (List.mem_of_getElem? (i := 44) (by decide +kernel))) (by decide +kernel)
theorem l_PS_2 : u_lay R_PS F_PS 2 ∈ gTB := gTB_t (gIn2 (List.mem_of_getElem? (i := 46) (by decide +kernel))) (by decide +kernel)
theorem l_PS_3 : u_lay R_PS F_PS 3 ∈ gTB := gTB_t (gIn2 (List.mem_of_getElem? (i := 48) (by decide +kernel))) (by decide +kernel)
theorem l_PS_4 : u_lay R_PS F_PS 4 ∈ gTB := gTB_t (gIn2 (List.mem_of_getElem? (i := 50) (by decide +kernel))) (by decide +kernel)
theorem l_PS_5 : u_lay R_PS F_PS 5 ∈ gTB := gTB_t (gIn2 (List.mem_of_getElem? (i := 52) (by decide +kernel))) (by decide +kernel)
theorem l_PS_6 : u_lay R_PS F_PS 6 ∈ gTB := gTB_t (gIn2 (List.mem_of_getElem? (i := 54) (by decide +kernel))) (by decide +kernel)
theorem l_PS_7 : u_lay R_PS F_PS 7 ∈ gTB := gTB_t (gIn2 (List.mem_of_getElem? (i := 56) (by decide +kernel))) (by decide +kernel)
theorem l_PS : ∀ w ∈ u_ws R_PS F_PS 8, w ∈ gTB := fun w hw => by
  obtain ⟨k, hk, rfl⟩ := List.mem_map.mp hw
  have hk := List.mem_range.mp hk
  match k, hk with
  | 0, _ => exact l_PS_0
  | 1, _ => exact l_PS_1
  | 2, _ => exact l_PS_2
  | 3, _ => exact l_PS_3
  | 4, _ => exact l_PS_4
  | 5, _ => exact l_PS_5
  | 6, _ => exact l_PS_6
  | 7, _ => exact l_PS_7
  | k + 8, hk => exact absurd hk (by omega)
theorem l_Mod_0 : u_lay R_Mod F_Mod 0 ∈ gTB := gTB_t (gIn3 (List.mem_of_getElem? (i := 227) (by decide +kernel))) (by decide +kernel)
theorem l_Mod_1 : u_lay R_Mod F_Mod 1 ∈ gTB := gTB_t (gIn3 (List.mem_of_getElem? (i := 229) (by decide +kernel))) (by decide +kernel)
theorem l_Mod_2 : u_lay R_Mod F_Mod 2 ∈ gTB := gTB_t (gIn3 (List.mem_of_getElem? (i := 231) (by decide +kernel))) (by decide +kernel)
theorem l_Mod_3 : u_lay R_Mod F_Mod 3 ∈ gTB := gTB_t (gIn3 (List.mem_of_getElem? (i := 233) (by decide +kernel))) (by decide +kernel)
theorem l_Mod_4 : u_lay R_Mod F_Mod 4 ∈ gTB := gTB_t (gIn3 (List.mem_of_getElem? (i := 235) (by decide +kernel))) (by decide +kernel)
theorem l_Mod_5 : u_lay R_Mod F_Mod 5 ∈ gTB := gTB_t (gIn3 (List.mem_of_getElem? (i := 237) (by decide +kernel))) (by decide +kernel)
theorem l_Mod_6 : u_lay R_Mod F_Mod 6 ∈ gTB := gTB_t (gIn3 (List.mem_of_getElem? (i := 239) (by decide +kernel))) (by decide +kernel)
theorem l_Mod_7 : u_lay R_Mod F_Mod 7 ∈ gTB := gTB_t (gIn4 (List.mem_of_getElem? (i := 1) (by decide +kernel))) (by decide +kernel)
theorem l_Mod_8 : u_lay R_Mod F_Mod 8 ∈ gTB := gTB_t (gIn4 (List.mem_of_getElem? (i := 3) (by decide +kernel))) (by decide +kernel)
theorem l_Mod_9 : u_lay R_Mod F_Mod 9 ∈ gTB := gTB_t (gIn4 (List.mem_of_getElem? (i := 5) (by decide +kernel))) (by decide +kernel)
theorem l_Mod_10 : u_lay R_Mod F_Mod 10 ∈ gTB := gTB_t (gIn4 (List.mem_of_getElem? (i := 7) (by decide +kernel))) (by decide +kernel)
theorem l_Mod_11 : u_lay R_Mod F_Mod 11 ∈ gTB := gTB_t (gIn4 (List.mem_of_getElem? (i := 9) (by decide +kernel))) (by decide +kernel)
theorem l_Mod_12 : u_lay R_Mod F_Mod 12 ∈ gTB := gTB_t (gIn4 (List.mem_of_getElem? (i := 11) (by decide +kernel))) (by decide +kernel)
theorem l_Mod_13 : u_lay R_Mod F_Mod 13 ∈ gTB := gTB_t (gIn4 (List.mem_of_getElem? (i := 13) (by decide +kernel))) (by decide +kernel)
theorem l_Mod_14 : u_lay R_Mod F_Mod 14 ∈ gTB := gTB_t (gIn4 (List.mem_of_getElem? (i := 15) (by decide +kernel))) (by decide +kernel)
theorem l_Mod_15 : u_lay R_Mod F_Mod 15 ∈ gTB := gTB_t (gIn4 (List.mem_of_getElem? (i := 17) (by decide +kernel))) (by decide +kernel)
theorem l_Mod_16 : u_lay R_Mod F_Mod 16 ∈ gTB := gTB_t (gIn4 (List.mem_of_getElem? (i := 19) (by decide +kernel))) (by decide +kernel)
theorem l_Mod_17 : u_lay R_Mod F_Mod 17 ∈ gTB := gTB_t (gIn4 (List.mem_of_getElem? (i := 21) (by decide +kernel))) (by decide +kernel)
theorem l_Mod_18 : u_lay R_Mod F_Mod 18 ∈ gTB := gTB_t (gIn4 (List.mem_of_getElem? (i := 23) (by decide +kernel))) (by decide +kernel)
theorem l_Mod_19 : u_lay R_Mod F_Mod 19 ∈ gTB := gTB_t (gIn4 (List.mem_of_getElem? (i := 25) (by decide +kernel))) (by decide +kernel)
theorem l_Mod_20 : u_lay R_Mod F_Mod 20 ∈ gTB := gTB_t (gIn4 (List.mem_of_getElem? (i := 27) (by decide +kernel))) (by decide +kernel)
theorem l_Mod_21 : u_lay R_Mod F_Mod 21 ∈ gTB := gTB_t (gIn4 (List.mem_of_getElem? (i := 29) (by decide +kernel))) (by decide +kernel)
theorem l_Mod_22 : u_lay R_Mod F_Mod 22 ∈ gTB := gTB_t (gIn4 (List.mem_of_getElem? (i := 31) (by decide +kernel))) (by decide +kernel)
theorem l_Mod_23 : u_lay R_Mod F_Mod 23 ∈ gTB := gTB_t (gIn4 (List.mem_of_getElem? (i := 33) (by decide +kernel))) (by decide +kernel)
theorem l_Mod_24 : u_lay R_Mod F_Mod 24 ∈ gTB := gTB_t (gIn4 (List.mem_of_getElem? (i := 35) (by decide +kernel))) (by decide +kernel)
theorem l_Mod_25 : u_lay R_Mod F_Mod 25 ∈ gTB := gTB_t (gIn4 (List.mem_of_getElem? (i := 37) (by decide +kernel))) (by decide +kernel)
theorem l_Mod_26 : u_lay R_Mod F_Mod 26 ∈ gTB := gTB_t (gIn4 (List.mem_of_getElem? (i := 39) (by decide +kernel))) (by decide +kernel)
theorem l_Mod_27 : u_lay R_Mod F_Mod 27 ∈ gTB := gTB_t (gIn4 (List.mem_of_getElem? (i := 41) (by decide +kernel))) (by decide +kernel)
theorem l_Mod_28 : u_lay R_Mod F_Mod 28 ∈ gTB := gTB_t (gIn4 (List.mem_of_getElem? (i := 43) (by decide +kernel))) (by decide +kernel)
theorem l_Mod_29 : u_lay R_Mod F_Mod 29 ∈ gTB := gTB_t (gIn4 (List.mem_of_getElem? (i := 45) (by decide +kernel))) (by decide +kernel)
theorem l_Mod_30 : u_lay R_Mod F_Mod 30 ∈ gTB := gTB_t (gIn4 (List.mem_of_getElem? (i := 47) (by decide +kernel))) (by decide +kernel)
theorem l_Mod_31 : u_lay R_Mod F_Mod 31 ∈ gTB := gTB_t (gIn4 (List.mem_of_getElem? (i := 49) (by decide +kernel))) (by decide +kernel)
theorem l_Mod_32 : u_lay R_Mod F_Mod 32 ∈ gTB := gTB_t (gIn4 (List.mem_of_getElem? (i := 51) (by decide +kernel))) (by decide +kernel)
theorem l_Mod_33 : u_lay R_Mod F_Mod 33 ∈ gTB := gTB_t (gIn4 (List.mem_of_getElem? (i := 53) (by decide +kernel))) (by decide +kernel)
theorem l_Mod_34 : u_lay R_Mod F_Mod 34 ∈ gTB := gTB_t (gIn4 (List.mem_of_getElem? (i := 55) (by decide +kernel))) (by decide +kernel)
theorem l_Mod_35 : u_lay R_Mod F_Mod 35 ∈ gTB := gTB_t (gIn4 (List.mem_of_getElem? (i := 57) (by decide +kernel))) (by decide +kernel)
theorem l_Mod_36 : u_lay R_Mod F_Mod 36 ∈ gTB := gTB_t (gIn4 (List.mem_of_getElem? (i := 59) (by decide +kernel))) (by decide +kernel)
theorem l_Mod_37 : u_lay R_Mod F_Mod 37 ∈ gTB := gTB_t (gIn4 (List.mem_of_getElem? (i := 61) (by decide +kernel))) (by decide +kernel)
theorem l_Mod_38 : u_lay R_Mod F_Mod 38 ∈ gTB := gTB_t (gIn4 (List.mem_of_getElem? (i := 63) (by decide +kernel))) (by decide +kernel)
theorem l_Mod_39 : u_lay R_Mod F_Mod 39 ∈ gTB := gTB_t (gIn4 (List.mem_of_getElem? (i := 65) (by decide +kernel))) (by decide +kernel)
theorem l_Mod_40 : u_lay R_Mod F_Mod 40 ∈ gTB := gTB_t (gIn4 (List.mem_of_getElem? (i := 67) (by decide +kernel))) (by decide +kernel)
theorem l_Mod_41 : u_lay R_Mod F_Mod 41 ∈ gTB := gTB_t (gIn4 (List.mem_of_getElem? (i := 69) (by decide +kernel))) (by decide +kernel)
theorem l_Mod_42 : u_lay R_Mod F_Mod 42 ∈ gTB := gTB_t (gIn4 (List.mem_of_getElem? (i := 71) (by decide +kernel))) (by decide +kernel)
theorem l_Mod_43 : u_lay R_Mod F_Mod 43 ∈ gTB := gTB_t (gIn4 (List.mem_of_getElem? (i := 73) (by decide +kernel))) (by decide +kernel)
theorem l_Mod_44 : u_lay R_Mod F_Mod 44 ∈ gTB := gTB_t (gIn4 (List.mem_of_getElem? (i := 75) (by decide +kernel))) (by decide +kernel)
theorem l_Mod_45 : u_lay R_Mod F_Mod 45 ∈ gTB := gTB_t (gIn4 (List.mem_of_getElem? (i := 77) (by decide +kernel))) (by decide +kernel)
theorem l_Mod_46 : u_lay R_Mod F_Mod 46 ∈ gTB := gTB_t (gIn4 (List.mem_of_getElem? (i := 79) (by decide +kernel))) (by decide +kernel)
theorem l_Mod_47 : u_lay R_Mod F_Mod 47 ∈ gTB := gTB_t (gIn4 (List.mem_of_getElem? (i := 81) (by decide +kernel))) (by decide +kernel)
theorem l_Mod_48 : u_lay R_Mod F_Mod 48 ∈ gTB := gTB_t (gIn4 (List.mem_of_getElem? (i := 83) (by decide +kernel))) (by decide +kernel)
theorem l_Mod_49 : u_lay R_Mod F_Mod 49 ∈ gTB := gTB_t (gIn4 (List.mem_of_getElem? (i := 85) (by decide +kernel))) (by decide +kernel)
theorem l_Mod_50 : u_lay R_Mod F_Mod 50 ∈ gTB := gTB_t (gIn4 (List.mem_of_getElem? (i := 87) (by decide +kernel))) (by decide +kernel)
theorem l_Mod_51 : u_lay R_Mod F_Mod 51 ∈ gTB := gTB_t (gIn4 (List.mem_of_getElem? (i := 89) (by decide +kernel))) (by decide +kernel)
theorem l_Mod : ∀ w ∈ u_ws R_Mod F_Mod 52, w ∈ gTB := fun w hw => by
  obtain ⟨k, hk, rfl⟩ := List.mem_map.mp hw
  have hk := List.mem_range.mp hk
  match k, hk with
  | 0, _ => exact l_Mod_0
  | 1, _ => exact l_Mod_1
  | 2, _ => exact l_Mod_2
  | 3, _ => exact l_Mod_3
  | 4, _ => exact l_Mod_4
  | 5, _ => exact l_Mod_5
  | 6, _ => exact l_Mod_6
  | 7, _ => exact l_Mod_7
  | 8, _ => exact l_Mod_8
  | 9, _ => exact l_Mod_9
  | 10, _ => exact l_Mod_10
  | 11, _ => exact l_Mod_11
  | 12, _ => exact l_Mod_12
  | 13, _ => exact l_Mod_13
  | 14, _ => exact l_Mod_14
  | 15, _ => exact l_Mod_15
  | 16, _ => exact l_Mod_16
  | 17, _ => exact l_Mod_17
  | 18, _ => exact l_Mod_18
  | 19, _ => exact l_Mod_19
  | 20, _ => exact l_Mod_20
  | 21, _ => exact l_Mod_21
  | 22, _ => exact l_Mod_22
  | 23, _ => exact l_Mod_23
  | 24, _ => exact l_Mod_24
  | 25, _ => exact l_Mod_25
  | 26, _ => exact l_Mod_26
  | 27, _ => exact l_Mod_27
  | 28, _ => exact l_Mod_28
  | 29, _ => exact l_Mod_29
  | 30, _ => exact l_Mod_30
  | 31, _ => exact l_Mod_31
  | 32, _ => exact l_Mod_32
  | 33, _ => exact l_Mod_33
  | 34, _ => exact l_Mod_34
  | 35, _ => exact l_Mod_35
  | 36, _ => exact l_Mod_36
  | 37, _ => exact l_Mod_37
  | 38, _ => exact l_Mod_38
  | 39, _ => exact l_Mod_39
  | 40, _ => exact l_Mod_40
  | 41, _ => exact l_Mod_41
  | 42, _ => exact l_Mod_42
  | 43, _ => exact l_Mod_43
  | 44, _ => exact l_Mod_44
  | 45, _ => exact l_Mod_45
  | 46, _ => exact l_Mod_46
  | 47, _ => exact l_Mod_47
  | 48, _ => exact l_Mod_48
  | 49, _ => exact l_Mod_49
  | 50, _ => exact l_Mod_50
  | 51, _ => exact l_Mod_51
  | k + 52, hk => exact absurd hk (by omega)
end
section
def gNest : Cond → Bool
  | .fieldLinkNest .. => true
  | .methodLinkNest .. => true
  | .arrayOver (.object _) => true
  | _ => false
def gNW : List Cond := lw_tbl.filter gNest
theorem gNW_in {w : Cond} (h : w ∈ tables_1) (hn : gNest w = true) : w ∈ gNW := List.mem_filter.mpr ⟨List.mem_append_right _ h, hn⟩
theorem gNW_moved (w : Cond) (hw : w ∈ gNW) {s U : State} (hW : s.WarmedH U.vm) (h : va_Nw w s) : va_Nw w U := by
  have hn : gNest w = true := (List.mem_filter.mp hw).2
  cases w <;> first | exact va_Nw.warmF hW h | exact va_Nw.warmM hW h | exact absurd hn Bool.false_ne_true | (rename_i ty; cases ty <;> first | exact va_AO.moved hW.alike h | exact absurd hn Bool.false_ne_true)
-- ===== THE LAYER: an abstract memory, and the machine's steps over it =====
/-- a memory: cells by address; how many cells the heap has; how many slots were taken so far -/
abbrev gM : Type := (Nat → Option va_E) × Nat × Nat
/-- what stays in a run: D; the number of each kind of array; the first address that is ours; the script (address, length, ints); addresses of the static tables -/
abbrev gG : Type := va_G × (Nat → ClassId) × Nat × Nat × Nat × (Nat → Int32) × (Nat → Nat)
abbrev gL : Type := List (Nat × Value)
/-- a frame's state: place, locals, operand stack, memory -/
abbrev gS : Type := Nat × gL × List Value × gM
/-- a method: name, bytes, locals, what it returns -/
abbrev gY : Type := MethodName × ByteArray × Nat × Option FieldType
def gRd (M : gM) (a : Nat) : Option va_E := M.1 a
def gWr (M : gM) (a : Nat) (e : va_E) : gM := (fun q => if q = a then some e else M.1 q, M.2)
def gNw (M : gM) (e : va_E) (k : Nat) : gM := (fun q => if q = M.2.1 then some e else M.1 q, M.2.1 + 1, M.2.2 + k)
theorem gRd_s (M : gM) (a : Nat) (e : va_E) : gRd (gWr M a e) a = some e := if_pos rfl
theorem gRd_n (M : gM) {a b : Nat} (e : va_E) (h : b ≠ a) : gRd (gWr M a e) b = gRd M b := if_neg h
theorem gRd_ns (M : gM) (e : va_E) (k : Nat) : gRd (gNw M e k) M.2.1 = some e := if_pos rfl
theorem gRd_nn (M : gM) {b : Nat} (e : va_E) (k : Nat) (h : b ≠ M.2.1) : gRd (gNw M e k) b = gRd M b := if_neg h
theorem gM_ext {M N : gM} (h : ∀ q, gRd M q = gRd N q) (h2 : M.2 = N.2) : M = N := Prod.ext (funext h) h2
theorem gWr_wr (M : gM) (a : Nat) (e f : va_E) : gWr (gWr M a e) a f = gWr M a f := by
  refine gM_ext (fun q => ?_) rfl
  by_cases h : q = a
  · subst h; rw [gRd_s, gRd_s]
  · rw [gRd_n _ _ h, gRd_n _ _ h, gRd_n _ _ h]
theorem gWr_cm (M : gM) {a b : Nat} (e f : va_E) (h : a ≠ b) : gWr (gWr M a e) b f = gWr (gWr M b f) a e := by
  refine gM_ext (fun q => ?_) rfl
  by_cases h1 : q = a
  · subst h1; rw [gRd_n _ _ h, gRd_s, gRd_s]
  · by_cases h2 : q = b
    · subst h2; rw [gRd_s, gRd_n _ _ h1, gRd_s]
    · rw [gRd_n _ _ h2, gRd_n _ _ h1, gRd_n _ _ h1, gRd_n _ _ h2]
theorem gWr_id {M : gM} {a : Nat} {e : va_E} (h : gRd M a = some e) : gWr M a e = M := by
  refine gM_ext (fun q => ?_) rfl
  by_cases h1 : q = a
  · subst h1; rw [gRd_s, h]
  · rw [gRd_n _ _ h1]
theorem gNe {M : gM} {a b : Nat} {x : ClassId × vp_A} {o : Nat × List Value} (h1 : gRd M a = some (.inr o)) (h2 : gRd M b = some (.inl x)) : a ≠ b := fun e => by
  rw [e, h2] at h1; cases h1
theorem gNeC {M : gM} {a b : Nat} {o o2 : Nat × List Value} (h1 : gRd M a = some (.inr o)) (h2 : gRd M b = some (.inr o2)) (h : o.1 ≠ o2.1) : a ≠ b := fun e => by
  rw [e, h2] at h1; cases h1; exact h rfl
-- the tables
def gArr (G : gG) (U : State) : Prop := ∀ (i : Nat) (ty : FieldType), gTys[i]? = some ty → ArrOfT U (G.2.1 i) ty ∧ va_RA U (G.2.1 i) ty
def gT (G : gG) (U : State) : Prop :=
  (∀ w ∈ gTB, ∀ a : Array Value, w.before a U = true) ∧ (∀ w ∈ gNW, va_Nw w U) ∧
  (∀ (c : Nat) (q : vw_C), classes[c]? = some q → u_Kn U q.1 q.2.1 q.2.2 (G.1.1 c) (G.1.2 c)) ∧ gArr G U
theorem gT.moved {G : gG} {s U : State} (hW : s.WarmedH U.vm) (h : gT G s) : gT G U :=
  ⟨fun w hw a => word_at hW (gTB_good w hw) (h.1 w hw #[]), fun w hw => gNW_moved w hw hW (h.2.1 w hw), fun c q hq => u_Kn_moved hW.alike (h.2.2.1 c q hq), fun i ty hi => ⟨arrOfT_moved hW.alike (h.2.2.2 i ty hi).1, (h.2.2.2 i ty hi).2.moved hW.alike⟩⟩
theorem gT.K {G : gG} {s : State} (h : gT G s) : va_K G.1 classes [] s := ⟨h.2.2.1, fun k q hk => by simp at hk⟩
def gA (G : gG) : Nat → Prop := fun q => G.2.2.1 ≤ q
-- script and static tables
def gSn (i : Nat) : String := if i = 0 then "FIRST_VALUES" else if i = 1 then "LEAST_VALUES" else "MOST_VALUES"
def gSv (i j : Nat) : Int32 := ((([[60, 200, 10, 50, 0], [10, 0, 0, 0, 0], [400, 10000, 100, 200, 10000]] : List (List Int32)).getD i []).getD j 0)
def gZ (G : gG) (U : State) (H : Heap) : Prop := va_X G.2.2.2.1 G.2.2.2.2.1 G.2.2.2.2.2.1 U H ∧ G.2.2.2.1 < G.2.2.1 ∧ G.2.2.2.1 < H.size ∧
  ∀ i, i < 3 → va_Z "ParagraphSetter" (gSn i) "[I" (.ref (G.2.2.2.2.2.2 i)) (gA G) U H ∧ va_T .int (G.2.2.2.2.2.2 i) 5 (fun j => .int (gSv i j)) (gA G) U H
theorem gZ.moved {G : gG} {u U : State} {H : Heap} (hvm : u.vm.Alike U.vm) (h : gZ G u H) : gZ G U H :=
  ⟨h.1.moved hvm, h.2.1, h.2.2.1, fun i hi => ⟨(h.2.2.2 i hi).1.moved hvm, (h.2.2.2 i hi).2.moved hvm⟩⟩
theorem gZ.kept {G : gG} {U : State} {H H1 : Heap} (h : gZ G U H) (hq : ∀ a : Nat, a < H.size → ¬ gA G a → H1[a]? = H[a]?) : gZ G U H1 := by
  have hb : H1[G.2.2.2.1]? = H[G.2.2.2.1]? := hq _ h.2.2.1 (fun q => absurd (Nat.lt_of_lt_of_le h.2.1 q) (Nat.lt_irrefl _))
  have hx := h.1.kept hb
  refine ⟨hx, h.2.1, ?_, fun i hi => ⟨(h.2.2.2 i hi).1.kept hq, (h.2.2.2 i hi).2.kept hq⟩⟩
  obtain ⟨scr, h1, -⟩ := hx
  exact (Array.getElem?_eq_some_iff.mp h1).1
-- memory and heap
def gR (G : gG) (M : gM) (H : Heap) : Prop := (∀ (a : Nat) (e : va_E), M.1 a = some e → G.2.2.1 ≤ a ∧ va_at G.1 classes (a, e) H) ∧ H.size = M.2.1
theorem gR.at {G : gG} {M : gM} {H : Heap} (h : gR G M H) {a : Nat} {e : va_E} (ha : gRd M a = some e) : va_at G.1 classes (a, e) H := (h.1 a e ha).2
theorem gR.lo {G : gG} {M : gM} {H : Heap} (h : gR G M H) {a : Nat} {e : va_E} (ha : gRd M a = some e) : gA G a := (h.1 a e ha).1
theorem gR.set {G : gG} {M : gM} {H H1 : Heap} (h : gR G M H) {a : Nat} {e0 e : va_E} (ha : gRd M a = some e0) (he : va_at G.1 classes (a, e) H1) (z : H1.size = H.size) (oq : ∀ q : Nat, q ≠ a → H1[q]? = H[q]?) : gR G (gWr M a e) H1 := by
  refine ⟨fun b f hb => ?_, z.trans h.2⟩
  by_cases hba : b = a
  · subst hba
    have : f = e := by
      have h2 : gRd (gWr M b e) b = some f := hb
      rw [gRd_s] at h2; exact (Option.some.inj h2).symm
    subst this
    exact ⟨(h.1 b e0 ha).1, he⟩
  · have h2 : gRd M b = some f := by
      have h3 : gRd (gWr M a e) b = some f := hb
      rw [gRd_n _ _ hba] at h3; exact h3
    exact ⟨(h.1 b f h2).1, (h.1 b f h2).2.kept (oq b hba)⟩
theorem gR.push {G : gG} {M : gM} {H H1 : Heap} (h : gR G M H) {e : va_E} {k : Nat} (hb0 : G.2.2.1 ≤ H.size) (he : va_at G.1 classes (H.size, e) H1) (z : H1.size = H.size + 1) (oq : ∀ q : Nat, q < H.size → H1[q]? = H[q]?) : gR G (gNw M e k) H1 := by
  refine ⟨fun b f hb => ?_, by rw [z, h.2]; rfl⟩
  by_cases hba : b = M.2.1
  · subst hba
    have : f = e := by
      have h2 : gRd (gNw M e k) M.2.1 = some f := hb
      rw [gRd_ns] at h2; exact (Option.some.inj h2).symm
    subst this
    rw [← h.2]
    exact ⟨hb0, he⟩
  · have h2 : gRd M b = some f := by
      have h3 : gRd (gNw M e k) b = some f := hb
      rw [gRd_nn _ _ _ hba] at h3; exact h3
    have h4 := (h.1 b f h2).2
    exact ⟨(h.1 b f h2).1, h4.kept (oq b h4.lt)⟩
/-- what a frame of the method k stands in: the machine, the code, the tables, the script and the static tables, room for d frames above it -/
def gK (G : gG) (k : gY) (d : Nat) (p : Program) (R : Room) (s : State) (m : MethodId) (meth : Method) (c : Code) : Prop :=
  p.tables.exec = Jvm.exec ∧ c.code = k.2.1 ∧ c.maxLocals = k.2.2.1 ∧ s.vm.findClass k.1.cls = some m.cls ∧ meth.name = k.1.name ∧ gT G s ∧ gZ G s s.heap ∧ G.2.2.1 ≤ s.heap.size ∧ d ≤ R.frames ∧ 40 * d ≤ R.locals
def gX (G : gG) (k : gY) (p : Program) (l : Launch) (e : Env) (R : Room) (s : State) (m : MethodId) (args : Array Value) (below : List Frame) (meth : Method) (c : Code) (u0 : Nat) (Q : State → Prop) (S : gS) : Prop :=
  ∀ (H : Heap) (locs : List Loc) (ls : Array Slot), gR G S.2.2.2 H → va_S (gA G) s.heap H locs → lv_has ls k.2.2.1 S.2.1 →
    W p l e R s m args below meth c H locs (S.2.2.2.2.1 - s.heap.size) (S.2.2.2.2.2 - u0) Q (F0 m S.1 ls S.2.2.1)
/-- from S the frame comes to S' -/
def Go (G : gG) (k : gY) (d : Nat) (S S' : gS) : Prop :=
  (S.2.2.2.2.1 ≤ S'.2.2.2.2.1 ∧ S.2.2.2.2.2 ≤ S'.2.2.2.2.2) ∧
  ∀ (p : Program) (l : Launch) (e : Env) (R : Room) (s : State) (m : MethodId) (args : Array Value) (below : List Frame) (meth : Method) (c : Code) (u0 : Nat) (Q : State → Prop), gK G k d p R s m meth c → s.heap.size ≤ S.2.2.2.2.1 → u0 ≤ S.2.2.2.2.2 →
    S'.2.2.2.2.1 ≤ s.heap.size + R.cells → S'.2.2.2.2.2 ≤ u0 + R.slots → gX G k p l e R s m args below meth c u0 Q S' → gX G k p l e R s m args below meth c u0 Q S
theorem Go.rf {G : gG} {k : gY} {d : Nat} {S : gS} : Go G k d S S := ⟨⟨Nat.le_refl _, Nat.le_refl _⟩, fun _ _ _ _ _ _ _ _ _ _ _ _ _ _ _ _ _ h => h⟩
theorem Go.tr {G : gG} {k : gY} {d : Nat} {S S1 S2 : gS} (h1 : Go G k d S S1) (h2 : Go G k d S1 S2) : Go G k d S S2 := by
  obtain ⟨⟨a1, a2⟩, f1⟩ := h1
  obtain ⟨⟨b1, b2⟩, f2⟩ := h2
  refine ⟨⟨Nat.le_trans a1 b1, Nat.le_trans a2 b2⟩, ?_⟩
  intro p l e R s m args below meth c u0 Q hK h3 h4 h5 h6 hX
  exact f1 p l e R s m args below meth c u0 Q hK h3 h4 (Nat.le_trans b1 h5) (Nat.le_trans b2 h6) (f2 p l e R s m args below meth c u0 Q hK (Nat.le_trans h3 a1) (Nat.le_trans h4 a2) h5 h6 hX)
theorem Go.up {G : gG} {k : gY} {d d' : Nat} {S S' : gS} (h : Go G k d S S') (hd : d ≤ d') : Go G k d' S S' := by
  refine ⟨h.1, ?_⟩
  intro p l e R s m args below meth c u0 Q hK
  obtain ⟨k1, k2, k3, k4, k5, k6, k7, k8, k9, k10⟩ := hK
  exact h.2 p l e R s m args below meth c u0 Q ⟨k1, k2, k3, k4, k5, k6, k7, k8, Nat.le_trans hd k9, by omega⟩
theorem Go.eq {G : gG} {k : gY} {d : Nat} {S S1 S' : gS} (e : S = S1) (h : Go G k d S1 S') : Go G k d S S' := e ▸ h
theorem Go.to {G : gG} {k : gY} {d : Nat} {S S1 S' : gS} (e : S1 = S') (h : Go G k d S S1) : Go G k d S S' := e ▸ h
/-- a step that touches neither memory nor locals -/
theorem Go.pure {G : gG} {k : gY} {d pc pc' : Nat} {lv : gL} {st st' : List Value} {M : gM}
    (h : ∀ (p : Program) (l : Launch) (e : Env) (R : Room) (s : State) (m : MethodId) (args : Array Value) (below : List Frame) (meth : Method) (c : Code) (H : Heap) (locs : List Loc) (cells slots : Nat) (Q : State → Prop) (ls : Array Slot), gK G k d p R s m meth c → va_S (gA G) s.heap H locs → gR G M H → cells ≤ R.cells → slots ≤ R.slots → lv_has ls k.2.2.1 lv → W p l e R s m args below meth c H locs cells slots Q (F0 m pc' ls st') → W p l e R s m args below meth c H locs cells slots Q (F0 m pc ls st)) :
    Go G k d (pc, lv, st, M) (pc', lv, st', M) := by
  refine ⟨⟨Nat.le_refl _, Nat.le_refl _⟩, ?_⟩
  intro p l e R s m args below meth c u0 Q hK h3 h4 h5 h6 hX H locs ls hR hS hl
  dsimp only at h3 h4 h5 h6
  exact h p l e R s m args below meth c H locs _ _ Q ls hK hS hR (by dsimp only; omega) (by dsimp only; omega) hl (hX H locs ls hR hS hl)
/-- a step that changes the locals alone -/
theorem Go.loc {G : gG} {k : gY} {d pc pc' : Nat} {lv lv' : gL} {st st' : List Value} {M : gM}
    (h : ∀ (p : Program) (l : Launch) (e : Env) (R : Room) (s : State) (m : MethodId) (args : Array Value) (below : List Frame) (meth : Method) (c : Code) (H : Heap) (locs : List Loc) (cells slots : Nat) (Q : State → Prop) (ls : Array Slot), gK G k d p R s m meth c → lv_has ls k.2.2.1 lv → (∀ ls' : Array Slot, lv_has ls' k.2.2.1 lv' → W p l e R s m args below meth c H locs cells slots Q (F0 m pc' ls' st')) → W p l e R s m args below meth c H locs cells slots Q (F0 m pc ls st)) :
    Go G k d (pc, lv, st, M) (pc', lv', st', M) := by
  refine ⟨⟨Nat.le_refl _, Nat.le_refl _⟩, ?_⟩
  intro p l e R s m args below meth c u0 Q hK h3 h4 h5 h6 hX H locs ls hR hS hl
  exact h p l e R s m args below meth c H locs _ _ Q ls hK hl (fun ls' hl' => hX H locs ls' hR hS hl')
/-- fewer locals, in any order -/
theorem Go.sub {G : gG} {k : gY} {d pc : Nat} {lv : gL} (lv' : gL) {st : List Value} {M : gM} (h : ∀ q ∈ lv', q ∈ lv) : Go G k d (pc, lv, st, M) (pc, lv', st, M) := by
  refine ⟨⟨Nat.le_refl _, Nat.le_refl _⟩, ?_⟩
  intro p l e R s m args below meth c u0 Q hK h3 h4 h5 h6 hX H locs ls hR hS hl
  exact hX H locs ls hR hS ⟨hl.1, hl.2.1, fun q hq => hl.2.2 q (h q hq)⟩
end
section
-- ===== rows: one instruction each =====
section GROWS
variable {G : gG} {k : gY} {d pc : Nat} {lv : gL} {st : List Value} {M : gM}
theorem go_iconst {n : Int} {v : Int32} (hdg : decode k.2.1 pc = .ok (.iconst n, 1)) (hv : Int32.ofInt n = v) : Go G k d (pc, lv, st, M) (pc + 1, lv, .int v :: st, M) := Go.pure (fun p l e R s m args below meth c H locs cells slots Q ls hK hS hR hc hs hl w => lv_iconst hK.1 hK.2.1 hdg hv w)
theorem go_bipush {n : Int} {v : Int32} (hdg : decode k.2.1 pc = .ok (.bipush n, 2)) (hv : (Int8.ofInt n).toInt32 = v) : Go G k d (pc, lv, st, M) (pc + 2, lv, .int v :: st, M) := Go.pure (fun p l e R s m args below meth c H locs cells slots Q ls hK hS hR hc hs hl w => lv_bipush hK.1 hK.2.1 hdg hv w)
theorem go_sipush {n : Int} {v : Int32} (hdg : decode k.2.1 pc = .ok (.sipush n, 3)) (hv : (Int16.ofInt n).toInt32 = v) : Go G k d (pc, lv, st, M) (pc + 3, lv, .int v :: st, M) := Go.pure (fun p l e R s m args below meth c H locs cells slots Q ls hK hS hR hc hs hl w => lv_sipush hK.1 hK.2.1 hdg hv w)
theorem go_lconst {n : Fin 2} {v : Int64} (hdg : decode k.2.1 pc = .ok (.lconst n, 1)) (hv : Int64.ofNat (n : Nat) = v) : Go G k d (pc, lv, st, M) (pc + 1, lv, .long v :: st, M) := Go.pure (fun p l e R s m args below meth c H locs cells slots Q ls hK hS hR hc hs hl w => lv_lconst hK.1 hK.2.1 hdg hv w)
theorem go_null (hdg : decode k.2.1 pc = .ok (.aconst_null, 1)) : Go G k d (pc, lv, st, M) (pc + 1, lv, .null :: st, M) := Go.pure (fun p l e R s m args below meth c H locs cells slots Q ls hK hS hR hc hs hl w => lv_null hK.1 hK.2.1 hdg w)
theorem go_iload_n {j : Fin 4} {i : Nat} {x : Int32} (hdg : decode k.2.1 pc = .ok (.iload_n j, 1)) (hi : (j : Nat) = i) (n : Nat) (hn : lv[n]? = some (i, .int x)) : Go G k d (pc, lv, st, M) (pc + 1, lv, .int x :: st, M) := Go.pure (fun p l e R s m args below meth c H locs cells slots Q ls hK hS hR hc hs hl w => lv_iload_n hK.1 hK.2.1 hdg hi (lv_at hl n hn) w)
theorem go_iload {i : Nat} {x : Int32} (hdg : decode k.2.1 pc = .ok (.iload i, 2)) (n : Nat) (hn : lv[n]? = some (i, .int x)) : Go G k d (pc, lv, st, M) (pc + 2, lv, .int x :: st, M) := Go.pure (fun p l e R s m args below meth c H locs cells slots Q ls hK hS hR hc hs hl w => lv_iload hK.1 hK.2.1 hdg (lv_at hl n hn) w)
theorem go_lload_n {j : Fin 4} {i : Nat} {x : Int64} (hdg : decode k.2.1 pc = .ok (.lload_n j, 1)) (hi : (j : Nat) = i) (n : Nat) (hn : lv[n]? = some (i, .long x)) : Go G k d (pc, lv, st, M) (pc + 1, lv, .long x :: st, M) := Go.pure (fun p l e R s m args below meth c H locs cells slots Q ls hK hS hR hc hs hl w => lv_lload_n hK.1 hK.2.1 hdg hi (lv_at hl n hn) w)
theorem go_lload {i : Nat} {x : Int64} (hdg : decode k.2.1 pc = .ok (.lload i, 2)) (n : Nat) (hn : lv[n]? = some (i, .long x)) : Go G k d (pc, lv, st, M) (pc + 2, lv, .long x :: st, M) := Go.pure (fun p l e R s m args below meth c H locs cells slots Q ls hK hS hR hc hs hl w => lv_lload hK.1 hK.2.1 hdg (lv_at hl n hn) w)
theorem go_aload_n {j : Fin 4} {i : Nat} {x : Nat} (hdg : decode k.2.1 pc = .ok (.aload_n j, 1)) (hi : (j : Nat) = i) (n : Nat) (hn : lv[n]? = some (i, .ref x)) : Go G k d (pc, lv, st, M) (pc + 1, lv, .ref x :: st, M) := Go.pure (fun p l e R s m args below meth c H locs cells slots Q ls hK hS hR hc hs hl w => lv_aload_n hK.1 hK.2.1 hdg hi (lv_at hl n hn) w)
theorem go_aload {i : Nat} {x : Nat} (hdg : decode k.2.1 pc = .ok (.aload i, 2)) (n : Nat) (hn : lv[n]? = some (i, .ref x)) : Go G k d (pc, lv, st, M) (pc + 2, lv, .ref x :: st, M) := Go.pure (fun p l e R s m args below meth c H locs cells slots Q ls hK hS hR hc hs hl w => lv_aload hK.1 hK.2.1 hdg (lv_at hl n hn) w)
theorem go_aload_nN {j : Fin 4} {i : Nat} (hdg : decode k.2.1 pc = .ok (.aload_n j, 1)) (hi : (j : Nat) = i) (n : Nat) (hn : lv[n]? = some (i, .null)) : Go G k d (pc, lv, st, M) (pc + 1, lv, .null :: st, M) := Go.pure (fun p l e R s m args below meth c H locs cells slots Q ls hK hS hR hc hs hl w => lv_aload_nN hK.1 hK.2.1 hdg hi (lv_at hl n hn) w)
theorem go_aloadN {i : Nat} (hdg : decode k.2.1 pc = .ok (.aload i, 2)) (n : Nat) (hn : lv[n]? = some (i, .null)) : Go G k d (pc, lv, st, M) (pc + 2, lv, .null :: st, M) := Go.pure (fun p l e R s m args below meth c H locs cells slots Q ls hK hS hR hc hs hl w => lv_aloadN hK.1 hK.2.1 hdg (lv_at hl n hn) w)
theorem go_iadd {x y : Int32} (hdg : decode k.2.1 pc = .ok (.iadd, 1)) : Go G k d (pc, lv, .int y :: .int x :: st, M) (pc + 1, lv, .int (x + y) :: st, M) := Go.pure (fun p l e R s m args below meth c H locs cells slots Q ls hK hS hR hc hs hl w => lv_iadd hK.1 hK.2.1 hdg w)
theorem go_isub {x y : Int32} (hdg : decode k.2.1 pc = .ok (.isub, 1)) : Go G k d (pc, lv, .int y :: .int x :: st, M) (pc + 1, lv, .int (x - y) :: st, M) := Go.pure (fun p l e R s m args below meth c H locs cells slots Q ls hK hS hR hc hs hl w => lv_isub hK.1 hK.2.1 hdg w)
theorem go_imul {x y : Int32} (hdg : decode k.2.1 pc = .ok (.imul, 1)) : Go G k d (pc, lv, .int y :: .int x :: st, M) (pc + 1, lv, .int (x * y) :: st, M) := Go.pure (fun p l e R s m args below meth c H locs cells slots Q ls hK hS hR hc hs hl w => lv_imul hK.1 hK.2.1 hdg w)
theorem go_iand {x y : Int32} (hdg : decode k.2.1 pc = .ok (.iand, 1)) : Go G k d (pc, lv, .int y :: .int x :: st, M) (pc + 1, lv, .int (x &&& y) :: st, M) := Go.pure (fun p l e R s m args below meth c H locs cells slots Q ls hK hS hR hc hs hl w => lv_iand hK.1 hK.2.1 hdg w)
theorem go_ior {x y : Int32} (hdg : decode k.2.1 pc = .ok (.ior, 1)) : Go G k d (pc, lv, .int y :: .int x :: st, M) (pc + 1, lv, .int (x ||| y) :: st, M) := Go.pure (fun p l e R s m args below meth c H locs cells slots Q ls hK hS hR hc hs hl w => lv_ior hK.1 hK.2.1 hdg w)
theorem go_ixor {x y : Int32} (hdg : decode k.2.1 pc = .ok (.ixor, 1)) : Go G k d (pc, lv, .int y :: .int x :: st, M) (pc + 1, lv, .int (x ^^^ y) :: st, M) := Go.pure (fun p l e R s m args below meth c H locs cells slots Q ls hK hS hR hc hs hl w => lv_ixor hK.1 hK.2.1 hdg w)
theorem go_ladd {x y : Int64} (hdg : decode k.2.1 pc = .ok (.ladd, 1)) : Go G k d (pc, lv, .long y :: .long x :: st, M) (pc + 1, lv, .long (x + y) :: st, M) := Go.pure (fun p l e R s m args below meth c H locs cells slots Q ls hK hS hR hc hs hl w => lv_ladd hK.1 hK.2.1 hdg w)
theorem go_lsub {x y : Int64} (hdg : decode k.2.1 pc = .ok (.lsub, 1)) : Go G k d (pc, lv, .long y :: .long x :: st, M) (pc + 1, lv, .long (x - y) :: st, M) := Go.pure (fun p l e R s m args below meth c H locs cells slots Q ls hK hS hR hc hs hl w => lv_lsub hK.1 hK.2.1 hdg w)
theorem go_lmul {x y : Int64} (hdg : decode k.2.1 pc = .ok (.lmul, 1)) : Go G k d (pc, lv, .long y :: .long x :: st, M) (pc + 1, lv, .long (x * y) :: st, M) := Go.pure (fun p l e R s m args below meth c H locs cells slots Q ls hK hS hR hc hs hl w => lv_lmul hK.1 hK.2.1 hdg w)
theorem go_idiv {x y : Int32} (hdg : decode k.2.1 pc = .ok (.idiv, 1)) (hne : ¬ y = 0) : Go G k d (pc, lv, .int y :: .int x :: st, M) (pc + 1, lv, .int (x / y) :: st, M) := Go.pure (fun p l e R s m args below meth c H locs cells slots Q ls hK hS hR hc hs hl w => lv_idiv hK.1 hK.2.1 hdg hne w)
theorem go_irem {x y : Int32} (hdg : decode k.2.1 pc = .ok (.irem, 1)) (hne : ¬ y = 0) : Go G k d (pc, lv, .int y :: .int x :: st, M) (pc + 1, lv, .int (x - x / y * y) :: st, M) := Go.pure (fun p l e R s m args below meth c H locs cells slots Q ls hK hS hR hc hs hl w => lv_irem hK.1 hK.2.1 hdg hne w)
theorem go_ldiv {x y : Int64} (hdg : decode k.2.1 pc = .ok (.ldiv, 1)) (hne : ¬ y = 0) : Go G k d (pc, lv, .long y :: .long x :: st, M) (pc + 1, lv, .long (x / y) :: st, M) := Go.pure (fun p l e R s m args below meth c H locs cells slots Q ls hK hS hR hc hs hl w => lv_ldiv hK.1 hK.2.1 hdg hne w)
theorem go_lrem {x y : Int64} (hdg : decode k.2.1 pc = .ok (.lrem, 1)) (hne : ¬ y = 0) : Go G k d (pc, lv, .long y :: .long x :: st, M) (pc + 1, lv, .long (x - x / y * y) :: st, M) := Go.pure (fun p l e R s m args below meth c H locs cells slots Q ls hK hS hR hc hs hl w => lv_lrem hK.1 hK.2.1 hdg hne w)
theorem go_ineg {x : Int32} (hdg : decode k.2.1 pc = .ok (.ineg, 1)) : Go G k d (pc, lv, .int x :: st, M) (pc + 1, lv, .int (-x) :: st, M) := Go.pure (fun p l e R s m args below meth c H locs cells slots Q ls hK hS hR hc hs hl w => lv_ineg hK.1 hK.2.1 hdg w)
theorem go_lneg {x : Int64} (hdg : decode k.2.1 pc = .ok (.lneg, 1)) : Go G k d (pc, lv, .long x :: st, M) (pc + 1, lv, .long (-x) :: st, M) := Go.pure (fun p l e R s m args below meth c H locs cells slots Q ls hK hS hR hc hs hl w => lv_lneg hK.1 hK.2.1 hdg w)
theorem go_ishl {x y : Int32} (hdg : decode k.2.1 pc = .ok (.ishl, 1)) : Go G k d (pc, lv, .int y :: .int x :: st, M) (pc + 1, lv, .int (x <<< (y &&& 31)) :: st, M) := Go.pure (fun p l e R s m args below meth c H locs cells slots Q ls hK hS hR hc hs hl w => lv_ishl hK.1 hK.2.1 hdg w)
theorem go_ishr {x y : Int32} (hdg : decode k.2.1 pc = .ok (.ishr, 1)) : Go G k d (pc, lv, .int y :: .int x :: st, M) (pc + 1, lv, .int (x >>> (y &&& 31)) :: st, M) := Go.pure (fun p l e R s m args below meth c H locs cells slots Q ls hK hS hR hc hs hl w => lv_ishr hK.1 hK.2.1 hdg w)
theorem go_i2l {x : Int32} (hdg : decode k.2.1 pc = .ok (.i2l, 1)) : Go G k d (pc, lv, .int x :: st, M) (pc + 1, lv, .long x.toInt64 :: st, M) := Go.pure (fun p l e R s m args below meth c H locs cells slots Q ls hK hS hR hc hs hl w => lv_i2l hK.1 hK.2.1 hdg rfl w)
theorem go_l2i {x : Int64} (hdg : decode k.2.1 pc = .ok (.l2i, 1)) : Go G k d (pc, lv, .long x :: st, M) (pc + 1, lv, .int x.toInt32 :: st, M) := Go.pure (fun p l e R s m args below meth c H locs cells slots Q ls hK hS hR hc hs hl w => lv_l2i hK.1 hK.2.1 hdg rfl w)
theorem go_lcmp {x y : Int64} (hdg : decode k.2.1 pc = .ok (.lcmp, 1)) : Go G k d (pc, lv, .long y :: .long x :: st, M) (pc + 1, lv, .int (lg_cmp x y) :: st, M) := Go.pure (fun p l e R s m args below meth c H locs cells slots Q ls hK hS hR hc hs hl w => W.lcmp hK.1 hK.2.1 hdg w)
theorem go_dup {v : Value} (hdg : decode k.2.1 pc = .ok (.dup, 1)) (h1 : v.category = 1) : Go G k d (pc, lv, v :: st, M) (pc + 1, lv, v :: v :: st, M) := Go.pure (fun p l e R s m args below meth c H locs cells slots Q ls hK hS hR hc hs hl w => lv_dup hK.1 hK.2.1 hdg h1 w)
theorem go_pop {v : Value} (hdg : decode k.2.1 pc = .ok (.pop, 1)) (h1 : v.category = 1) : Go G k d (pc, lv, v :: st, M) (pc + 1, lv, st, M) := Go.pure (fun p l e R s m args below meth c H locs cells slots Q ls hK hS hR hc hs hl w => lv_pop hK.1 hK.2.1 hdg h1 w)
theorem go_pop2 {v : Value} (hdg : decode k.2.1 pc = .ok (.pop2, 1)) (h1 : v.category = 2) : Go G k d (pc, lv, v :: st, M) (pc + 1, lv, st, M) := Go.pure (fun p l e R s m args below meth c H locs cells slots Q ls hK hS hR hc hs hl w => lv_pop2_2 hK.1 hK.2.1 hdg h1 w)
theorem go_dup_x1 {v u : Value} (hdg : decode k.2.1 pc = .ok (.dup_x1, 1)) (h1 : v.category = 1) (h2 : u.category = 1) : Go G k d (pc, lv, v :: u :: st, M) (pc + 1, lv, v :: u :: v :: st, M) := Go.pure (fun p l e R s m args below meth c H locs cells slots Q ls hK hS hR hc hs hl w => lv_dup_x1 hK.1 hK.2.1 hdg h1 h2 w)
theorem go_dup_x2 {v u t : Value} (hdg : decode k.2.1 pc = .ok (.dup_x2, 1)) (h1 : v.category = 1) (h2 : u.category = 1) (h3 : t.category = 1) : Go G k d (pc, lv, v :: u :: t :: st, M) (pc + 1, lv, v :: u :: t :: v :: st, M) := Go.pure (fun p l e R s m args below meth c H locs cells slots Q ls hK hS hR hc hs hl w => lv_dup_x2 hK.1 hK.2.1 hdg h1 h2 h3 w)
theorem go_dup2 {v u : Value} (hdg : decode k.2.1 pc = .ok (.dup2, 1)) (h1 : v.category = 1) (h2 : u.category = 1) : Go G k d (pc, lv, v :: u :: st, M) (pc + 1, lv, v :: u :: v :: u :: st, M) := Go.pure (fun p l e R s m args below meth c H locs cells slots Q ls hK hS hR hc hs hl w => lv_dup2_11 hK.1 hK.2.1 hdg h1 h2 w)
theorem go_if_eq_t {x : Int32} {off : Int} (tgt : Nat) (hdg : decode k.2.1 pc = .ok (.ifCond .eq off, 3)) (ht : (pc : Int) + off = (tgt : Int)) (h : x = 0) : Go G k d (pc, lv, .int x :: st, M) (tgt, lv, st, M) := Go.pure (fun p l e R s m args below meth c H locs cells slots Q ls hK hS hR hc hs hl w => lv_if_eq hK.1 hK.2.1 hdg ht (fun _ => w) (fun q => absurd h q))
theorem go_if_eq_f {x : Int32} {off : Int} (tgt : Nat) (hdg : decode k.2.1 pc = .ok (.ifCond .eq off, 3)) (ht : (pc : Int) + off = (tgt : Int)) (h : ¬ x = 0) : Go G k d (pc, lv, .int x :: st, M) (pc + 3, lv, st, M) := Go.pure (fun p l e R s m args below meth c H locs cells slots Q ls hK hS hR hc hs hl w => lv_if_eq hK.1 hK.2.1 hdg ht (fun q => absurd q h) (fun _ => w))
theorem go_icmp_eq_t {x y : Int32} {off : Int} (tgt : Nat) (hdg : decode k.2.1 pc = .ok (.if_icmp .eq off, 3)) (ht : (pc : Int) + off = (tgt : Int)) (h : x = y) : Go G k d (pc, lv, .int y :: .int x :: st, M) (tgt, lv, st, M) := Go.pure (fun p l e R s m args below meth c H locs cells slots Q ls hK hS hR hc hs hl w => lv_icmp_eq hK.1 hK.2.1 hdg ht (fun _ => w) (fun q => absurd h q))
theorem go_icmp_eq_f {x y : Int32} {off : Int} (tgt : Nat) (hdg : decode k.2.1 pc = .ok (.if_icmp .eq off, 3)) (ht : (pc : Int) + off = (tgt : Int)) (h : ¬ x = y) : Go G k d (pc, lv, .int y :: .int x :: st, M) (pc + 3, lv, st, M) := Go.pure (fun p l e R s m args below meth c H locs cells slots Q ls hK hS hR hc hs hl w => lv_icmp_eq hK.1 hK.2.1 hdg ht (fun q => absurd q h) (fun _ => w))
theorem go_if_ne_t {x : Int32} {off : Int} (tgt : Nat) (hdg : decode k.2.1 pc = .ok (.ifCond .ne off, 3)) (ht : (pc : Int) + off = (tgt : Int)) (h : ¬ x = 0) : Go G k d (pc, lv, .int x :: st, M) (tgt, lv, st, M) := Go.pure (fun p l e R s m args below meth c H locs cells slots Q ls hK hS hR hc hs hl w => lv_if_ne hK.1 hK.2.1 hdg ht (fun _ => w) (fun q => absurd q h))
theorem go_if_ne_f {x : Int32} {off : Int} (tgt : Nat) (hdg : decode k.2.1 pc = .ok (.ifCond .ne off, 3)) (ht : (pc : Int) + off = (tgt : Int)) (h : x = 0) : Go G k d (pc, lv, .int x :: st, M) (pc + 3, lv, st, M) := Go.pure (fun p l e R s m args below meth c H locs cells slots Q ls hK hS hR hc hs hl w => lv_if_ne hK.1 hK.2.1 hdg ht (fun q => absurd h q) (fun _ => w))
theorem go_icmp_ne_t {x y : Int32} {off : Int} (tgt : Nat) (hdg : decode k.2.1 pc = .ok (.if_icmp .ne off, 3)) (ht : (pc : Int) + off = (tgt : Int)) (h : ¬ x = y) : Go G k d (pc, lv, .int y :: .int x :: st, M) (tgt, lv, st, M) := Go.pure (fun p l e R s m args below meth c H locs cells slots Q ls hK hS hR hc hs hl w => lv_icmp_ne hK.1 hK.2.1 hdg ht (fun _ => w) (fun q => absurd q h))
theorem go_icmp_ne_f {x y : Int32} {off : Int} (tgt : Nat) (hdg : decode k.2.1 pc = .ok (.if_icmp .ne off, 3)) (ht : (pc : Int) + off = (tgt : Int)) (h : x = y) : Go G k d (pc, lv, .int y :: .int x :: st, M) (pc + 3, lv, st, M) := Go.pure (fun p l e R s m args below meth c H locs cells slots Q ls hK hS hR hc hs hl w => lv_icmp_ne hK.1 hK.2.1 hdg ht (fun q => absurd h q) (fun _ => w))
theorem go_if_lt_t {x : Int32} {off : Int} (tgt : Nat) (hdg : decode k.2.1 pc = .ok (.ifCond .lt off, 3)) (ht : (pc : Int) + off = (tgt : Int)) (h : x < 0) : Go G k d (pc, lv, .int x :: st, M) (tgt, lv, st, M) := Go.pure (fun p l e R s m args below meth c H locs cells slots Q ls hK hS hR hc hs hl w => lv_if_lt hK.1 hK.2.1 hdg ht (fun _ => w) (fun q => absurd h q))
theorem go_if_lt_f {x : Int32} {off : Int} (tgt : Nat) (hdg : decode k.2.1 pc = .ok (.ifCond .lt off, 3)) (ht : (pc : Int) + off = (tgt : Int)) (h : ¬ x < 0) : Go G k d (pc, lv, .int x :: st, M) (pc + 3, lv, st, M) := Go.pure (fun p l e R s m args below meth c H locs cells slots Q ls hK hS hR hc hs hl w => lv_if_lt hK.1 hK.2.1 hdg ht (fun q => absurd q h) (fun _ => w))
theorem go_icmp_lt_t {x y : Int32} {off : Int} (tgt : Nat) (hdg : decode k.2.1 pc = .ok (.if_icmp .lt off, 3)) (ht : (pc : Int) + off = (tgt : Int)) (h : x < y) : Go G k d (pc, lv, .int y :: .int x :: st, M) (tgt, lv, st, M) := Go.pure (fun p l e R s m args below meth c H locs cells slots Q ls hK hS hR hc hs hl w => lv_icmp_lt hK.1 hK.2.1 hdg ht (fun _ => w) (fun q => absurd h q))
theorem go_icmp_lt_f {x y : Int32} {off : Int} (tgt : Nat) (hdg : decode k.2.1 pc = .ok (.if_icmp .lt off, 3)) (ht : (pc : Int) + off = (tgt : Int)) (h : ¬ x < y) : Go G k d (pc, lv, .int y :: .int x :: st, M) (pc + 3, lv, st, M) := Go.pure (fun p l e R s m args below meth c H locs cells slots Q ls hK hS hR hc hs hl w => lv_icmp_lt hK.1 hK.2.1 hdg ht (fun q => absurd q h) (fun _ => w))
theorem go_if_ge_t {x : Int32} {off : Int} (tgt : Nat) (hdg : decode k.2.1 pc = .ok (.ifCond .ge off, 3)) (ht : (pc : Int) + off = (tgt : Int)) (h : 0 ≤ x) : Go G k d (pc, lv, .int x :: st, M) (tgt, lv, st, M) := Go.pure (fun p l e R s m args below meth c H locs cells slots Q ls hK hS hR hc hs hl w => lv_if_ge hK.1 hK.2.1 hdg ht (fun _ => w) (fun q => absurd h q))
theorem go_if_ge_f {x : Int32} {off : Int} (tgt : Nat) (hdg : decode k.2.1 pc = .ok (.ifCond .ge off, 3)) (ht : (pc : Int) + off = (tgt : Int)) (h : ¬ 0 ≤ x) : Go G k d (pc, lv, .int x :: st, M) (pc + 3, lv, st, M) := Go.pure (fun p l e R s m args below meth c H locs cells slots Q ls hK hS hR hc hs hl w => lv_if_ge hK.1 hK.2.1 hdg ht (fun q => absurd q h) (fun _ => w))
theorem go_icmp_ge_t {x y : Int32} {off : Int} (tgt : Nat) (hdg : decode k.2.1 pc = .ok (.if_icmp .ge off, 3)) (ht : (pc : Int) + off = (tgt : Int)) (h : y ≤ x) : Go G k d (pc, lv, .int y :: .int x :: st, M) (tgt, lv, st, M) := Go.pure (fun p l e R s m args below meth c H locs cells slots Q ls hK hS hR hc hs hl w => lv_icmp_ge hK.1 hK.2.1 hdg ht (fun _ => w) (fun q => absurd h q))
theorem go_icmp_ge_f {x y : Int32} {off : Int} (tgt : Nat) (hdg : decode k.2.1 pc = .ok (.if_icmp .ge off, 3)) (ht : (pc : Int) + off = (tgt : Int)) (h : ¬ y ≤ x) : Go G k d (pc, lv, .int y :: .int x :: st, M) (pc + 3, lv, st, M) := Go.pure (fun p l e R s m args below meth c H locs cells slots Q ls hK hS hR hc hs hl w => lv_icmp_ge hK.1 hK.2.1 hdg ht (fun q => absurd q h) (fun _ => w))
theorem go_if_gt_t {x : Int32} {off : Int} (tgt : Nat) (hdg : decode k.2.1 pc = .ok (.ifCond .gt off, 3)) (ht : (pc : Int) + off = (tgt : Int)) (h : 0 < x) : Go G k d (pc, lv, .int x :: st, M) (tgt, lv, st, M) := Go.pure (fun p l e R s m args below meth c H locs cells slots Q ls hK hS hR hc hs hl w => lv_if_gt hK.1 hK.2.1 hdg ht (fun _ => w) (fun q => absurd h q))
theorem go_if_gt_f {x : Int32} {off : Int} (tgt : Nat) (hdg : decode k.2.1 pc = .ok (.ifCond .gt off, 3)) (ht : (pc : Int) + off = (tgt : Int)) (h : ¬ 0 < x) : Go G k d (pc, lv, .int x :: st, M) (pc + 3, lv, st, M) := Go.pure (fun p l e R s m args below meth c H locs cells slots Q ls hK hS hR hc hs hl w => lv_if_gt hK.1 hK.2.1 hdg ht (fun q => absurd q h) (fun _ => w))
theorem go_icmp_gt_t {x y : Int32} {off : Int} (tgt : Nat) (hdg : decode k.2.1 pc = .ok (.if_icmp .gt off, 3)) (ht : (pc : Int) + off = (tgt : Int)) (h : y < x) : Go G k d (pc, lv, .int y :: .int x :: st, M) (tgt, lv, st, M) := Go.pure (fun p l e R s m args below meth c H locs cells slots Q ls hK hS hR hc hs hl w => lv_icmp_gt hK.1 hK.2.1 hdg ht (fun _ => w) (fun q => absurd h q))
theorem go_icmp_gt_f {x y : Int32} {off : Int} (tgt : Nat) (hdg : decode k.2.1 pc = .ok (.if_icmp .gt off, 3)) (ht : (pc : Int) + off = (tgt : Int)) (h : ¬ y < x) : Go G k d (pc, lv, .int y :: .int x :: st, M) (pc + 3, lv, st, M) := Go.pure (fun p l e R s m args below meth c H locs cells slots Q ls hK hS hR hc hs hl w => lv_icmp_gt hK.1 hK.2.1 hdg ht (fun q => absurd q h) (fun _ => w))
theorem go_if_le_t {x : Int32} {off : Int} (tgt : Nat) (hdg : decode k.2.1 pc = .ok (.ifCond .le off, 3)) (ht : (pc : Int) + off = (tgt : Int)) (h : x ≤ 0) : Go G k d (pc, lv, .int x :: st, M) (tgt, lv, st, M) := Go.pure (fun p l e R s m args below meth c H locs cells slots Q ls hK hS hR hc hs hl w => lv_if_le hK.1 hK.2.1 hdg ht (fun _ => w) (fun q => absurd h q))
theorem go_if_le_f {x : Int32} {off : Int} (tgt : Nat) (hdg : decode k.2.1 pc = .ok (.ifCond .le off, 3)) (ht : (pc : Int) + off = (tgt : Int)) (h : ¬ x ≤ 0) : Go G k d (pc, lv, .int x :: st, M) (pc + 3, lv, st, M) := Go.pure (fun p l e R s m args below meth c H locs cells slots Q ls hK hS hR hc hs hl w => lv_if_le hK.1 hK.2.1 hdg ht (fun q => absurd q h) (fun _ => w))
theorem go_icmp_le_t {x y : Int32} {off : Int} (tgt : Nat) (hdg : decode k.2.1 pc = .ok (.if_icmp .le off, 3)) (ht : (pc : Int) + off = (tgt : Int)) (h : x ≤ y) : Go G k d (pc, lv, .int y :: .int x :: st, M) (tgt, lv, st, M) := Go.pure (fun p l e R s m args below meth c H locs cells slots Q ls hK hS hR hc hs hl w => lv_icmp_le hK.1 hK.2.1 hdg ht (fun _ => w) (fun q => absurd h q))
theorem go_icmp_le_f {x y : Int32} {off : Int} (tgt : Nat) (hdg : decode k.2.1 pc = .ok (.if_icmp .le off, 3)) (ht : (pc : Int) + off = (tgt : Int)) (h : ¬ x ≤ y) : Go G k d (pc, lv, .int y :: .int x :: st, M) (pc + 3, lv, st, M) := Go.pure (fun p l e R s m args below meth c H locs cells slots Q ls hK hS hR hc hs hl w => lv_icmp_le hK.1 hK.2.1 hdg ht (fun q => absurd q h) (fun _ => w))
theorem go_goto {off : Int} (tgt : Nat) (hdg : decode k.2.1 pc = .ok (.goto off, 3)) (ht : (pc : Int) + off = (tgt : Int)) : Go G k d (pc, lv, st, M) (tgt, lv, st, M) := Go.pure (fun p l e R s m args below meth c H locs cells slots Q ls hK hS hR hc hs hl w => lv_goto hK.1 hK.2.1 hdg ht w)
theorem go_nn {x : Nat} {off : Int} (tgt : Nat) (hdg : decode k.2.1 pc = .ok (.ifnonnull off, 3)) (ht : (pc : Int) + off = (tgt : Int)) : Go G k d (pc, lv, .ref x :: st, M) (tgt, lv, st, M) := Go.pure (fun p l e R s m args below meth c H locs cells slots Q ls hK hS hR hc hs hl w => lv_ifnonnull hK.1 hK.2.1 hdg ht w)
theorem go_tableOut {dflt lo hi : Int} {offs : Array Int} {len : Nat} {x : Int32} (tgt : Nat) (hdg : decode k.2.1 pc = .ok (.tableswitch dflt lo hi offs, len)) (h : x.toInt < lo ∨ hi < x.toInt) (ht : (pc : Int) + dflt = (tgt : Int)) : Go G k d (pc, lv, .int x :: st, M) (tgt, lv, st, M) := Go.pure (fun p l e R s m args below meth c H locs cells slots Q ls hK hS hR hc hs hl w => lv_tableOut hK.1 hK.2.1 hdg h ht w)
theorem go_tableIn {dflt lo hi : Int} {offs : Array Int} {len : Nat} {x : Int32} {off : Int} (tgt : Nat) (hdg : decode k.2.1 pc = .ok (.tableswitch dflt lo hi offs, len)) (h1 : ¬ x.toInt < lo) (h2 : ¬ hi < x.toInt) (ho : offs[(x.toInt - lo).toNat]? = some off) (ht : (pc : Int) + off = (tgt : Int)) : Go G k d (pc, lv, .int x :: st, M) (tgt, lv, st, M) := Go.pure (fun p l e R s m args below meth c H locs cells slots Q ls hK hS hR hc hs hl w => lv_tableIn hK.1 hK.2.1 hdg h1 h2 ho ht w)
theorem go_lookup {dflt : Int} {ps : Array (Int × Int)} {len : Nat} {x : Int32} {off : Int} (tgt : Nat) (hdg : decode k.2.1 pc = .ok (.lookupswitch dflt ps, len)) (hp : (ps.toList.zip (ps.toList.drop 1)).all (fun (a, next) => a.1 < next.1) = true) (ho : Op.lookupswitch.offset ps.toList dflt x.toInt = off) (ht : (pc : Int) + off = (tgt : Int)) : Go G k d (pc, lv, .int x :: st, M) (tgt, lv, st, M) := Go.pure (fun p l e R s m args below meth c H locs cells slots Q ls hK hS hR hc hs hl w => lv_lookup hK.1 hK.2.1 hdg hp ho ht w)
theorem go_ldc {i : Nat} {v : Int32} (hdg : decode k.2.1 pc = .ok (.ldc i, 2)) (hw : Cond.constant k.1.cls i v ∈ gTB) : Go G k d (pc, lv, st, M) (pc + 2, lv, .int v :: st, M) := Go.pure (fun p l e R s m args below meth c H locs cells slots Q ls hK hS hR hc hs hl w => lv_ldc hK.1 hK.2.1 hK.2.2.2.1 (hK.2.2.2.2.2.1.1 _ hw _) hdg w)
theorem go_ldc2 {i : Nat} {v : Int64} (hdg : decode k.2.1 pc = .ok (.ldc2_w i, 3)) (hw : Cond.constantLong k.1.cls i v ∈ gTB) : Go G k d (pc, lv, st, M) (pc + 3, lv, .long v :: st, M) := Go.pure (fun p l e R s m args below meth c H locs cells slots Q ls hK hS hR hc hs hl w => lv_ldc2 hK.1 hK.2.1 hK.2.2.2.1 (hK.2.2.2.2.2.1.1 _ hw _) hdg w)
theorem go_istore_n {j : Fin 4} {i : Nat} {x : Int32} (lv' : gL) (hdg : decode k.2.1 pc = .ok (.istore_n j, 1)) (hi : (j : Nat) = i) (hn : i < k.2.2.1) (hl0 : (i, Value.int x) :: lv.filter (fun q => !(q.1 == i) && !(q.1 + 1 == i && q.2.category == 2)) = lv') : Go G k d (pc, lv, .int x :: st, M) (pc + 1, lv', st, M) := Go.loc (fun p l e R s m args below meth c H locs cells slots Q ls hK hl w => lv_istore_n hK.1 hK.2.1 hdg hi hl hn hl0 w)
theorem go_istore {i : Nat} {x : Int32} (lv' : gL) (hdg : decode k.2.1 pc = .ok (.istore i, 2)) (hn : i < k.2.2.1) (hl0 : (i, Value.int x) :: lv.filter (fun q => !(q.1 == i) && !(q.1 + 1 == i && q.2.category == 2)) = lv') : Go G k d (pc, lv, .int x :: st, M) (pc + 2, lv', st, M) := Go.loc (fun p l e R s m args below meth c H locs cells slots Q ls hK hl w => lv_istore hK.1 hK.2.1 hdg hl hn hl0 w)
theorem go_lstore_n {j : Fin 4} {i : Nat} {x : Int64} (lv' : gL) (hdg : decode k.2.1 pc = .ok (.lstore_n j, 1)) (hi : (j : Nat) = i) (hn : i + 1 < k.2.2.1) (hl0 : (i, Value.long x) :: lv.filter (fun q => !(q.1 == i) && (!(q.1 == i + 1) && !(q.1 + 1 == i && q.2.category == 2))) = lv') : Go G k d (pc, lv, .long x :: st, M) (pc + 1, lv', st, M) := Go.loc (fun p l e R s m args below meth c H locs cells slots Q ls hK hl w => lv_lstore_n hK.1 hK.2.1 hdg hi hl hn hl0 w)
theorem go_lstore {i : Nat} {x : Int64} (lv' : gL) (hdg : decode k.2.1 pc = .ok (.lstore i, 2)) (hn : i + 1 < k.2.2.1) (hl0 : (i, Value.long x) :: lv.filter (fun q => !(q.1 == i) && (!(q.1 == i + 1) && !(q.1 + 1 == i && q.2.category == 2))) = lv') : Go G k d (pc, lv, .long x :: st, M) (pc + 2, lv', st, M) := Go.loc (fun p l e R s m args below meth c H locs cells slots Q ls hK hl w => lv_lstore hK.1 hK.2.1 hdg hl hn hl0 w)
theorem go_astore_n {j : Fin 4} {i : Nat} {x : Nat} (lv' : gL) (hdg : decode k.2.1 pc = .ok (.astore_n j, 1)) (hi : (j : Nat) = i) (hn : i < k.2.2.1) (hl0 : (i, Value.ref x) :: lv.filter (fun q => !(q.1 == i) && !(q.1 + 1 == i && q.2.category == 2)) = lv') : Go G k d (pc, lv, .ref x :: st, M) (pc + 1, lv', st, M) := Go.loc (fun p l e R s m args below meth c H locs cells slots Q ls hK hl w => lv_astore_n hK.1 hK.2.1 hdg hi hl hn hl0 w)
theorem go_astore {i : Nat} {x : Nat} (lv' : gL) (hdg : decode k.2.1 pc = .ok (.astore i, 2)) (hn : i < k.2.2.1) (hl0 : (i, Value.ref x) :: lv.filter (fun q => !(q.1 == i) && !(q.1 + 1 == i && q.2.category == 2)) = lv') : Go G k d (pc, lv, .ref x :: st, M) (pc + 2, lv', st, M) := Go.loc (fun p l e R s m args below meth c H locs cells slots Q ls hK hl w => lv_astore hK.1 hK.2.1 hdg hl hn hl0 w)
theorem go_iinc {i n0 : Nat} {n : Int} {x v : Int32} (lv' : gL) (hdg : decode k.2.1 pc = .ok (.iinc i n, 3)) (hk : lv[n0]? = some (i, .int x)) (hv : x + Int32.ofInt n = v) (hn : i < k.2.2.1) (hl0 : (i, Value.int v) :: lv.filter (fun q => !(q.1 == i) && !(q.1 + 1 == i && q.2.category == 2)) = lv') : Go G k d (pc, lv, st, M) (pc + 3, lv', st, M) := Go.loc (fun p l e R s m args below meth c H locs cells slots Q ls hK hl w => lv_iinc hK.1 hK.2.1 hdg hl hk hv hn hl0 w)
theorem go_v {x y : Int32} (h : x = y) : Go G k d (pc, lv, .int x :: st, M) (pc, lv, .int y :: st, M) := Go.eq (by rw [h]) Go.rf
theorem go_vl {x y : Int64} (h : x = y) : Go G k d (pc, lv, .long x :: st, M) (pc, lv, .long y :: st, M) := Go.eq (by rw [h]) Go.rf
theorem go_m {M' : gM} (h : M = M') : Go G k d (pc, lv, st, M) (pc, lv, st, M') := Go.eq (by rw [h]) Go.rf
end GROWS
-- ===== rows that read and write the memory =====
/-- field number f of the objects of kind ci, as the code of own links it at idx -/
def gF (own : String) (idx ci f : Nat) : Prop := ∃ (C : String) (T : u_T) (N : Nat), classes[ci]? = some (C, T, N) ∧ f < N ∧ (T f).1 = C ∧ (∀ w ∈ u_ws C T N, w ∈ gTB) ∧
  (Cond.fieldLink own idx C (T f).2.1 (T f).2.2.1 ∈ gTB ∨ ∃ host : String, Cond.fieldLinkNest own idx C (T f).2.1 (T f).2.2.1 host ∈ gNW)
/-- what a store needs besides: the types, names apart, whether it is final -/
def gFt (ci f : Nat) (fin : Bool) (ty : FieldType) : Prop := ∃ (C : String) (T : u_T) (N : Nat) (ty0 : Nat → FieldType), classes[ci]? = some (C, T, N) ∧ (∀ k, k < N → parseFieldDescriptor (T k).2.2.1 = some (ty0 k)) ∧ (∀ a, a < N → ∀ b, b < N → a ≠ b → (T a).2.1 ≠ (T b).2.1) ∧ (T f).2.2.2 = fin ∧ parseFieldDescriptor (T f).2.2.1 = some ty
section GMEM
variable {G : gG} {k : gY} {d pc : Nat} {lv : gL} {st : List Value} {M : gM}
theorem go_get {idx ci f a : Nat} {fs : List Value} {v : Value} (hf : gF k.1.cls idx ci f) (hdg : decode k.2.1 pc = .ok (.getfield idx, 3)) (hr : gRd M a = some (.inr (ci, fs))) (hv : fs[f]? = some v) : Go G k d (pc, lv, .ref a :: st, M) (pc + 3, lv, v :: st, M) := by
  obtain ⟨C, T, N, hc, hN, hC, hin, hlink⟩ := hf
  refine Go.pure (fun p l e R s m args below meth c H locs cells slots Q ls hK hS hR hcl hsl hl w => ?_)
  obtain ⟨hx, hb, -, hown, -, hT, -⟩ := hK
  have hP : va_P G.1 classes [(a, .inr (ci, fs))] H := fun i q hq => by
    cases i with
    | zero => cases hq; exact hR.at hr
    | succ i => simp at hq
  rcases hlink with h | ⟨host, h⟩
  · exact va_get (ref := C) hx hb (fun w hw => hT.1 w hw args) hin hown hT.K hP 0 rfl hc f hN (hT.1 _ h args) (fun _ h9 => hC ▸ h9) hv hdg w
  · exact va_getN (ref := C) (host := host) hx hb (fun w hw => hT.1 w hw args) hin hown hT.K hP 0 rfl hc f hN (va_Nw.use rfl (hT.2.1 _ h)) (fun _ h9 => hC ▸ h9) hv hdg w
theorem go_store {pc' a : Nat} {e0 e1 : va_E} {st' : List Value} (hr : gRd M a = some e0)
    (h : ∀ (p : Program) (l : Launch) (e : Env) (R : Room) (s : State) (m : MethodId) (args : Array Value) (below : List Frame) (meth : Method) (c : Code) (H : Heap) (locs : List Loc) (cells slots : Nat) (Q : State → Prop) (ls : Array Slot), gK G k d p R s m meth c → gR G M H → lv_has ls k.2.2.1 lv →
      (∀ (H1 : Heap) (i : Nat), va_at G.1 classes (a, e1) H1 → H1.size = H.size → (∀ q : Nat, q ≠ a → H1[q]? = H[q]?) → W p l e R s m args below meth c H1 (locs ++ [⟨a, i⟩]) cells slots Q (F0 m pc' ls st')) → W p l e R s m args below meth c H locs cells slots Q (F0 m pc ls st)) :
    Go G k d (pc, lv, st, M) (pc', lv, st', gWr M a e1) := by
  refine ⟨⟨Nat.le_refl _, Nat.le_refl _⟩, ?_⟩
  intro p l e R s m args below meth c u0 Q hK h3 h4 h5 h6 hX H locs ls hR hS hl
  refine h p l e R s m args below meth c H locs _ _ Q ls hK hR hl (fun H1 i he z oq => ?_)
  exact hX H1 _ ls (hR.set hr he z oq) (hS.put z oq (hR.lo hr)) hl
theorem go_put {idx ci f a : Nat} {fs : List Value} (fs' : List Value) {v : Value} {ty : FieldType} (hf : gF k.1.cls idx ci f) (hft : gFt ci f false ty) (hdg : decode k.2.1 pc = .ok (.putfield idx, 3)) (hr : gRd M a = some (.inr (ci, fs))) (hn : narrow ty v = v) (hfit : fits ty v = true) (hl0 : f < fs.length) (hfs : fs.set f v = fs') : Go G k d (pc, lv, v :: .ref a :: st, M) (pc + 3, lv, st, gWr M a (.inr (ci, fs'))) := by
  subst hfs
  obtain ⟨C, T, N, hc, hN, hC, hin, hlink⟩ := hf
  obtain ⟨C', T', N', ty0, hc', hty, hnm, hfin, hd⟩ := hft
  cases hc.symm.trans hc'
  refine go_store hr (fun p l e R s m args below meth c H locs cells slots Q ls hK hR hl w => ?_)
  obtain ⟨hx, hb, -, hown, -, hT, -⟩ := hK
  have hts : ∀ w ∈ gTB, w.before args s = true := fun w hw => hT.1 w hw args
  have hK : va_K G.1 classes [] s := hT.K
  have hap := va_apart (own := k.1.cls) hts hin ty0 hty hnm hK hc
  obtain ⟨r, h1, cell, q1, q2, q3, q4⟩ := hR.at hr
  have hr0 : r = (C, T, N) := Option.some.inj (h1.symm.trans hc)
  subst hr0
  obtain ⟨hS, hfc, kC, hkC, hkind⟩ := hK.1 ci _ hc
  obtain ⟨cf, kf, fi, fd, hi, hsl⟩ := hS f hN
  have hlay := hts _ (hin _ (u_in_lay hN))
  unfold u_lay at hlay
  rw [if_neg (by rw [hfin]; decide)] at hlay
  have hst := (u_facts hfc hkC (u_lays hts hin hN) hi).1
  have h6 := u_store hfc hkC hkind hlay hi hd hn hfit
  have hi2 : s.fieldFound? C (T f).2.1 (T f).2.2.1 = some (cf, kf, fi, fd) := by rw [hC] at hi; exact hi
  rcases hlink with h | ⟨host, h⟩
  · refine W.putK hx hb (f := fd) ⟨hown, hts _ h, ⟨_, _, _, hi2⟩, hst⟩ (by rw [q2]; exact h6) q1 q3 (by rw [hsl]; exact k2_hasslot (q4 f hN)) rfl rfl hdg fun H' e1 e2 e3 => ?_
    rw [hsl] at e1
    exact w H' _ ⟨_, hc, t_OB.to (V := updV (vp_V fs) f v) ⟨_, e1, q2, q3, t_set q4 hap hN v⟩ (fun j _ => vp_updV_set hl0 v j)⟩ e2 e3
  · refine va_WputK hx hb (f := fd) hown (va_Nw.use rfl (hT.2.1 _ h)) hi2 hst (by rw [q2]; exact h6) q1 q3 (by rw [hsl]; exact k2_hasslot (q4 f hN)) rfl rfl hdg fun H' e1 e2 e3 => ?_
    rw [hsl] at e1
    exact w H' _ ⟨_, hc, t_OB.to (V := updV (vp_V fs) f v) ⟨_, e1, q2, q3, t_set q4 hap hN v⟩ (fun j _ => vp_updV_set hl0 v j)⟩ e2 e3
/-- a final field, in the constructor of its own kind -/
theorem go_putF {idx ci f a : Nat} {fs : List Value} (fs' : List Value) {v : Value} {ty : FieldType} (hf : gF k.1.cls idx ci f) (hft : gFt ci f true ty) (hnl : ∀ C T N, classes[ci]? = some (C, T, N) → C = k.1.cls ∧ Cond.fieldLink k.1.cls idx C (T f).2.1 (T f).2.2.1 ∈ gTB) (hini : k.1.name = "<init>") (hdg : decode k.2.1 pc = .ok (.putfield idx, 3)) (hr : gRd M a = some (.inr (ci, fs))) (hn : narrow ty v = v) (hfit : fits ty v = true) (hl0 : f < fs.length) (hfs : fs.set f v = fs') : Go G k d (pc, lv, v :: .ref a :: st, M) (pc + 3, lv, st, gWr M a (.inr (ci, fs'))) := by
  subst hfs
  obtain ⟨C, T, N, hc, hN, hC, hin, -⟩ := hf
  obtain ⟨C', T', N', ty0, hc', hty, hnm, hfin, hd⟩ := hft
  cases hc.symm.trans hc'
  obtain ⟨hCo, hlink⟩ := hnl _ _ _ hc
  refine go_store hr (fun p l e R s m args below meth c H locs cells slots Q ls hK hR hl w => ?_)
  obtain ⟨hx, hb, -, hown, hnam, hT, -⟩ := hK
  have hts : ∀ w ∈ gTB, w.before args s = true := fun w hw => hT.1 w hw args
  have hK : va_K G.1 classes [] s := hT.K
  have hap := va_apart (own := k.1.cls) hts hin ty0 hty hnm hK hc
  obtain ⟨r, h1, cell, q1, q2, q3, q4⟩ := hR.at hr
  have hr0 : r = (C, T, N) := Option.some.inj (h1.symm.trans hc)
  subst hr0
  obtain ⟨hS, hfc, kC, hkC, hkind⟩ := hK.1 ci _ hc
  obtain ⟨cf, kf, fi, fd, hi, hsl⟩ := hS f hN
  have hlay := hts _ (hin _ (u_in_lay hN))
  unfold u_lay at hlay
  rw [if_pos hfin] at hlay
  have hst := (u_facts hfc hkC (u_lays hts hin hN) hi).1
  have hcf : m.cls = cf := by
    obtain ⟨_, _, c', _, _, _, -, -, hf', -, -, -, hown2, -⟩ := Cond.laysFinal_spec hlay
    have e1 : c' = cf := by have := hi.symm.trans hf'; simp at this; exact this.1.symm
    rw [hC, hCo] at hown2
    rw [← e1]; exact Option.some.inj (hown.symm.trans hown2)
  have h6 := u_fits hfc hkC hkind (Or.inr hlay) hi hd hn hfit
  have hi2 : s.fieldFound? C (T f).2.1 (T f).2.2.1 = some (cf, kf, fi, fd) := by rw [hC] at hi; exact hi
  refine W.putFinK hx hb hown (hts _ hlink) hi2 hst hcf (hnam.trans hini) (by rw [q2]; exact h6) q1 q3 (by rw [hsl]; exact k2_hasslot (q4 f hN)) rfl rfl hdg fun H' e1 e2 e3 => ?_
  rw [hsl] at e1
  exact w H' _ ⟨_, hc, t_OB.to (V := updV (vp_V fs) f v) ⟨_, e1, q2, q3, t_set q4 hap hN v⟩ (fun j _ => vp_updV_set hl0 v j)⟩ e2 e3
-- arrays
def aI (G : gG) (n : Nat) (f : Nat → Int32) : va_E := .inl (G.2.1 0, n, .inl f)
def aL (G : gG) (n : Nat) (f : Nat → Int64) : va_E := .inl (G.2.1 1, n, .inr (.inl f))
def aZ (G : gG) (n : Nat) (f : Nat → Int32) : va_E := .inl (G.2.1 2, n, .inl f)
def aQ (G : gG) (i n : Nat) (f : Nat → Option Nat) : va_E := .inl (G.2.1 i, n, .inr (.inr (.inr (.inr f))))
theorem go_iald {a n j : Nat} {f : Nat → Int32} {i : Int32} (hdg : decode k.2.1 pc = .ok (.iaload, 1)) (hr : gRd M a = some (aI G n f)) (hi : i = nI j) (hj : j < n) (hn : n < 2 ^ 31) : Go G k d (pc, lv, .int i :: .ref a :: st, M) (pc + 1, lv, .int (f j) :: st, M) := by
  subst hi
  have hcl := nI_clamp (Nat.lt_trans hj hn)
  refine Go.pure (fun p l e R s m args below meth c H locs cells slots Q ls hK hS hR hcc hsl hl w => ?_)
  obtain ⟨hx, hb, -, -, -, hT, -⟩ := hK
  refine W.iald (v := .int (f j)) hx hb (hR.at hr) ((hT.2.2.2 0 .int rfl).1 n (fun j => .int (f j))) (fun q => by cases q) (by show ¬ (nI j < 0 ∨ (arrV _ _ _).slots.size ≤ _); rw [arrV_size]; exact vp_in_nI hj hn) (by show (arrV _ _ _).slots[_]? = _; rw [hcl, arrV_read _ _ hj]) rfl rfl hdg w
theorem go_lald {a n j : Nat} {f : Nat → Int64} {i : Int32} (hdg : decode k.2.1 pc = .ok (.laload, 1)) (hr : gRd M a = some (aL G n f)) (hi : i = nI j) (hj : j < n) (hn : n < 2 ^ 31) : Go G k d (pc, lv, .int i :: .ref a :: st, M) (pc + 1, lv, .long (f j) :: st, M) := by
  subst hi
  have hcl := nI_clamp (Nat.lt_trans hj hn)
  refine Go.pure (fun p l e R s m args below meth c H locs cells slots Q ls hK hS hR hcc hsl hl w => ?_)
  obtain ⟨hx, hb, -, -, -, hT, -⟩ := hK
  refine W.lald (v := .long (f j)) hx hb (hR.at hr) ((hT.2.2.2 1 .long rfl).1 n (fun j => .long (f j))) (fun q => by cases q) (by show ¬ (nI j < 0 ∨ (arrV _ _ _).slots.size ≤ _); rw [arrV_size]; exact vp_in_nI hj hn) (by show (arrV _ _ _).slots[_]? = _; rw [hcl, arrV_read _ _ hj]) rfl rfl hdg w
theorem go_zald {a n j : Nat} {f : Nat → Int32} {i : Int32} (hdg : decode k.2.1 pc = .ok (.baload, 1)) (hr : gRd M a = some (aZ G n f)) (hi : i = nI j) (hj : j < n) (hn : n < 2 ^ 31) : Go G k d (pc, lv, .int i :: .ref a :: st, M) (pc + 1, lv, .int (f j) :: st, M) := by
  subst hi
  have hcl := nI_clamp (Nat.lt_trans hj hn)
  refine Go.pure (fun p l e R s m args below meth c H locs cells slots Q ls hK hS hR hcc hsl hl w => ?_)
  obtain ⟨hx, hb, -, -, -, hT, -⟩ := hK
  refine W.zald (v := .int (f j)) hx hb (hR.at hr) ((hT.2.2.2 2 .boolean rfl).1 n (fun j => .int (f j))) (fun q => by cases q) (by show ¬ (nI j < 0 ∨ (arrV _ _ _).slots.size ≤ _); rw [arrV_size]; exact vp_in_nI hj hn) (by show (arrV _ _ _).slots[_]? = _; rw [hcl, arrV_read _ _ hj]) rfl rfl hdg w
theorem go_aald {a n j t : Nat} {C : String} {f : Nat → Option Nat} {i : Int32} (ht : gTys[t]? = some (.object C)) (hdg : decode k.2.1 pc = .ok (.aaload, 1)) (hr : gRd M a = some (aQ G t n f)) (hi : i = nI j) (hj : j < n) (hn : n < 2 ^ 31) : Go G k d (pc, lv, .int i :: .ref a :: st, M) (pc + 1, lv, va_rf (f j) :: st, M) := by
  subst hi
  have hcl := nI_clamp (Nat.lt_trans hj hn)
  refine Go.pure (fun p l e R s m args below meth c H locs cells slots Q ls hK hS hR hcc hsl hl w => ?_)
  obtain ⟨hx, hb, -, -, -, hT, -⟩ := hK
  refine W.aald (v := va_rf (f j)) (ty := .object C) hx hb (hR.at hr) ((hT.2.2.2 t _ ht).1 n (fun j => va_rf (f j))) rfl (fun q => by cases q) (by show ¬ (nI j < 0 ∨ (arrV _ _ _).slots.size ≤ _); rw [arrV_size]; exact vp_in_nI hj hn) (by show (arrV _ _ _).slots[_]? = _; rw [hcl, arrV_read _ _ hj]) rfl rfl hdg w
theorem go_iast {a n j : Nat} {f : Nat → Int32} {i x : Int32} (hdg : decode k.2.1 pc = .ok (.iastore, 1)) (hr : gRd M a = some (aI G n f)) (hi : i = nI j) (hj : j < n) (hn : n < 2 ^ 31) : Go G k d (pc, lv, .int x :: .int i :: .ref a :: st, M) (pc + 1, lv, st, gWr M a (aI G n (upd f j x))) := by
  subst hi
  have hcl := nI_clamp (Nat.lt_trans hj hn)
  refine go_store hr (fun p l e R s m args below meth c H locs cells slots Q ls hK hR hl w => ?_)
  obtain ⟨hx, hb, -, -, -, hT, -⟩ := hK
  refine W.iast hx hb (hR.at hr) ((hT.2.2.2 0 .int rfl).1 n (fun j => .int (f j))) (fun q => by cases q) (by show ¬ (nI j < 0 ∨ (arrV _ _ _).slots.size ≤ _); rw [arrV_size]; exact vp_in_nI hj hn) rfl rfl hdg fun H1 e z oq => ?_
  refine w H1 _ ?_ z oq
  show H1[a]? = some (vp_cell _ _)
  rw [e, hcl]
  rw [vp_cell_i, vp_cell_i, arrV_store]
  congr 2
  funext q
  by_cases hq : q = j
  · subst hq; simp [updV, upd]
  · simp [updV, upd, hq]
theorem go_last {a n j : Nat} {f : Nat → Int64} {i : Int32} {x : Int64} (hdg : decode k.2.1 pc = .ok (.lastore, 1)) (hr : gRd M a = some (aL G n f)) (hi : i = nI j) (hj : j < n) (hn : n < 2 ^ 31) : Go G k d (pc, lv, .long x :: .int i :: .ref a :: st, M) (pc + 1, lv, st, gWr M a (aL G n (vp_updL f j x))) := by
  subst hi
  have hcl := nI_clamp (Nat.lt_trans hj hn)
  refine go_store hr (fun p l e R s m args below meth c H locs cells slots Q ls hK hR hl w => ?_)
  obtain ⟨hx, hb, -, -, -, hT, -⟩ := hK
  refine W.last hx hb (hR.at hr) ((hT.2.2.2 1 .long rfl).1 n (fun j => .long (f j))) (fun q => by cases q) (by show ¬ (nI j < 0 ∨ (arrV _ _ _).slots.size ≤ _); rw [arrV_size]; exact vp_in_nI hj hn) rfl rfl hdg fun H1 e z oq => ?_
  refine w H1 _ ?_ z oq
  show H1[a]? = some (vp_cell _ _)
  rw [e, hcl]
  rw [vp_cell_l, vp_cell_l, arrV_store]
  congr 2
  funext q
  by_cases hq : q = j
  · subst hq; simp [updV, vp_updL]
  · simp [updV, vp_updL, hq]
theorem go_aast {a n j t v ci : Nat} {r : vw_C} {vs : List Value} {f : Nat → Option Nat} {i : Int32} (ht : gTys[t]? = some (.object r.1)) (hc : classes[ci]? = some r) (hdg : decode k.2.1 pc = .ok (.aastore, 1)) (hr : gRd M a = some (aQ G t n f)) (hv : gRd M v = some (.inr (ci, vs))) (hi : i = nI j) (hj : j < n) (hn : n < 2 ^ 31) : Go G k d (pc, lv, .ref v :: .int i :: .ref a :: st, M) (pc + 1, lv, st, gWr M a (aQ G t n (va_up f j (some v)))) := by
  subst hi
  have hcl := nI_clamp (Nat.lt_trans hj hn)
  refine go_store hr (fun p l e R s m args below meth c H locs cells slots Q ls hK hR hl w => ?_)
  obtain ⟨hx, hb, -, -, -, hT, -⟩ := hK
  have hin := vp_in_nI hj hn
  have h0 : ¬ nI j < 0 := fun q => hin (Or.inl q)
  obtain ⟨r', hr', cellV, g1, g2, g3, -⟩ := hR.at hv
  have hcls := (hT.2.2.1 ci r hc).2
  obtain ⟨kA, comp, k1, k2, k3, -⟩ := (hT.2.2.2 t _ ht).2
  have hcomp : comp = G.1.1 ci := Option.some.inj (k3.symm.trans hcls.1)
  subst hcomp
  obtain ⟨kC, hkC, -⟩ := hcls.2
  refine W.aast hx hb (hR.at hr) (fun q h => by cases h) (fun h => by cases h) k1 k2 rfl hkC ⟨h0, by show _ < (arrV _ _ _).slots.size; rw [arrV_size, hcl]; exact hj⟩ g1 (fun q h => by rw [g3] at h; cases h) (by rw [g2]; exact hkC) (by rw [g2]; exact va_assign hcls) rfl rfl hdg fun H1 e z oq => ?_
  refine w H1 _ ?_ z oq
  show H1[a]? = some (vp_cell _ _)
  rw [e, hcl]
  rw [vp_cell_q, vp_cell_q, arrV_store]
  congr 2
  funext q
  by_cases hq : q = j
  · subst hq; simp [updV, va_up, va_rf]
  · simp [updV, va_up, hq]
theorem go_alenI {a n : Nat} {f : Nat → Int32} (hdg : decode k.2.1 pc = .ok (.arraylength, 1)) (hr : gRd M a = some (aI G n f)) : Go G k d (pc, lv, .ref a :: st, M) (pc + 1, lv, .int (nI n) :: st, M) := by
  refine Go.pure (fun p l e R s m args below meth c H locs cells slots Q ls hK hS hR hcc hsl hl w => ?_)
  obtain ⟨hx, hb, -, -, -, hT, -⟩ := hK
  exact W.alen (n := Int32.ofNat n) hx hb (hR.at hr) ((hT.2.2.2 0 .int rfl).1 n (fun j => .int (f j))) (by rw [vp_cell_i, arrV_size] <;> rfl) rfl rfl hdg w
-- making cells
theorem go_make {pc' : Nat} {e1 : va_E} {u : Nat} {st' : List Value}
    (h : ∀ (p : Program) (l : Launch) (e : Env) (R : Room) (s : State) (m : MethodId) (args : Array Value) (below : List Frame) (meth : Method) (c : Code) (H : Heap) (locs : List Loc) (cells slots : Nat) (Q : State → Prop) (ls : Array Slot), gK G k d p R s m meth c → H.size = M.2.1 → cells + 1 ≤ R.cells → slots + u ≤ R.slots →
      (∀ H1 : Heap, va_at G.1 classes (H.size, e1) H1 → H1.size = H.size + 1 → (∀ q : Nat, q < H.size → H1[q]? = H[q]?) → W p l e R s m args below meth c H1 locs (cells + 1) (slots + u) Q (F0 m pc' ls st')) → W p l e R s m args below meth c H locs cells slots Q (F0 m pc ls st)) :
    Go G k d (pc, lv, st, M) (pc', lv, st', gNw M e1 u) := by
  refine ⟨⟨Nat.le_succ _, Nat.le_add_right _ _⟩, ?_⟩
  intro p l e R s m args below meth c u0 Q hK h3 h4 h5 h6 hX H locs ls hR hS hl
  dsimp only [gNw] at h3 h4 h5 h6
  have hsz : H.size = M.2.1 := hR.2
  refine h p l e R s m args below meth c H locs _ _ Q ls hK hsz (by dsimp only; omega) (by dsimp only; omega) (fun H1 he z oq => ?_)
  have hb0 : G.2.2.1 ≤ s.heap.size := hK.2.2.2.2.2.2.2.1
  have w := hX H1 locs ls (hR.push (Nat.le_trans hb0 hS.1) he z oq) ⟨Nat.le_trans hS.1 (by omega), fun q h1 h2 => (oq q (Nat.lt_of_lt_of_le h1 hS.1)).trans (hS.2.1 q h1 h2), hS.2.2⟩ hl
  refine W.cs ?_ ?_ w
  · show M.2.1 - s.heap.size + 1 = (M.2.1 + 1) - s.heap.size
    omega
  · show M.2.2 - u0 + u = (M.2.2 + u) - u0
    omega
theorem go_new {idx ci : Nat} {C : String} {T : u_T} {N : Nat} {fs : List Value} (hc : classes[ci]? = some (C, T, N)) (hin : ∀ w ∈ u_ws C T N, w ∈ gTB) (ty : Nat → FieldType) (hty : ∀ k, k < N → parseFieldDescriptor (T k).2.2.1 = some (ty k)) (hcl : Cond.classLink k.1.cls idx C ∈ gTB) (hins : Cond.instantiable C N ∈ gTB) (hini : Cond.initialized C ∈ gTB) (hfs : ∀ j, j < N → defaultValue (ty j) = vp_V fs j) (hdg : decode k.2.1 pc = .ok (.new idx, 3)) : Go G k d (pc, lv, st, M) (pc + 3, lv, .ref M.2.1 :: st, gNw M (.inr (ci, fs)) N) := by
  refine go_make (fun p l e R s m args below meth c H locs cells slots Q ls hK hsz hcells hslots w => ?_)
  obtain ⟨hx, hb, -, hown, -, hT, -⟩ := hK
  have hKn := hT.2.2.1 ci _ hc
  rw [← hsz] at w
  exact W.newcK hx hb hown (hT.1 _ hcl args) (hT.1 _ hins args) (hT.1 _ hini args) rfl hdg hcells hslots hKn.2.1 rfl fun H1 kC hkC e1 z1 o1 =>
    w H1 ⟨_, hc, (u_born ty (fun w hw => hT.1 w hw args) hin hKn hkC e1 hty).to hfs⟩ z1 o1
theorem go_newI {n : Int32} {N : Nat} (hn : n = nI N) (hN : N < 134217728) (hdg : decode k.2.1 pc = .ok (.newarray .int, 2)) (hw : Cond.arrayClass .int ∈ gTB) : Go G k d (pc, lv, .int n :: st, M) (pc + 2, lv, .ref M.2.1 :: st, gNw M (aI G N (fun _ => 0)) N) := by
  subst hn
  have hlt : N < 2 ^ 31 := by omega
  refine go_make (fun p l e R s m args below meth c H locs cells slots Q ls hK hsz hcells hslots w => ?_)
  obtain ⟨hx, hb, -, hown, -, hT, -⟩ := hK
  rw [← hsz] at w
  refine va_newaK hx hb (atype := .int) (hT.1 _ hw args) rfl hdg rfl (nI_pos hlt) (nI_clamp hlt) (by show N * 4 ≤ 536870912; omega) hcells hslots rfl fun H1 cA e1 z1 o1 hAr hNm => ?_
  have hcA : cA = G.2.1 0 := Option.some.inj (hNm.symm.trans (hT.2.2.2 0 .int rfl).2)
  subst hcA
  exact w H1 e1 z1 o1
theorem go_newL {n : Int32} {N : Nat} (hn : n = nI N) (hN : N < 67108864) (hdg : decode k.2.1 pc = .ok (.newarray .long, 2)) (hw : Cond.arrayClass .long ∈ gTB) : Go G k d (pc, lv, .int n :: st, M) (pc + 2, lv, .ref M.2.1 :: st, gNw M (aL G N (fun _ => 0)) N) := by
  subst hn
  have hlt : N < 2 ^ 31 := by omega
  refine go_make (fun p l e R s m args below meth c H locs cells slots Q ls hK hsz hcells hslots w => ?_)
  obtain ⟨hx, hb, -, hown, -, hT, -⟩ := hK
  rw [← hsz] at w
  refine va_newaK hx hb (atype := .long) (hT.1 _ hw args) rfl hdg rfl (nI_pos hlt) (nI_clamp hlt) (by show N * 8 ≤ 536870912; omega) hcells hslots rfl fun H1 cA e1 z1 o1 hAr hNm => ?_
  have hcA : cA = G.2.1 1 := Option.some.inj (hNm.symm.trans (hT.2.2.2 1 .long rfl).2)
  subst hcA
  exact w H1 e1 z1 o1
theorem go_newQ {idx t : Nat} {C : String} {n : Int32} {N : Nat} (ht : gTys[t]? = some (.object C)) (hn : n = nI N) (hN : N < 134217728) (hdg : decode k.2.1 pc = .ok (.anewarray idx, 3)) (hcl : Cond.classLink k.1.cls idx C ∈ gTB) (hov : Cond.arrayOver (.object C) ∈ gNW) : Go G k d (pc, lv, .int n :: st, M) (pc + 3, lv, .ref M.2.1 :: st, gNw M (aQ G t N (fun _ => none)) N) := by
  subst hn
  have hlt : N < 2 ^ 31 := by omega
  have hcN := nI_clamp hlt
  refine go_make (fun p l e R s m args below meth c H locs cells slots Q ls hK hsz hcells hslots w => ?_)
  obtain ⟨hx, hb, -, hown, -, hT, -⟩ := hK
  rw [← hsz] at w
  refine W.anew hx hb hown (hT.1 _ hcl args) (va_AO.use (hT.2.1 _ hov)) rfl hdg rfl (nI_pos hlt) (by rw [hcN]; omega) hcells (by rw [hcN]; exact hslots) fun cA kA comp f1 f2 f3 f4 => ?_
  rw [hcN]
  obtain ⟨kA', comp', g1, g2, g3, g4⟩ := (hT.2.2.2 t _ ht).2
  have hcA : cA = G.2.1 t := Option.some.inj (f1.symm.trans g4)
  subst hcA
  generalize hH1 : H.push ({ cls := G.2.1 t, slots := Array.replicate N .null, vm := .none } : Cell) = H1
  refine w H1 ?_ (by rw [← hH1, Array.size_push]) (fun q hq => by rw [← hH1, Array.getElem?_push, if_neg (Nat.ne_of_lt hq)])
  show H1[H.size]? = some (vp_cell _ _)
  rw [vp_cell_q, ← hH1, Array.getElem?_push_size]
  exact congrArg some (arrV_new ..)
end GMEM
-- ===== contracts and calls =====
def gPc (G : gG) (av : List Value) (M : gM) : Array Value → State → Prop := fun v U => v = av.toArray ∧ gT G U ∧ gZ G U U.heap ∧ G.2.2.1 ≤ U.heap.size ∧ gR G M U.heap
def gQc (G : gG) (r : Option Value) (M' : gM) : Array Value → State → Outcome → State → Prop := fun _ st oc t => oc = .returned r ∧ gR G M' t.heap ∧ va_F (gA G) st t
theorem gPc_blind {G : gG} {av : List Value} {M : gM} : FrameBlind (gPc G av M) := fun a U g mk h => ⟨h.1, gT.moved (s := U) (U := U.calling g mk a) (State.WarmedH.refl U) h.2.1, gZ.moved (u := U) (U := U.calling g mk a) (Vm.Alike.refl U.vm) h.2.2.1, h.2.2.2.1, h.2.2.2.2⟩
def gRet (k : gY) (pc : Nat) (st : List Value) (r : Option Value) : Prop :=
  (∃ v : Int32, st = [.int v] ∧ r = some (.int v) ∧ (∃ ty, k.2.2.2 = some ty ∧ narrow ty (.int v) = .int v) ∧ decode k.2.1 pc = .ok (.ireturn, 1)) ∨
  (∃ v : Int64, st = [.long v] ∧ r = some (.long v) ∧ k.2.2.2 = some .long ∧ decode k.2.1 pc = .ok (.lreturn, 1)) ∨
  (st = [] ∧ r = none ∧ k.2.2.2 = none ∧ decode k.2.1 pc = .ok (.return_, 1)) ∨
  (∃ v : Value, st = [v] ∧ r = some v ∧ (v = .null ∨ ∃ a, v = .ref a) ∧ (∃ rt, k.2.2.2 = some rt ∧ ((∃ n, rt = .object n) ∨ ∃ t, rt = .array t)) ∧ decode k.2.1 pc = .ok (.areturn, 1))
/-- the method k, called with av over the memory M, answers r and leaves M' -/
def Ev (G : gG) (d : Nat) (k : gY) (av : List Value) (M : gM) (r : Option Value) (M' : gM) : Prop :=
  ∃ (pcR : Nat) (lvR : gL) (stR : List Value), Go G k d (0, lv_args 0 av, [], M) (pcR, lvR, stR, M') ∧ gRet k pcR stR r ∧ (lg_sl av).length ≤ k.2.2.1
theorem Ev.up {G : gG} {d d' : Nat} {k : gY} {av : List Value} {M M' : gM} {r : Option Value} (h : Ev G d k av M r M') (hd : d ≤ d') : Ev G d' k av M r M' := by
  obtain ⟨a, b, c, h1, h2⟩ := h
  exact ⟨a, b, c, h1.up hd, h2⟩
theorem Ev.i {G : gG} {d pc : Nat} {k : gY} {av : List Value} {M M' : gM} {lv : gL} {v : Int32} (hdg : decode k.2.1 pc = .ok (.ireturn, 1)) (ht : k.2.2.2 = some .int) (hl : (lg_sl av).length ≤ k.2.2.1) (h : Go G k d (0, lv_args 0 av, [], M) (pc, lv, [.int v], M')) : Ev G d k av M (some (.int v)) M' :=
  ⟨_, _, _, h, Or.inl ⟨v, rfl, rfl, ⟨_, ht, rfl⟩, hdg⟩, hl⟩
theorem Ev.z {G : gG} {d pc : Nat} {k : gY} {av : List Value} {M M' : gM} {lv : gL} {v : Int32} (hdg : decode k.2.1 pc = .ok (.ireturn, 1)) (ht : k.2.2.2 = some .boolean) (hl : (lg_sl av).length ≤ k.2.2.1) (hv : v = 0 ∨ v = 1) (h : Go G k d (0, lv_args 0 av, [], M) (pc, lv, [.int v], M')) : Ev G d k av M (some (.int v)) M' :=
  ⟨_, _, _, h, Or.inl ⟨v, rfl, rfl, ⟨_, ht, by rcases hv with rfl | rfl <;> rfl⟩, hdg⟩, hl⟩
theorem Ev.l {G : gG} {d pc : Nat} {k : gY} {av : List Value} {M M' : gM} {lv : gL} {v : Int64} (hdg : decode k.2.1 pc = .ok (.lreturn, 1)) (ht : k.2.2.2 = some .long) (hl : (lg_sl av).length ≤ k.2.2.1) (h : Go G k d (0, lv_args 0 av, [], M) (pc, lv, [.long v], M')) : Ev G d k av M (some (.long v)) M' :=
  ⟨_, _, _, h, Or.inr (Or.inl ⟨v, rfl, rfl, ht, hdg⟩), hl⟩
theorem Ev.v {G : gG} {d pc : Nat} {k : gY} {av : List Value} {M M' : gM} {lv : gL} (hdg : decode k.2.1 pc = .ok (.return_, 1)) (ht : k.2.2.2 = none) (hl : (lg_sl av).length ≤ k.2.2.1) (h : Go G k d (0, lv_args 0 av, [], M) (pc, lv, [], M')) : Ev G d k av M none M' :=
  ⟨_, _, _, h, Or.inr (Or.inr (Or.inl ⟨rfl, rfl, ht, hdg⟩)), hl⟩
theorem Ev.met {l : Launch} {G : gG} {d : Nat} {k : gY} {av : List Value} {M M' : gM} {r : Option Value} (h : Ev G d k av M r M') (hy : plainFor k.1 = true) :
    Met l k.1 [.code k.1 k.2.1 k.2.2.1 k.2.2.2] { frames := d, cells := M'.2.1 - M.2.1, slots := M'.2.2 - M.2.2, locals := 40 * d } (gPc G av M) (gQc G r M') (M'.2.1 - M.2.1) (M'.2.2 - M.2.2) (gA G) := by
  obtain ⟨pcR, lvR, stR, ⟨⟨b1, b2⟩, hgo⟩, hret, hlen⟩ := h
  dsimp only at b1 b2
  refine va_MetF (cc := k.2.1) (maxL := k.2.2.1) (ret := k.2.2.2) hy rfl ?_
  intro p e s m args below meth c s₁ B hml hv
  obtain ⟨rfl, hT, hZ, hb0, hR⟩ := hv
  have hx := B.exec
  have hb := B.bytes
  have hr := B.returns
  have hown : s.vm.findClass k.1.cls = some m.cls := findClass_of_methodNamed B.named
  have hlocks := B.notSynchronized
  have hnm : meth.name = k.1.name := (name_of_methodNamed B.named B.method).1
  have hsz : s.heap.size = M.2.1 := hR.2
  have hl := lv_entry av (n := k.2.2.1) hlen
  rw [lg_entry_eq]
  have key := hgo p l e { frames := d, cells := M'.2.1 - M.2.1, slots := M'.2.2 - M.2.2, locals := 40 * d } s m av.toArray below meth c M.2.2 (MQ below (gQc G r M') av.toArray s (M'.2.1 - M.2.1) (M'.2.2 - M.2.2) (gA G)) ⟨hx, hb, hml, hown, hnm, hT, hZ, hb0, Nat.le_refl d, Nat.le_refl _⟩ (by dsimp only; omega) (Nat.le_refl _) (by dsimp only; omega) (by dsimp only; omega) (by
    intro H locs ls hR' hS hl'
    dsimp only at hR' hl' ⊢
    rw [hsz]
    have hq : ∀ t : State, t.heap = H → s.WarmedH t.vm → gQc G r M' av.toArray s (.returned r) t := fun t ht hW => ⟨rfl, by rw [ht]; exact hR', hS.F ht⟩
    rcases hret with ⟨v, rfl, rfl, ⟨ty, hty, hn⟩, hdg⟩ | ⟨v, rfl, rfl, hty, hdg⟩ | ⟨rfl, rfl, hty, hdg⟩ | ⟨v, rfl, rfl, hv, ⟨rt, hty, hrt⟩, hdg⟩
    · exact W.zret hx hb (hr.trans hty) hn hq hS.2.2 hdg
    · exact W.lret hx hb (hr.trans hty) hq hS.2.2 hdg
    · exact W.vret hx hb (hr.trans hty) hq hS.2.2 hdg
    · exact W.aret hx hb (hr.trans hty) hrt hv hq hS.2.2 hdg)
  have w := key s.heap [] _ hR va_S.rf hl
  refine W.cs ?_ ?_ w
  · dsimp only; omega
  · dsimp only; omega
section GAFTER
variable {p : Program} {l : Launch} {e : Env} {R : Room} {s : State} {m : MethodId} {args : Array Value} {below : List Frame} {meth : Method} {c : Code} {H : Heap} {locs : List Loc} {cells slots : Nat} {Q : State → Prop}
theorem g_after {G : gG} {M' : gM} {r : Option Value} {a : Array Value} {pc mc ms : Nat} {ls : Array Slot} {st0 rest : List Value} (hr : va_Run p l e R s m args below meth c H locs cells slots mc ms (F0 m pc ls st0) rest (gQc G r M' a) (gA G)) (hS : va_S (gA G) s.heap H locs)
    (kk : ∀ (H1 : Heap) (locs1 : List Loc), gR G M' H1 → va_S (gA G) s.heap H1 locs1 → W p l e R s m args below meth c H1 locs1 (cells + mc) (slots + ms) Q (F0 m (pc + 3) ls (r.toList ++ rest))) : W p l e R s m args below meth c H locs cells slots Q (F0 m pc ls st0) := by
  intro T hT X
  obtain ⟨v, st₀, t, T', L, h0, X', hL, e1, e2, ⟨hv, hR', hz, hk⟩, st⟩ := hr T hT X
  cases hv
  rw [h0] at hz hk
  obtain ⟨t2, a1, b1⟩ := kk T'.heap (locs ++ L) (by rw [e1]; exact hR') ⟨Nat.le_trans hS.1 (by rw [e1]; exact hz), fun q h1 h2 => by rw [e1, hk q (Nat.lt_of_lt_of_le h1 hS.1) h2]; exact hS.2.1 q h1 h2, fun q hq => by
      rcases List.mem_append.mp hq with h | h
      · exact hS.2.2 q h
      · exact hL q h⟩ T' rfl X'
  exact ⟨t2, st t2 a1, b1⟩
end GAFTER
section GCALL
variable {G : gG} {k : gY} {d pc : Nat} {lv : gL} {st : List Value} {M : gM}
theorem go_call {st0 st' : List Value} {r : Option Value} {M' : gM} (b1 : M.2.1 ≤ M'.2.1) (b2 : M.2.2 ≤ M'.2.2) (hst' : r.toList ++ st = st')
    (h : ∀ (p : Program) (l : Launch) (e : Env) (R : Room) (s : State) (m : MethodId) (args : Array Value) (below : List Frame) (meth : Method) (c : Code) (H : Heap) (locs : List Loc) (cells slots : Nat) (ls : Array Slot), gK G k d p R s m meth c → va_S (gA G) s.heap H locs → gR G M H → ls.size = k.2.2.1 → cells + (M'.2.1 - M.2.1) ≤ R.cells → slots + (M'.2.2 - M.2.2) ≤ R.slots →
      ∃ a : Array Value, va_Run p l e R s m args below meth c H locs cells slots (M'.2.1 - M.2.1) (M'.2.2 - M.2.2) (F0 m pc ls st0) st (gQc G r M' a) (gA G)) : Go G k d (pc, lv, st0, M) (pc + 3, lv, st', M') := by
  subst hst'
  refine ⟨⟨b1, b2⟩, ?_⟩
  intro p l e R s m args below meth c u0 Q hK h3 h4 h5 h6 hX H locs ls hR hS hl
  dsimp only at h3 h4 h5 h6
  obtain ⟨a, hr⟩ := h p l e R s m args below meth c H locs (M.2.1 - s.heap.size) (M.2.2 - u0) ls hK hS hR hl.1 (by omega) (by omega)
  refine g_after hr hS (fun H1 locs1 hR1 hS1 => ?_)
  refine W.cs ?_ ?_ (hX H1 locs1 ls hR1 hS1 hl)
  · dsimp only; omega
  · dsimp only; omega
/-- the words of a callee -/
def gC0 (y : gY) (n : Nat) : Prop := Cond.code y.1 y.2.1 y.2.2.1 y.2.2.2 ∈ gTB ∧ Cond.initialized y.1.cls ∈ gTB ∧ (y.1.cls ≠ "java/lang/invoke/MethodHandle" ∧ y.1.cls ≠ "java/lang/invoke/VarHandle") ∧ plainFor y.1 = true ∧ y.2.2.1 ≤ 21 ∧ (parseMethodDescriptor y.1.desc).map (fun d => d.parameters.length) = some n
def gLk (own : String) (idx : Nat) (y : gY) : Prop := Cond.methodLink own idx y.1 ∈ gTB ∨ ∃ host : String, Cond.methodLinkNest own idx y.1 host ∈ gNW
theorem gC0.len {y : gY} {n : Nat} (h : gC0 y n) : ∀ sig, parseMethodDescriptor y.1.desc = some sig → n = sig.parameters.length := fun sig hs => by
  have h2 := h.2.2.2.2.2
  rw [hs] at h2
  exact (Option.some.inj h2).symm
theorem g_pre {G : gG} {av : List Value} {M : gM} {s : State} {H : Heap} {locs : List Loc} (hT : gT G s) (hZ : gZ G s s.heap) (hb0 : G.2.2.1 ≤ s.heap.size) (hS : va_S (gA G) s.heap H locs) (hR : gR G M H) : ∀ U : State, U.heap = H → s.WarmedH U.vm → gPc G av M av.toArray U := fun U hU hW =>
  ⟨rfl, hT.moved hW, by rw [hU]; exact gZ.moved hW.alike (gZ.kept hZ (fun a h1 h2 => hS.2.1 a h1 h2)), by rw [hU]; exact Nat.le_trans hb0 hS.1, by rw [hU]; exact hR⟩
theorem go_callS {y : gY} {n idx d' : Nat} (As : List Value) {st0 : List Value} (st' : List Value) {r : Option Value} {M' : gM} (hc : gC0 y n) (hs : Cond.static y.1 ∈ gTB) (hlk : gLk k.1.cls idx y) (hdg : decode k.2.1 pc = .ok (.invokestatic idx, 3)) (hE : Ev G d' y As M r M') (hd : d' + 1 ≤ d) (hn : As.length = n) (hst : st0 = As.reverse ++ st) (hcat : (st.map fun v => v.category).sum ≤ 8) (hst' : r.toList ++ st = st') : Go G k d (pc, lv, st0, M) (pc + 3, lv, st', M') := by
  have hb12 := hE
  obtain ⟨_, _, _, ⟨⟨b1, b2⟩, -⟩, -⟩ := hb12
  refine go_call b1 b2 hst' (fun p l e R s m args below meth c H locs cells slots ls hK hS hR hls hcc hss => ?_)
  obtain ⟨hx, hb, hml, hown, hnm, hT, hZ, hb0, hf, hlo⟩ := hK
  have hws : ∀ w ∈ [Cond.code y.1 y.2.1 y.2.2.1 y.2.2.2], ∀ (a' : Array Value) (U : State), s.WarmedH U.vm → w.before a' U = true := fun w hw a' U hW => by
    rw [List.mem_singleton.mp hw]; exact word_at hW (gTB_good _ hc.1) (hT.1 _ hc.1 args)
  have hm21 := hc.2.2.2.2.1
  rcases hlk with h | ⟨host, h⟩
  · exact ⟨_, va_runS (As := As) (rest := st) (nL := k.2.2.1) (Ts := gTB) ⟨hx, hb, hml, hown, fun w hw => hT.1 w hw args⟩ (hE.met hc.2.2.2.1) ⟨⟨rfl, rfl, by dsimp only; omega, by dsimp only; omega, hws, List.mem_cons_self, hT.1 _ hc.1 args, hT.1 _ hc.2.1 args, hc.2.2.1, hc.len, hT.1 _ h args⟩, hT.1 _ hs args⟩ ⟨gPc_blind, g_pre hT hZ hb0 hS hR⟩ rfl hn hls hst (lv_room hcat) hdg ⟨hcc, hss⟩⟩
  · exact ⟨_, va_runSN (As := As) (rest := st) (nL := k.2.2.1) (Ts := gTB) (host := host) ⟨hx, hb, hml, hown, fun w hw => hT.1 w hw args⟩ (hE.met hc.2.2.2.1) ⟨⟨⟨rfl, rfl, by dsimp only; omega, by dsimp only; omega, hws, List.mem_cons_self⟩, hT.1 _ hc.1 args, hT.1 _ hc.2.1 args, hc.2.2.1, hc.len, va_Nw.use rfl (hT.2.1 _ h)⟩, hT.1 _ hs args, trivial⟩ ⟨gPc_blind, g_pre hT hZ hb0 hS hR⟩ rfl hn hls hst (lv_room hcat) hdg ⟨hcc, hss⟩⟩
theorem go_callV {y : gY} {n idx d' b ci : Nat} {q : vw_C} {fs : List Value} (As : List Value) {st0 : List Value} (st' : List Value) {r : Option Value} {M' : gM} (hc : gC0 y n) (hi : Cond.instanceMethod y.1 ∈ gTB) (hsel : Cond.selects y.1.cls y.1 y.1 ∈ gTB) (hlk : gLk k.1.cls idx y) (hdg : decode k.2.1 pc = .ok (.invokevirtual idx, 3)) (hq : classes[ci]? = some q) (hq1 : q.1 = y.1.cls) (hrb : gRd M b = some (.inr (ci, fs))) (hE : Ev G d' y (.ref b :: As) M r M') (hd : d' + 1 ≤ d) (hn : As.length = n) (hst : st0 = As.reverse ++ .ref b :: st) (hcat : (st.map fun v => v.category).sum ≤ 8) (hst' : r.toList ++ st = st') : Go G k d (pc, lv, st0, M) (pc + 3, lv, st', M') := by
  have hb12 := hE
  obtain ⟨_, _, _, ⟨⟨b1, b2⟩, -⟩, -⟩ := hb12
  refine go_call b1 b2 hst' (fun p l e R s m args below meth c H locs cells slots ls hK hS hR hls hcc hss => ?_)
  obtain ⟨hx, hb, hml, hown, hnm, hT, hZ, hb0, hf, hlo⟩ := hK
  have hws : ∀ w ∈ [Cond.code y.1 y.2.1 y.2.2.1 y.2.2.2], ∀ (a' : Array Value) (U : State), s.WarmedH U.vm → w.before a' U = true := fun w hw a' U hW => by
    rw [List.mem_singleton.mp hw]; exact word_at hW (gTB_good _ hc.1) (hT.1 _ hc.1 args)
  have hm21 := hc.2.2.2.2.1
  have hrecv : ∃ cell : Cell, H[b]? = some cell ∧ cell.vm.isStatics = false ∧ s.vm.findClass y.1.cls = some cell.cls := by
    obtain ⟨q', h1, cell, g1, g2, g3, -⟩ := hR.at hrb
    exact ⟨cell, g1, by rw [g3]; rfl, by rw [g2, ← hq1]; exact (hT.2.2.1 ci q hq).2.1⟩
  rcases hlk with h | ⟨host, h⟩
  · exact ⟨_, va_runV (As := As) (rest := st) (nL := k.2.2.1) (Ts := gTB) ⟨hx, hb, hml, hown, fun w hw => hT.1 w hw args⟩ (hE.met hc.2.2.2.1) ⟨⟨rfl, rfl, by dsimp only; omega, by dsimp only; omega, hws, List.mem_cons_self, hT.1 _ hc.1 args, hT.1 _ hc.2.1 args, hc.2.2.1, hc.len, hT.1 _ h args⟩, hT.1 _ hi args, hT.1 _ hsel args⟩ ⟨gPc_blind, hrecv, g_pre hT hZ hb0 hS hR⟩ rfl hn hls hst (lv_room hcat) hdg ⟨hcc, hss⟩⟩
  · exact ⟨_, va_runVN (As := As) (rest := st) (nL := k.2.2.1) (Ts := gTB) (host := host) ⟨hx, hb, hml, hown, fun w hw => hT.1 w hw args⟩ (hE.met hc.2.2.2.1) ⟨⟨⟨rfl, rfl, by dsimp only; omega, by dsimp only; omega, hws, List.mem_cons_self⟩, hT.1 _ hc.1 args, hT.1 _ hc.2.1 args, hc.2.2.1, hc.len, va_Nw.use rfl (hT.2.1 _ h)⟩, hT.1 _ hi args, hT.1 _ hsel args⟩ ⟨gPc_blind, hrecv, g_pre hT hZ hb0 hS hR⟩ rfl hn hls hst (lv_room hcat) hdg ⟨hcc, hss⟩⟩
theorem go_callI {y : gY} {n idx d' b : Nat} (As : List Value) {st0 : List Value} {M' : gM} (hc : gC0 y n) (hy : y.2.2.2 = none) (hy1 : y.1.name = "<init>") (hi : Cond.instanceMethod y.1 ∈ gTB) (hlk : gLk k.1.cls idx y) (hdg : decode k.2.1 pc = .ok (.invokespecial idx, 3)) (hE : Ev G d' y (.ref b :: As) M none M') (hd : d' + 1 ≤ d) (hn : As.length = n) (hst : st0 = As.reverse ++ .ref b :: st) (hcat : (st.map fun v => v.category).sum ≤ 8) : Go G k d (pc, lv, st0, M) (pc + 3, lv, st, M') := by
  have hb12 := hE
  obtain ⟨_, _, _, ⟨⟨b1, b2⟩, -⟩, -⟩ := hb12
  refine go_call (r := none) b1 b2 rfl (fun p l e R s m args below meth c H locs cells slots ls hK hS hR hls hcc hss => ?_)
  obtain ⟨hx, hb, hml, hown, hnm, hT, hZ, hb0, hf, hlo⟩ := hK
  obtain ⟨y0, yb, yn, yr⟩ := y
  dsimp only at hy
  subst hy
  have hws : ∀ w ∈ [Cond.code y0 yb yn none], ∀ (a' : Array Value) (U : State), s.WarmedH U.vm → w.before a' U = true := fun w hw a' U hW => by
    rw [List.mem_singleton.mp hw]; exact word_at hW (gTB_good _ hc.1) (hT.1 _ hc.1 args)
  have hm21 : yn ≤ 21 := hc.2.2.2.2.1
  rcases hlk with h | ⟨host, h⟩
  · exact ⟨_, va_runI (As := As) (rest := st) (nL := k.2.2.1) (Ts := gTB) ⟨hx, hb, hml, hown, fun w hw => hT.1 w hw args⟩ (hE.met hc.2.2.2.1) ⟨⟨rfl, rfl, by dsimp only; omega, by dsimp only; omega, hws, List.mem_cons_self, hT.1 _ hc.1 args, hT.1 _ hc.2.1 args, hc.2.2.1, hc.len, hT.1 _ h args⟩, hy1, hT.1 _ hi args⟩ ⟨gPc_blind, g_pre hT hZ hb0 hS hR⟩ rfl hn hls hst (lv_room hcat) hdg ⟨hcc, hss⟩⟩
  · exact ⟨_, va_runIN (As := As) (rest := st) (nL := k.2.2.1) (Ts := gTB) (host := host) ⟨hx, hb, hml, hown, fun w hw => hT.1 w hw args⟩ (hE.met hc.2.2.2.1) ⟨⟨⟨rfl, rfl, by dsimp only; omega, by dsimp only; omega, hws, List.mem_cons_self⟩, hT.1 _ hc.1 args, hT.1 _ hc.2.1 args, hc.2.2.1, hc.len, va_Nw.use rfl (hT.2.1 _ h)⟩, hy1, hT.1 _ hi args⟩ ⟨gPc_blind, g_pre hT hZ hb0 hS hR⟩ rfl hn hls hst (lv_room hcat) hdg ⟨hcc, hss⟩⟩
theorem go_obj {idx a : Nat} (h1 : Cond.methodLink k.1.cls idx Lib.objectInit ∈ gTB) (h2 : Cond.instanceMethod Lib.objectInit ∈ gTB) (h3 : Cond.code Lib.objectInit ⟨#[0xb1]⟩ 1 none ∈ gTB) (hdg : decode k.2.1 pc = .ok (.invokespecial idx, 3)) (hd : 1 ≤ d) (hcat : (st.map fun v => v.category).sum ≤ 8) : Go G k d (pc, lv, .ref a :: st, M) (pc + 3, lv, st, M) :=
  Go.pure (fun p l e R s m args below meth c H locs cells slots Q ls hK hS hR hc hs hl w => by
    obtain ⟨hx, hb, hml, hown, hnm, hT, hZ, hb0, hf, hlo⟩ := hK
    exact W.objInit hx hb hown (hT.1 _ h1 args) (hT.1 _ h2 args) (hT.1 _ h3 args) rfl (hl.1.trans hml.symm) rfl hdg (by omega) (by show 2 * 0 + _ + 12 ≤ _; omega) w)
end GCALL
end
section
abbrev b_PS_init : ByteArray := prog_1_method_1_code
def y_PS_init : MethodName := ⟨R_PS, "<init>", "()V"⟩
abbrev m_PS_init : gY := (y_PS_init, b_PS_init, 2, none)
abbrev b_Row_init : ByteArray := prog_8_method_1_code
def y_Row_init : MethodName := ⟨R_Row, "<init>", "(I)V"⟩
abbrev m_Row_init : gY := (y_Row_init, b_Row_init, 2, none)
abbrev b_Exp_init : ByteArray := prog_4_method_1_code
def y_Exp_init : MethodName := ⟨R_Exp, "<init>", "()V"⟩
abbrev m_Exp_init : gY := (y_Exp_init, b_Exp_init, 2, none)
abbrev b_Mac_init : ByteArray := prog_6_method_1_code
def y_Mac_init : MethodName := ⟨R_Mac, "<init>", "()V"⟩
abbrev m_Mac_init : gY := (y_Mac_init, b_Mac_init, 1, none)
abbrev b_Hyp_init : ByteArray := prog_5_method_1_code
def y_Hyp_init : MethodName := ⟨R_Hyp, "<init>", "()V"⟩
abbrev m_Hyp_init : gY := (y_Hyp_init, b_Hyp_init, 2, none)
abbrev b_Pat_init : ByteArray := prog_7_method_1_code
def y_Pat_init : MethodName := ⟨R_Pat, "<init>", "()V"⟩
abbrev m_Pat_init : gY := (y_Pat_init, b_Pat_init, 1, none)
abbrev b_Cho_init : ByteArray := prog_3_method_1_code
def y_Cho_init : MethodName := ⟨R_Cho, "<init>", "()V"⟩
abbrev m_Cho_init : gY := (y_Cho_init, b_Cho_init, 1, none)
abbrev b_Stg_init : ByteArray := prog_9_method_1_code
def y_Stg_init : MethodName := ⟨R_Stg, "<init>", "()V"⟩
abbrev m_Stg_init : gY := (y_Stg_init, b_Stg_init, 1, none)
abbrev b_Txt_init : ByteArray := prog_11_method_1_code
def y_Txt_init : MethodName := ⟨R_Txt, "<init>", "()V"⟩
abbrev m_Txt_init : gY := (y_Txt_init, b_Txt_init, 1, none)
abbrev b_Brk_init : ByteArray := prog_2_method_1_code
def y_Brk_init : MethodName := ⟨R_Brk, "<init>", "()V"⟩
abbrev m_Brk_init : gY := (y_Brk_init, b_Brk_init, 1, none)
abbrev b_Sum_init : ByteArray := prog_10_method_1_code
def y_Sum_init : MethodName := ⟨R_Sum, "<init>", "()V"⟩
abbrev m_Sum_init : gY := (y_Sum_init, b_Sum_init, 1, none)
abbrev b_PS_type : ByteArray := prog_1_method_2_code
def y_PS_type : MethodName := ⟨R_PS, "type", "(I)I"⟩
abbrev m_PS_type : gY := (y_PS_type, b_PS_type, 2, (some .int))
abbrev b_PS_isOfLine : ByteArray := prog_1_method_18_code
def y_PS_isOfLine : MethodName := ⟨R_PS, "isOfLine", "(I)Z"⟩
abbrev m_PS_isOfLine : gY := (y_PS_isOfLine, b_PS_isOfLine, 1, (some .boolean))
abbrev b_PS_isItem : ByteArray := prog_1_method_19_code
def y_PS_isItem : MethodName := ⟨R_PS, "isItem", "(I)Z"⟩
abbrev m_PS_isItem : gY := (y_PS_isItem, b_PS_isItem, 1, (some .boolean))
abbrev b_PS_hasWidth : ByteArray := prog_1_method_21_code
def y_PS_hasWidth : MethodName := ⟨R_PS, "hasWidth", "(I)Z"⟩
abbrev m_PS_hasWidth : gY := (y_PS_hasWidth, b_PS_hasWidth, 1, (some .boolean))
abbrev b_PS_isLetter : ByteArray := prog_1_method_15_code
def y_PS_isLetter : MethodName := ⟨R_PS, "isLetter", "(I)Z"⟩
abbrev m_PS_isLetter : gY := (y_PS_isLetter, b_PS_isLetter, 1, (some .boolean))
abbrev b_PS_isSpace : ByteArray := prog_1_method_20_code
def y_PS_isSpace : MethodName := ⟨R_PS, "isSpace", "(I)Z"⟩
abbrev m_PS_isSpace : gY := (y_PS_isSpace, b_PS_isSpace, 1, (some .boolean))
abbrev b_PS_isMacroName : ByteArray := prog_1_method_17_code
def y_PS_isMacroName : MethodName := ⟨R_PS, "isMacroName", "(I)Z"⟩
abbrev m_PS_isMacroName : gY := (y_PS_isMacroName, b_PS_isMacroName, 1, (some .boolean))
abbrev b_PS_isDigit : ByteArray := prog_1_method_16_code
def y_PS_isDigit : MethodName := ⟨R_PS, "isDigit", "(I)Z"⟩
abbrev m_PS_isDigit : gY := (y_PS_isDigit, b_PS_isDigit, 1, (some .boolean))
abbrev b_Row_isFull : ByteArray := prog_8_method_2_code
def y_Row_isFull : MethodName := ⟨R_Row, "isFull", "()Z"⟩
abbrev m_Row_isFull : gY := (y_Row_isFull, b_Row_isFull, 1, (some .boolean))
abbrev b_Row_add : ByteArray := prog_8_method_4_code
def y_Row_add : MethodName := ⟨R_Row, "add", "(I)V"⟩
abbrev m_Row_add : gY := (y_Row_add, b_Row_add, 2, none)
abbrev b_PS_wipe : ByteArray := prog_1_method_3_code
def y_PS_wipe : MethodName := ⟨R_PS, "wipe", "()I"⟩
abbrev m_PS_wipe : gY := (y_PS_wipe, b_PS_wipe, 1, (some .int))
abbrev b_Row_clear : ByteArray := prog_8_method_3_code
def y_Row_clear : MethodName := ⟨R_Row, "clear", "()V"⟩
abbrev m_Row_clear : gY := (y_Row_clear, b_Row_clear, 1, none)
abbrev b_PS_width : ByteArray := prog_1_method_4_code
def y_PS_width : MethodName := ⟨R_PS, "width", "(II)I"⟩
abbrev m_PS_width : gY := (y_PS_width, b_PS_width, 3, (some .int))
abbrev b_PS_widthIndex : ByteArray := prog_1_method_22_code
def y_PS_widthIndex : MethodName := ⟨R_PS, "widthIndex", "(I)I"⟩
abbrev m_PS_widthIndex : gY := (y_PS_widthIndex, b_PS_widthIndex, 1, (some .int))
abbrev b_PS_parameter : ByteArray := prog_1_method_5_code
def y_PS_parameter : MethodName := ⟨R_PS, "parameter", "(II)I"⟩
abbrev m_PS_parameter : gY := (y_PS_parameter, b_PS_parameter, 3, (some .int))
abbrev b_PS_define : ByteArray := prog_1_method_6_code
def y_PS_define : MethodName := ⟨R_PS, "define", "(I)I"⟩
abbrev m_PS_define : gY := (y_PS_define, b_PS_define, 2, (some .int))
abbrev b_Mac_become : ByteArray := prog_6_method_2_code
def y_Mac_become : MethodName := ⟨R_Mac, "become", "(LParagraphSetter$Row;)V"⟩
abbrev m_Mac_become : gY := (y_Mac_become, b_Mac_become, 2, none)
abbrev b_Row_become : ByteArray := prog_8_method_5_code
def y_Row_become : MethodName := ⟨R_Row, "become", "(LParagraphSetter$Row;)V"⟩
abbrev m_Row_become : gY := (y_Row_become, b_Row_become, 3, none)
abbrev b_PS_pattern : ByteArray := prog_1_method_7_code
def y_PS_pattern : MethodName := ⟨R_PS, "pattern", "()I"⟩
abbrev m_PS_pattern : gY := (y_PS_pattern, b_PS_pattern, 1, (some .int))
abbrev b_Hyp_isFull : ByteArray := prog_5_method_2_code
def y_Hyp_isFull : MethodName := ⟨R_Hyp, "isFull", "()Z"⟩
abbrev m_Hyp_isFull : gY := (y_Hyp_isFull, b_Hyp_isFull, 1, (some .boolean))
abbrev b_Hyp_learn : ByteArray := prog_5_method_3_code
def y_Hyp_learn : MethodName := ⟨R_Hyp, "learn", "(LParagraphSetter$Row;)Z"⟩
abbrev m_Hyp_learn : gY := (y_Hyp_learn, b_Hyp_learn, 2, (some .boolean))
abbrev b_Pat_read : ByteArray := prog_7_method_2_code
def y_Pat_read : MethodName := ⟨R_Pat, "read", "(LParagraphSetter$Row;)Z"⟩
abbrev m_Pat_read : gY := (y_Pat_read, b_Pat_read, 5, (some .boolean))
abbrev b_Pat_addSign : ByteArray := prog_7_method_3_code
def y_Pat_addSign : MethodName := ⟨R_Pat, "addSign", "(I)Z"⟩
abbrev m_Pat_addSign : gY := (y_Pat_addSign, b_Pat_addSign, 2, (some .boolean))
abbrev b_Pat_hasPointsAtEdgesOnly : ByteArray := prog_7_method_4_code
def y_Pat_hasPointsAtEdgesOnly : MethodName := ⟨R_Pat, "hasPointsAtEdgesOnly", "()Z"⟩
abbrev m_Pat_hasPointsAtEdgesOnly : gY := (y_Pat_hasPointsAtEdgesOnly, b_Pat_hasPointsAtEdgesOnly, 2, (some .boolean))
abbrev b_PS_paragraph : ByteArray := prog_1_method_8_code
def y_PS_paragraph : MethodName := ⟨R_PS, "paragraph", "()I"⟩
abbrev m_PS_paragraph : gY := (y_PS_paragraph, b_PS_paragraph, 2, (some .int))
abbrev b_Exp_expand : ByteArray := prog_4_method_2_code
def y_Exp_expand : MethodName := ⟨R_Exp, "expand", "(LParagraphSetter$Row;LParagraphSetter$Text;)I"⟩
abbrev m_Exp_expand : gY := (y_Exp_expand, b_Exp_expand, 5, (some .int))
abbrev b_Exp_begin : ByteArray := prog_4_method_3_code
def y_Exp_begin : MethodName := ⟨R_Exp, "begin", "(LParagraphSetter$Row;)V"⟩
abbrev m_Exp_begin : gY := (y_Exp_begin, b_Exp_begin, 3, none)
abbrev b_Exp_isListEmpty : ByteArray := prog_4_method_4_code
def y_Exp_isListEmpty : MethodName := ⟨R_Exp, "isListEmpty", "()Z"⟩
abbrev m_Exp_isListEmpty : gY := (y_Exp_isListEmpty, b_Exp_isListEmpty, 1, (some .boolean))
abbrev b_Exp_takeOff : ByteArray := prog_4_method_5_code
def y_Exp_takeOff : MethodName := ⟨R_Exp, "takeOff", "()I"⟩
abbrev m_Exp_takeOff : gY := (y_Exp_takeOff, b_Exp_takeOff, 2, (some .int))
abbrev b_Exp_obey : ByteArray := prog_4_method_6_code
def y_Exp_obey : MethodName := ⟨R_Exp, "obey", "(ILParagraphSetter$Text;)I"⟩
abbrev m_Exp_obey : gY := (y_Exp_obey, b_Exp_obey, 3, (some .int))
abbrev b_Exp_callMacro : ByteArray := prog_4_method_7_code
def y_Exp_callMacro : MethodName := ⟨R_Exp, "callMacro", "(LParagraphSetter$Macro;)I"⟩
abbrev m_Exp_callMacro : gY := (y_Exp_callMacro, b_Exp_callMacro, 4, (some .int))
abbrev b_Row_howMany : ByteArray := prog_8_method_6_code
def y_Row_howMany : MethodName := ⟨R_Row, "howMany", "(I)I"⟩
abbrev m_Row_howMany : gY := (y_Row_howMany, b_Row_howMany, 4, (some .int))
abbrev b_Exp_takeArgument : ByteArray := prog_4_method_8_code
def y_Exp_takeArgument : MethodName := ⟨R_Exp, "takeArgument", "()Z"⟩
abbrev m_Exp_takeArgument : gY := (y_Exp_takeArgument, b_Exp_takeArgument, 2, (some .boolean))
abbrev b_Exp_takeGroup : ByteArray := prog_4_method_9_code
def y_Exp_takeGroup : MethodName := ⟨R_Exp, "takeGroup", "()Z"⟩
abbrev m_Exp_takeGroup : gY := (y_Exp_takeGroup, b_Exp_takeGroup, 3, (some .boolean))
abbrev b_Exp_putInFront : ByteArray := prog_4_method_10_code
def y_Exp_putInFront : MethodName := ⟨R_Exp, "putInFront", "(LParagraphSetter$Row;)V"⟩
abbrev m_Exp_putInFront : gY := (y_Exp_putInFront, b_Exp_putInFront, 5, none)
abbrev b_Exp_openGroup : ByteArray := prog_4_method_11_code
def y_Exp_openGroup : MethodName := ⟨R_Exp, "openGroup", "()I"⟩
abbrev m_Exp_openGroup : gY := (y_Exp_openGroup, b_Exp_openGroup, 1, (some .int))
abbrev b_Exp_closeGroup : ByteArray := prog_4_method_12_code
def y_Exp_closeGroup : MethodName := ⟨R_Exp, "closeGroup", "()I"⟩
abbrev m_Exp_closeGroup : gY := (y_Exp_closeGroup, b_Exp_closeGroup, 1, (some .int))
abbrev b_Exp_changeSpace : ByteArray := prog_4_method_13_code
def y_Exp_changeSpace : MethodName := ⟨R_Exp, "changeSpace", "()I"⟩
abbrev m_Exp_changeSpace : gY := (y_Exp_changeSpace, b_Exp_changeSpace, 2, (some .int))
abbrev b_Txt_add : ByteArray := prog_11_method_2_code
def y_Txt_add : MethodName := ⟨R_Txt, "add", "(II)Z"⟩
abbrev m_Txt_add : gY := (y_Txt_add, b_Txt_add, 3, (some .boolean))
abbrev b_Txt_tidy : ByteArray := prog_11_method_5_code
def y_Txt_tidy : MethodName := ⟨R_Txt, "tidy", "()V"⟩
abbrev m_Txt_tidy : gY := (y_Txt_tidy, b_Txt_tidy, 1, none)
abbrev b_Txt_dropBlanksBehind : ByteArray := prog_11_method_6_code
def y_Txt_dropBlanksBehind : MethodName := ⟨R_Txt, "dropBlanksBehind", "()V"⟩
abbrev m_Txt_dropBlanksBehind : gY := (y_Txt_dropBlanksBehind, b_Txt_dropBlanksBehind, 4, none)
abbrev b_Txt_move : ByteArray := prog_11_method_9_code
def y_Txt_move : MethodName := ⟨R_Txt, "move", "(II)V"⟩
abbrev m_Txt_move : gY := (y_Txt_move, b_Txt_move, 3, none)
abbrev b_Txt_dropBlanksBefore : ByteArray := prog_11_method_7_code
def y_Txt_dropBlanksBefore : MethodName := ⟨R_Txt, "dropBlanksBefore", "()V"⟩
abbrev m_Txt_dropBlanksBefore : gY := (y_Txt_dropBlanksBefore, b_Txt_dropBlanksBefore, 4, none)
abbrev b_Txt_dropBarsBehind : ByteArray := prog_11_method_8_code
def y_Txt_dropBarsBehind : MethodName := ⟨R_Txt, "dropBarsBehind", "()V"⟩
abbrev m_Txt_dropBarsBehind : gY := (y_Txt_dropBarsBehind, b_Txt_dropBarsBehind, 4, none)
abbrev b_Hyp_weigh : ByteArray := prog_5_method_5_code
def y_Hyp_weigh : MethodName := ⟨R_Hyp, "weigh", "(LParagraphSetter$Text;)V"⟩
abbrev m_Hyp_weigh : gY := (y_Hyp_weigh, b_Hyp_weigh, 4, none)
abbrev b_Txt_isLetterAt : ByteArray := prog_11_method_4_code
def y_Txt_isLetterAt : MethodName := ⟨R_Txt, "isLetterAt", "(I)Z"⟩
abbrev m_Txt_isLetterAt : gY := (y_Txt_isLetterAt, b_Txt_isLetterAt, 2, (some .boolean))
abbrev b_Hyp_weighWord : ByteArray := prog_5_method_6_code
def y_Hyp_weighWord : MethodName := ⟨R_Hyp, "weighWord", "(LParagraphSetter$Text;II)V"⟩
abbrev m_Hyp_weighWord : gY := (y_Hyp_weighWord, b_Hyp_weighWord, 7, none)
abbrev b_Hyp_stands : ByteArray := prog_5_method_7_code
def y_Hyp_stands : MethodName := ⟨R_Hyp, "stands", "(LParagraphSetter$Pattern;LParagraphSetter$Text;III)Z"⟩
abbrev m_Hyp_stands : gY := (y_Hyp_stands, b_Hyp_stands, 8, (some .boolean))
abbrev b_Hyp_raise : ByteArray := prog_5_method_8_code
def y_Hyp_raise : MethodName := ⟨R_Hyp, "raise", "(LParagraphSetter$Pattern;III)V"⟩
abbrev m_Hyp_raise : gY := (y_Hyp_raise, b_Hyp_raise, 7, none)
abbrev b_Math_max : ByteArray := prog_14_method_65_code
def y_Math_max : MethodName := ⟨R_Math, "max", "(II)I"⟩
abbrev m_Math_max : gY := (y_Math_max, b_Math_max, 2, (some .int))
abbrev b_Brk_find : ByteArray := prog_2_method_2_code
def y_Brk_find : MethodName := ⟨R_Brk, "find", "(LParagraphSetter$Text;LParagraphSetter$Hyphenator;)Z"⟩
abbrev m_Brk_find : gY := (y_Brk_find, b_Brk_find, 4, (some .boolean))
abbrev b_Hyp_isPoint : ByteArray := prog_5_method_4_code
def y_Hyp_isPoint : MethodName := ⟨R_Hyp, "isPoint", "(I)Z"⟩
abbrev m_Hyp_isPoint : gY := (y_Hyp_isPoint, b_Hyp_isPoint, 2, (some .boolean))
abbrev b_Brk_add : ByteArray := prog_2_method_5_code
def y_Brk_add : MethodName := ⟨R_Brk, "add", "(III)Z"⟩
abbrev m_Brk_add : gY := (y_Brk_add, b_Brk_add, 4, (some .boolean))
abbrev b_Brk_addAt : ByteArray := prog_2_method_4_code
def y_Brk_addAt : MethodName := ⟨R_Brk, "addAt", "(LParagraphSetter$Text;I)Z"⟩
abbrev m_Brk_addAt : gY := (y_Brk_addAt, b_Brk_addAt, 4, (some .boolean))
abbrev b_Txt_isBlank : ByteArray := prog_11_method_3_code
def y_Txt_isBlank : MethodName := ⟨R_Txt, "isBlank", "(I)Z"⟩
abbrev m_Txt_isBlank : gY := (y_Txt_isBlank, b_Txt_isBlank, 2, (some .boolean))
abbrev b_Stg_measure : ByteArray := prog_9_method_2_code
def y_Stg_measure : MethodName := ⟨R_Stg, "measure", "([I[I)V"⟩
abbrev m_Stg_measure : gY := (y_Stg_measure, b_Stg_measure, 4, none)
abbrev b_Sum_addUp : ByteArray := prog_10_method_2_code
def y_Sum_addUp : MethodName := ⟨R_Sum, "addUp", "(LParagraphSetter$Text;[I)V"⟩
abbrev m_Sum_addUp : gY := (y_Sum_addUp, b_Sum_addUp, 6, none)
abbrev b_Cho_choose : ByteArray := prog_3_method_2_code
def y_Cho_choose : MethodName := ⟨R_Cho, "choose", "(LParagraphSetter$Setting;)Z"⟩
abbrev m_Cho_choose : gY := (y_Cho_choose, b_Cho_choose, 4, (some .boolean))
abbrev b_Cho_findNext : ByteArray := prog_3_method_3_code
def y_Cho_findNext : MethodName := ⟨R_Cho, "findNext", "(LParagraphSetter$Setting;I)V"⟩
abbrev m_Cho_findNext : gY := (y_Cho_findNext, b_Cho_findNext, 9, none)
abbrev b_Stg_badness : ByteArray := prog_9_method_7_code
def y_Stg_badness : MethodName := ⟨R_Stg, "badness", "(II)J"⟩
abbrev m_Stg_badness : gY := (y_Stg_badness, b_Stg_badness, 7, (some .long))
abbrev b_Stg_letters : ByteArray := prog_9_method_4_code
def y_Stg_letters : MethodName := ⟨R_Stg, "letters", "(II)I"⟩
abbrev m_Stg_letters : gY := (y_Stg_letters, b_Stg_letters, 3, (some .int))
abbrev b_Stg_over : ByteArray := prog_9_method_14_code
def y_Stg_over : MethodName := ⟨R_Stg, "over", "([III)I"⟩
abbrev m_Stg_over : gY := (y_Stg_over, b_Stg_over, 4, (some .int))
abbrev b_Stg_difference : ByteArray := prog_9_method_6_code
def y_Stg_difference : MethodName := ⟨R_Stg, "difference", "(II)I"⟩
abbrev m_Stg_difference : gY := (y_Stg_difference, b_Stg_difference, 3, (some .int))
abbrev b_Stg_natural : ByteArray := prog_9_method_5_code
def y_Stg_natural : MethodName := ⟨R_Stg, "natural", "(II)I"⟩
abbrev m_Stg_natural : gY := (y_Stg_natural, b_Stg_natural, 3, (some .int))
abbrev b_Stg_isLoose : ByteArray := prog_9_method_13_code
def y_Stg_isLoose : MethodName := ⟨R_Stg, "isLoose", "(II)Z"⟩
abbrev m_Stg_isLoose : gY := (y_Stg_isLoose, b_Stg_isLoose, 3, (some .boolean))
abbrev b_Math_abs : ByteArray := prog_14_method_59_code
def y_Math_abs : MethodName := ⟨R_Math, "abs", "(I)I"⟩
abbrev m_Math_abs : gY := (y_Math_abs, b_Math_abs, 1, (some .int))
abbrev b_Stg_cube : ByteArray := prog_9_method_16_code
def y_Stg_cube : MethodName := ⟨R_Stg, "cube", "(J)J"⟩
abbrev m_Stg_cube : gY := (y_Stg_cube, b_Stg_cube, 2, (some .long))
abbrev b_Stg_price : ByteArray := prog_9_method_8_code
def y_Stg_price : MethodName := ⟨R_Stg, "price", "(IIJ)J"⟩
abbrev m_Stg_price : gY := (y_Stg_price, b_Stg_price, 7, (some .long))
abbrev b_Stg_square : ByteArray := prog_9_method_15_code
def y_Stg_square : MethodName := ⟨R_Stg, "square", "(J)J"⟩
abbrev m_Stg_square : gY := (y_Stg_square, b_Stg_square, 2, (some .long))
abbrev b_Cho_keepBetter : ByteArray := prog_3_method_4_code
def y_Cho_keepBetter : MethodName := ⟨R_Cho, "keepBetter", "(IIJ)V"⟩
abbrev m_Cho_keepBetter : gY := (y_Cho_keepBetter, b_Cho_keepBetter, 8, none)
abbrev b_Cho_follow : ByteArray := prog_3_method_5_code
def y_Cho_follow : MethodName := ⟨R_Cho, "follow", "(LParagraphSetter$Setting;)V"⟩
abbrev m_Cho_follow : gY := (y_Cho_follow, b_Cho_follow, 4, none)
abbrev b_PS_showDraft : ByteArray := prog_1_method_14_code
def y_PS_showDraft : MethodName := ⟨R_PS, "showDraft", "()V"⟩
abbrev m_PS_showDraft : gY := (y_PS_showDraft, b_PS_showDraft, 2, none)
abbrev b_PS_cost : ByteArray := prog_1_method_9_code
def y_PS_cost : MethodName := ⟨R_PS, "cost", "()J"⟩
abbrev m_PS_cost : gY := (y_PS_cost, b_PS_cost, 1, (some .long))
abbrev b_PS_line : ByteArray := prog_1_method_10_code
def y_PS_line : MethodName := ⟨R_PS, "line", "(II)I"⟩
abbrev m_PS_line : gY := (y_PS_line, b_PS_line, 5, (some .int))
abbrev b_Stg_hasLine : ByteArray := prog_9_method_3_code
def y_Stg_hasLine : MethodName := ⟨R_Stg, "hasLine", "(I)Z"⟩
abbrev m_Stg_hasLine : gY := (y_Stg_hasLine, b_Stg_hasLine, 2, (some .boolean))
abbrev b_PS_character : ByteArray := prog_1_method_11_code
def y_PS_character : MethodName := ⟨R_PS, "character", "(II)I"⟩
abbrev m_PS_character : gY := (y_PS_character, b_PS_character, 3, (some .int))
abbrev b_Stg_codeAt : ByteArray := prog_9_method_10_code
def y_Stg_codeAt : MethodName := ⟨R_Stg, "codeAt", "(II)I"⟩
abbrev m_Stg_codeAt : gY := (y_Stg_codeAt, b_Stg_codeAt, 4, (some .int))
abbrev b_Stg_length : ByteArray := prog_9_method_9_code
def y_Stg_length : MethodName := ⟨R_Stg, "length", "(I)I"⟩
abbrev m_Stg_length : gY := (y_Stg_length, b_Stg_length, 2, (some .int))
abbrev b_Stg_items : ByteArray := prog_9_method_12_code
def y_Stg_items : MethodName := ⟨R_Stg, "items", "(I)I"⟩
abbrev m_Stg_items : gY := (y_Stg_items, b_Stg_items, 2, (some .int))
abbrev b_PS_place : ByteArray := prog_1_method_12_code
def y_PS_place : MethodName := ⟨R_PS, "place", "(II)I"⟩
abbrev m_PS_place : gY := (y_PS_place, b_PS_place, 3, (some .int))
abbrev b_Stg_placeOf : ByteArray := prog_9_method_11_code
def y_Stg_placeOf : MethodName := ⟨R_Stg, "placeOf", "(II)I"⟩
abbrev m_Stg_placeOf : gY := (y_Stg_placeOf, b_Stg_placeOf, 10, (some .int))
abbrev b_Math_floorDiv : ByteArray := prog_14_method_47_code
def y_Math_floorDiv : MethodName := ⟨R_Math, "floorDiv", "(II)I"⟩
abbrev m_Math_floorDiv : gY := (y_Math_floorDiv, b_Math_floorDiv, 3, (some .int))
abbrev b_PS_count : ByteArray := prog_1_method_13_code
def y_PS_count : MethodName := ⟨R_PS, "count", "(I)I"⟩
abbrev m_PS_count : gY := (y_PS_count, b_PS_count, 2, (some .int))
abbrev b_Brk_points : ByteArray := prog_2_method_3_code
def y_Brk_points : MethodName := ⟨R_Brk, "points", "()I"⟩
abbrev m_Brk_points : gY := (y_Brk_points, b_Brk_points, 3, (some .int))
abbrev b_Mod_init : ByteArray := prog_13_method_1_code
def y_Mod_init : MethodName := ⟨R_Mod, "<init>", "()V"⟩
abbrev m_Mod_init : gY := (y_Mod_init, b_Mod_init, 2, none)
abbrev b_Mod_type : ByteArray := prog_13_method_4_code
def y_Mod_type : MethodName := ⟨R_Mod, "type", "(I)I"⟩
abbrev m_Mod_type : gY := (y_Mod_type, b_Mod_type, 3, (some .int))
abbrev b_Mod_letter : ByteArray := prog_13_method_2_code
def y_Mod_letter : MethodName := ⟨R_Mod, "letter", "(I)Z"⟩
abbrev m_Mod_letter : gY := (y_Mod_letter, b_Mod_letter, 1, (some .boolean))
abbrev b_Mod_digit : ByteArray := prog_13_method_3_code
def y_Mod_digit : MethodName := ⟨R_Mod, "digit", "(I)Z"⟩
abbrev m_Mod_digit : gY := (y_Mod_digit, b_Mod_digit, 1, (some .boolean))
abbrev b_Mod_wipe : ByteArray := prog_13_method_5_code
def y_Mod_wipe : MethodName := ⟨R_Mod, "wipe", "()I"⟩
abbrev m_Mod_wipe : gY := (y_Mod_wipe, b_Mod_wipe, 1, (some .int))
abbrev b_Mod_width : ByteArray := prog_13_method_6_code
def y_Mod_width : MethodName := ⟨R_Mod, "width", "(II)I"⟩
abbrev m_Mod_width : gY := (y_Mod_width, b_Mod_width, 3, (some .int))
abbrev b_Mod_parameter : ByteArray := prog_13_method_7_code
def y_Mod_parameter : MethodName := ⟨R_Mod, "parameter", "(II)I"⟩
abbrev m_Mod_parameter : gY := (y_Mod_parameter, b_Mod_parameter, 5, (some .int))
abbrev b_Mod_define : ByteArray := prog_13_method_8_code
def y_Mod_define : MethodName := ⟨R_Mod, "define", "(I)I"⟩
abbrev m_Mod_define : gY := (y_Mod_define, b_Mod_define, 3, (some .int))
abbrev b_Mod_pattern : ByteArray := prog_13_method_9_code
def y_Mod_pattern : MethodName := ⟨R_Mod, "pattern", "()I"⟩
abbrev m_Mod_pattern : gY := (y_Mod_pattern, b_Mod_pattern, 4, (some .int))
abbrev b_Mod_paragraph : ByteArray := prog_13_method_25_code
def y_Mod_paragraph : MethodName := ⟨R_Mod, "paragraph", "()I"⟩
abbrev m_Mod_paragraph : gY := (y_Mod_paragraph, b_Mod_paragraph, 2, (some .int))
abbrev b_Mod_expand : ByteArray := prog_13_method_13_code
def y_Mod_expand : MethodName := ⟨R_Mod, "expand", "()I"⟩
abbrev m_Mod_expand : gY := (y_Mod_expand, b_Mod_expand, 5, (some .int))
abbrev b_Mod_take : ByteArray := prog_13_method_10_code
def y_Mod_take : MethodName := ⟨R_Mod, "take", "()I"⟩
abbrev m_Mod_take : gY := (y_Mod_take, b_Mod_take, 3, (some .int))
abbrev b_Mod_call : ByteArray := prog_13_method_12_code
def y_Mod_call : MethodName := ⟨R_Mod, "call", "(I)I"⟩
abbrev m_Mod_call : gY := (y_Mod_call, b_Mod_call, 8, (some .int))
abbrev b_Mod_takeArgument : ByteArray := prog_13_method_11_code
def y_Mod_takeArgument : MethodName := ⟨R_Mod, "takeArgument", "()Z"⟩
abbrev m_Mod_takeArgument : gY := (y_Mod_takeArgument, b_Mod_takeArgument, 4, (some .boolean))
abbrev b_Mod_clean : ByteArray := prog_13_method_15_code
def y_Mod_clean : MethodName := ⟨R_Mod, "clean", "()V"⟩
abbrev m_Mod_clean : gY := (y_Mod_clean, b_Mod_clean, 3, none)
abbrev b_Mod_drop : ByteArray := prog_13_method_14_code
def y_Mod_drop : MethodName := ⟨R_Mod, "drop", "(I)V"⟩
abbrev m_Mod_drop : gY := (y_Mod_drop, b_Mod_drop, 3, none)
abbrev b_Mod_hyphenate : ByteArray := prog_13_method_18_code
def y_Mod_hyphenate : MethodName := ⟨R_Mod, "hyphenate", "()V"⟩
abbrev m_Mod_hyphenate : gY := (y_Mod_hyphenate, b_Mod_hyphenate, 4, none)
abbrev b_Mod_greatest : ByteArray := prog_13_method_17_code
def y_Mod_greatest : MethodName := ⟨R_Mod, "greatest", "(III)I"⟩
abbrev m_Mod_greatest : gY := (y_Mod_greatest, b_Mod_greatest, 9, (some .int))
abbrev b_Mod_signOf : ByteArray := prog_13_method_16_code
def y_Mod_signOf : MethodName := ⟨R_Mod, "signOf", "(III)I"⟩
abbrev m_Mod_signOf : gY := (y_Mod_signOf, b_Mod_signOf, 4, (some .int))
abbrev b_Mod_findBreaks : ByteArray := prog_13_method_20_code
def y_Mod_findBreaks : MethodName := ⟨R_Mod, "findBreaks", "()Z"⟩
abbrev m_Mod_findBreaks : gY := (y_Mod_findBreaks, b_Mod_findBreaks, 2, (some .boolean))
abbrev b_Mod_addBreak : ByteArray := prog_13_method_19_code
def y_Mod_addBreak : MethodName := ⟨R_Mod, "addBreak", "(III)Z"⟩
abbrev m_Mod_addBreak : gY := (y_Mod_addBreak, b_Mod_addBreak, 4, (some .boolean))
abbrev b_Mod_solve : ByteArray := prog_13_method_23_code
def y_Mod_solve : MethodName := ⟨R_Mod, "solve", "()V"⟩
abbrev m_Mod_solve : gY := (y_Mod_solve, b_Mod_solve, 6, none)
abbrev b_Mod_measure : ByteArray := prog_13_method_21_code
def y_Mod_measure : MethodName := ⟨R_Mod, "measure", "(II)Z"⟩
abbrev m_Mod_measure : gY := (y_Mod_measure, b_Mod_measure, 10, (some .boolean))
abbrev b_Mod_price : ByteArray := prog_13_method_22_code
def y_Mod_price : MethodName := ⟨R_Mod, "price", "(II)J"⟩
abbrev m_Mod_price : gY := (y_Mod_price, b_Mod_price, 7, (some .long))
abbrev b_Mod_jot : ByteArray := prog_13_method_24_code
def y_Mod_jot : MethodName := ⟨R_Mod, "jot", "()V"⟩
abbrev m_Mod_jot : gY := (y_Mod_jot, b_Mod_jot, 4, none)
abbrev b_Mod_cost : ByteArray := prog_13_method_26_code
def y_Mod_cost : MethodName := ⟨R_Mod, "cost", "()J"⟩
abbrev m_Mod_cost : gY := (y_Mod_cost, b_Mod_cost, 1, (some .long))
abbrev b_Mod_line : ByteArray := prog_13_method_28_code
def y_Mod_line : MethodName := ⟨R_Mod, "line", "(II)I"⟩
abbrev m_Mod_line : gY := (y_Mod_line, b_Mod_line, 5, (some .int))
abbrev b_Mod_isLine : ByteArray := prog_13_method_27_code
def y_Mod_isLine : MethodName := ⟨R_Mod, "isLine", "(I)Z"⟩
abbrev m_Mod_isLine : gY := (y_Mod_isLine, b_Mod_isLine, 2, (some .boolean))
abbrev b_Mod_character : ByteArray := prog_13_method_30_code
def y_Mod_character : MethodName := ⟨R_Mod, "character", "(II)I"⟩
abbrev m_Mod_character : gY := (y_Mod_character, b_Mod_character, 4, (some .int))
abbrev b_Mod_characters : ByteArray := prog_13_method_29_code
def y_Mod_characters : MethodName := ⟨R_Mod, "characters", "(I)I"⟩
abbrev m_Mod_characters : gY := (y_Mod_characters, b_Mod_characters, 2, (some .int))
abbrev b_Mod_place : ByteArray := prog_13_method_31_code
def y_Mod_place : MethodName := ⟨R_Mod, "place", "(II)I"⟩
abbrev m_Mod_place : gY := (y_Mod_place, b_Mod_place, 9, (some .int))
abbrev b_Mod_count : ByteArray := prog_13_method_32_code
def y_Mod_count : MethodName := ⟨R_Mod, "count", "(I)I"⟩
abbrev m_Mod_count : gY := (y_Mod_count, b_Mod_count, 2, (some .int))
abbrev b_Law_law : ByteArray := code
def y_Law_law : MethodName := ⟨R_Law, "law", "([I)Z"⟩
abbrev m_Law_law : gY := (y_Law_law, b_Law_law, 4, (some .boolean))
end
section
theorem c0_PS_init : gC0 m_PS_init 0 := ⟨gTB_t (gIn1 (List.mem_of_getElem? (i := 18) (by decide +kernel))) (by decide +kernel), gTB_t (gIn1 (List.mem_of_getElem? (i := 1) (by decide +kernel))) (by decide +kernel), ⟨by decide +kernel, by decide +kernel⟩, by decide +kernel, by decide, by decide +kernel⟩
theorem im_PS_init : Cond.instanceMethod y_PS_init ∈ gTB := gTB_t (gIn1 (List.mem_of_getElem? (i := 17) (by decide +kernel))) (by decide +kernel)
theorem c0_Row_init : gC0 m_Row_init 1 := ⟨gTB_t (gIn1 (List.mem_of_getElem? (i := 26) (by decide +kernel))) (by decide +kernel), gTB_t (gIn1 (List.mem_of_getElem? (i := 2) (by decide +kernel))) (by decide +kernel), ⟨by decide +kernel, by decide +kernel⟩, by decide +kernel, by decide, by decide +kernel⟩
theorem im_Row_init : Cond.instanceMethod y_Row_init ∈ gTB := gTB_t (gIn1 (List.mem_of_getElem? (i := 25) (by decide +kernel))) (by decide +kernel)
theorem c0_Exp_init : gC0 m_Exp_init 0 := ⟨gTB_t (gIn1 (List.mem_of_getElem? (i := 47) (by decide +kernel))) (by decide +kernel), gTB_t (gIn1 (List.mem_of_getElem? (i := 3) (by decide +kernel))) (by decide +kernel), ⟨by decide +kernel, by decide +kernel⟩, by decide +kernel, by decide, by decide +kernel⟩
theorem im_Exp_init : Cond.instanceMethod y_Exp_init ∈ gTB := gTB_t (gIn1 (List.mem_of_getElem? (i := 46) (by decide +kernel))) (by decide +kernel)
theorem c0_Mac_init : gC0 m_Mac_init 0 := ⟨gTB_t (gIn1 (List.mem_of_getElem? (i := 56) (by decide +kernel))) (by decide +kernel), gTB_t (gIn1 (List.mem_of_getElem? (i := 4) (by decide +kernel))) (by decide +kernel), ⟨by decide +kernel, by decide +kernel⟩, by decide +kernel, by decide, by decide +kernel⟩
theorem im_Mac_init : Cond.instanceMethod y_Mac_init ∈ gTB := gTB_t (gIn1 (List.mem_of_getElem? (i := 55) (by decide +kernel))) (by decide +kernel)
theorem c0_Hyp_init : gC0 m_Hyp_init 0 := ⟨gTB_t (gIn1 (List.mem_of_getElem? (i := 100) (by decide +kernel))) (by decide +kernel), gTB_t (gIn1 (List.mem_of_getElem? (i := 5) (by decide +kernel))) (by decide +kernel), ⟨by decide +kernel, by decide +kernel⟩, by decide +kernel, by decide, by decide +kernel⟩
theorem im_Hyp_init : Cond.instanceMethod y_Hyp_init ∈ gTB := gTB_t (gIn1 (List.mem_of_getElem? (i := 99) (by decide +kernel))) (by decide +kernel)
theorem c0_Pat_init : gC0 m_Pat_init 0 := ⟨gTB_t (gIn1 (List.mem_of_getElem? (i := 107) (by decide +kernel))) (by decide +kernel), gTB_t (gIn1 (List.mem_of_getElem? (i := 6) (by decide +kernel))) (by decide +kernel), ⟨by decide +kernel, by decide +kernel⟩, by decide +kernel, by decide, by decide +kernel⟩
theorem im_Pat_init : Cond.instanceMethod y_Pat_init ∈ gTB := gTB_t (gIn1 (List.mem_of_getElem? (i := 106) (by decide +kernel))) (by decide +kernel)
theorem c0_Cho_init : gC0 m_Cho_init 0 := ⟨gTB_t (gIn1 (List.mem_of_getElem? (i := 137) (by decide +kernel))) (by decide +kernel), gTB_t (gIn1 (List.mem_of_getElem? (i := 7) (by decide +kernel))) (by decide +kernel), ⟨by decide +kernel, by decide +kernel⟩, by decide +kernel, by decide, by decide +kernel⟩
theorem im_Cho_init : Cond.instanceMethod y_Cho_init ∈ gTB := gTB_t (gIn1 (List.mem_of_getElem? (i := 136) (by decide +kernel))) (by decide +kernel)
theorem c0_Stg_init : gC0 m_Stg_init 0 := ⟨gTB_t (gIn1 (List.mem_of_getElem? (i := 154) (by decide +kernel))) (by decide +kernel), gTB_t (gIn1 (List.mem_of_getElem? (i := 8) (by decide +kernel))) (by decide +kernel), ⟨by decide +kernel, by decide +kernel⟩, by decide +kernel, by decide, by decide +kernel⟩
theorem im_Stg_init : Cond.instanceMethod y_Stg_init ∈ gTB := gTB_t (gIn1 (List.mem_of_getElem? (i := 153) (by decide +kernel))) (by decide +kernel)
theorem c0_Txt_init : gC0 m_Txt_init 0 := ⟨gTB_t (gIn1 (List.mem_of_getElem? (i := 160) (by decide +kernel))) (by decide +kernel), gTB_t (gIn1 (List.mem_of_getElem? (i := 9) (by decide +kernel))) (by decide +kernel), ⟨by decide +kernel, by decide +kernel⟩, by decide +kernel, by decide, by decide +kernel⟩
theorem im_Txt_init : Cond.instanceMethod y_Txt_init ∈ gTB := gTB_t (gIn1 (List.mem_of_getElem? (i := 159) (by decide +kernel))) (by decide +kernel)
theorem c0_Brk_init : gC0 m_Brk_init 0 := ⟨gTB_t (gIn1 (List.mem_of_getElem? (i := 186) (by decide +kernel))) (by decide +kernel), gTB_t (gIn1 (List.mem_of_getElem? (i := 10) (by decide +kernel))) (by decide +kernel), ⟨by decide +kernel, by decide +kernel⟩, by decide +kernel, by decide, by decide +kernel⟩
theorem im_Brk_init : Cond.instanceMethod y_Brk_init ∈ gTB := gTB_t (gIn1 (List.mem_of_getElem? (i := 185) (by decide +kernel))) (by decide +kernel)
theorem c0_Sum_init : gC0 m_Sum_init 0 := ⟨gTB_t (gIn1 (List.mem_of_getElem? (i := 212) (by decide +kernel))) (by decide +kernel), gTB_t (gIn1 (List.mem_of_getElem? (i := 11) (by decide +kernel))) (by decide +kernel), ⟨by decide +kernel, by decide +kernel⟩, by decide +kernel, by decide, by decide +kernel⟩
theorem im_Sum_init : Cond.instanceMethod y_Sum_init ∈ gTB := gTB_t (gIn1 (List.mem_of_getElem? (i := 211) (by decide +kernel))) (by decide +kernel)
theorem c0_PS_type : gC0 m_PS_type 1 := ⟨gTB_t (gIn2 (List.mem_of_getElem? (i := 62) (by decide +kernel))) (by decide +kernel), gTB_t (gIn1 (List.mem_of_getElem? (i := 1) (by decide +kernel))) (by decide +kernel), ⟨by decide +kernel, by decide +kernel⟩, by decide +kernel, by decide, by decide +kernel⟩
theorem im_PS_type : Cond.instanceMethod y_PS_type ∈ gTB := gTB_t (gIn2 (List.mem_of_getElem? (i := 60) (by decide +kernel))) (by decide +kernel)
theorem se_PS_type : Cond.selects y_PS_type.cls y_PS_type y_PS_type ∈ gTB := gTB_t (gIn2 (List.mem_of_getElem? (i := 61) (by decide +kernel))) (by decide +kernel)
theorem c0_PS_isOfLine : gC0 m_PS_isOfLine 1 := ⟨gTB_t (gIn2 (List.mem_of_getElem? (i := 65) (by decide +kernel))) (by decide +kernel), gTB_t (gIn1 (List.mem_of_getElem? (i := 1) (by decide +kernel))) (by decide +kernel), ⟨by decide +kernel, by decide +kernel⟩, by decide +kernel, by decide, by decide +kernel⟩
theorem sm_PS_isOfLine : Cond.static y_PS_isOfLine ∈ gTB := gTB_t (gIn2 (List.mem_of_getElem? (i := 64) (by decide +kernel))) (by decide +kernel)
theorem c0_PS_isItem : gC0 m_PS_isItem 1 := ⟨gTB_t (gIn2 (List.mem_of_getElem? (i := 68) (by decide +kernel))) (by decide +kernel), gTB_t (gIn1 (List.mem_of_getElem? (i := 1) (by decide +kernel))) (by decide +kernel), ⟨by decide +kernel, by decide +kernel⟩, by decide +kernel, by decide, by decide +kernel⟩
theorem sm_PS_isItem : Cond.static y_PS_isItem ∈ gTB := gTB_t (gIn2 (List.mem_of_getElem? (i := 67) (by decide +kernel))) (by decide +kernel)
theorem c0_PS_hasWidth : gC0 m_PS_hasWidth 1 := ⟨gTB_t (gIn2 (List.mem_of_getElem? (i := 71) (by decide +kernel))) (by decide +kernel), gTB_t (gIn1 (List.mem_of_getElem? (i := 1) (by decide +kernel))) (by decide +kernel), ⟨by decide +kernel, by decide +kernel⟩, by decide +kernel, by decide, by decide +kernel⟩
theorem sm_PS_hasWidth : Cond.static y_PS_hasWidth ∈ gTB := gTB_t (gIn2 (List.mem_of_getElem? (i := 70) (by decide +kernel))) (by decide +kernel)
theorem c0_PS_isLetter : gC0 m_PS_isLetter 1 := ⟨gTB_t (gIn2 (List.mem_of_getElem? (i := 74) (by decide +kernel))) (by decide +kernel), gTB_t (gIn1 (List.mem_of_getElem? (i := 1) (by decide +kernel))) (by decide +kernel), ⟨by decide +kernel, by decide +kernel⟩, by decide +kernel, by decide, by decide +kernel⟩
theorem sm_PS_isLetter : Cond.static y_PS_isLetter ∈ gTB := gTB_t (gIn2 (List.mem_of_getElem? (i := 73) (by decide +kernel))) (by decide +kernel)
theorem c0_PS_isSpace : gC0 m_PS_isSpace 1 := ⟨gTB_t (gIn2 (List.mem_of_getElem? (i := 77) (by decide +kernel))) (by decide +kernel), gTB_t (gIn1 (List.mem_of_getElem? (i := 1) (by decide +kernel))) (by decide +kernel), ⟨by decide +kernel, by decide +kernel⟩, by decide +kernel, by decide, by decide +kernel⟩
theorem sm_PS_isSpace : Cond.static y_PS_isSpace ∈ gTB := gTB_t (gIn2 (List.mem_of_getElem? (i := 76) (by decide +kernel))) (by decide +kernel)
theorem c0_PS_isMacroName : gC0 m_PS_isMacroName 1 := ⟨gTB_t (gIn2 (List.mem_of_getElem? (i := 80) (by decide +kernel))) (by decide +kernel), gTB_t (gIn1 (List.mem_of_getElem? (i := 1) (by decide +kernel))) (by decide +kernel), ⟨by decide +kernel, by decide +kernel⟩, by decide +kernel, by decide, by decide +kernel⟩
theorem sm_PS_isMacroName : Cond.static y_PS_isMacroName ∈ gTB := gTB_t (gIn2 (List.mem_of_getElem? (i := 79) (by decide +kernel))) (by decide +kernel)
theorem c0_PS_isDigit : gC0 m_PS_isDigit 1 := ⟨gTB_t (gIn2 (List.mem_of_getElem? (i := 83) (by decide +kernel))) (by decide +kernel), gTB_t (gIn1 (List.mem_of_getElem? (i := 1) (by decide +kernel))) (by decide +kernel), ⟨by decide +kernel, by decide +kernel⟩, by decide +kernel, by decide, by decide +kernel⟩
theorem sm_PS_isDigit : Cond.static y_PS_isDigit ∈ gTB := gTB_t (gIn2 (List.mem_of_getElem? (i := 82) (by decide +kernel))) (by decide +kernel)
theorem c0_Row_isFull : gC0 m_Row_isFull 0 := ⟨gTB_t (gIn2 (List.mem_of_getElem? (i := 87) (by decide +kernel))) (by decide +kernel), gTB_t (gIn1 (List.mem_of_getElem? (i := 2) (by decide +kernel))) (by decide +kernel), ⟨by decide +kernel, by decide +kernel⟩, by decide +kernel, by decide, by decide +kernel⟩
theorem im_Row_isFull : Cond.instanceMethod y_Row_isFull ∈ gTB := gTB_t (gIn2 (List.mem_of_getElem? (i := 85) (by decide +kernel))) (by decide +kernel)
theorem se_Row_isFull : Cond.selects y_Row_isFull.cls y_Row_isFull y_Row_isFull ∈ gTB := gTB_t (gIn2 (List.mem_of_getElem? (i := 86) (by decide +kernel))) (by decide +kernel)
theorem c0_Row_add : gC0 m_Row_add 1 := ⟨gTB_t (gIn2 (List.mem_of_getElem? (i := 91) (by decide +kernel))) (by decide +kernel), gTB_t (gIn1 (List.mem_of_getElem? (i := 2) (by decide +kernel))) (by decide +kernel), ⟨by decide +kernel, by decide +kernel⟩, by decide +kernel, by decide, by decide +kernel⟩
theorem im_Row_add : Cond.instanceMethod y_Row_add ∈ gTB := gTB_t (gIn2 (List.mem_of_getElem? (i := 89) (by decide +kernel))) (by decide +kernel)
theorem se_Row_add : Cond.selects y_Row_add.cls y_Row_add y_Row_add ∈ gTB := gTB_t (gIn2 (List.mem_of_getElem? (i := 90) (by decide +kernel))) (by decide +kernel)
theorem c0_PS_wipe : gC0 m_PS_wipe 0 := ⟨gTB_t (gIn2 (List.mem_of_getElem? (i := 95) (by decide +kernel))) (by decide +kernel), gTB_t (gIn1 (List.mem_of_getElem? (i := 1) (by decide +kernel))) (by decide +kernel), ⟨by decide +kernel, by decide +kernel⟩, by decide +kernel, by decide, by decide +kernel⟩
theorem im_PS_wipe : Cond.instanceMethod y_PS_wipe ∈ gTB := gTB_t (gIn2 (List.mem_of_getElem? (i := 93) (by decide +kernel))) (by decide +kernel)
theorem se_PS_wipe : Cond.selects y_PS_wipe.cls y_PS_wipe y_PS_wipe ∈ gTB := gTB_t (gIn2 (List.mem_of_getElem? (i := 94) (by decide +kernel))) (by decide +kernel)
theorem c0_Row_clear : gC0 m_Row_clear 0 := ⟨gTB_t (gIn2 (List.mem_of_getElem? (i := 99) (by decide +kernel))) (by decide +kernel), gTB_t (gIn1 (List.mem_of_getElem? (i := 2) (by decide +kernel))) (by decide +kernel), ⟨by decide +kernel, by decide +kernel⟩, by decide +kernel, by decide, by decide +kernel⟩
theorem im_Row_clear : Cond.instanceMethod y_Row_clear ∈ gTB := gTB_t (gIn2 (List.mem_of_getElem? (i := 97) (by decide +kernel))) (by decide +kernel)
theorem se_Row_clear : Cond.selects y_Row_clear.cls y_Row_clear y_Row_clear ∈ gTB := gTB_t (gIn2 (List.mem_of_getElem? (i := 98) (by decide +kernel))) (by decide +kernel)
theorem c0_PS_width : gC0 m_PS_width 2 := ⟨gTB_t (gIn2 (List.mem_of_getElem? (i := 103) (by decide +kernel))) (by decide +kernel), gTB_t (gIn1 (List.mem_of_getElem? (i := 1) (by decide +kernel))) (by decide +kernel), ⟨by decide +kernel, by decide +kernel⟩, by decide +kernel, by decide, by decide +kernel⟩
theorem im_PS_width : Cond.instanceMethod y_PS_width ∈ gTB := gTB_t (gIn2 (List.mem_of_getElem? (i := 101) (by decide +kernel))) (by decide +kernel)
theorem se_PS_width : Cond.selects y_PS_width.cls y_PS_width y_PS_width ∈ gTB := gTB_t (gIn2 (List.mem_of_getElem? (i := 102) (by decide +kernel))) (by decide +kernel)
theorem c0_PS_widthIndex : gC0 m_PS_widthIndex 1 := ⟨gTB_t (gIn2 (List.mem_of_getElem? (i := 106) (by decide +kernel))) (by decide +kernel), gTB_t (gIn1 (List.mem_of_getElem? (i := 1) (by decide +kernel))) (by decide +kernel), ⟨by decide +kernel, by decide +kernel⟩, by decide +kernel, by decide, by decide +kernel⟩
theorem sm_PS_widthIndex : Cond.static y_PS_widthIndex ∈ gTB := gTB_t (gIn2 (List.mem_of_getElem? (i := 105) (by decide +kernel))) (by decide +kernel)
theorem c0_PS_parameter : gC0 m_PS_parameter 2 := ⟨gTB_t (gIn2 (List.mem_of_getElem? (i := 110) (by decide +kernel))) (by decide +kernel), gTB_t (gIn1 (List.mem_of_getElem? (i := 1) (by decide +kernel))) (by decide +kernel), ⟨by decide +kernel, by decide +kernel⟩, by decide +kernel, by decide, by decide +kernel⟩
theorem im_PS_parameter : Cond.instanceMethod y_PS_parameter ∈ gTB := gTB_t (gIn2 (List.mem_of_getElem? (i := 108) (by decide +kernel))) (by decide +kernel)
theorem se_PS_parameter : Cond.selects y_PS_parameter.cls y_PS_parameter y_PS_parameter ∈ gTB := gTB_t (gIn2 (List.mem_of_getElem? (i := 109) (by decide +kernel))) (by decide +kernel)
theorem c0_PS_define : gC0 m_PS_define 1 := ⟨gTB_t (gIn2 (List.mem_of_getElem? (i := 118) (by decide +kernel))) (by decide +kernel), gTB_t (gIn1 (List.mem_of_getElem? (i := 1) (by decide +kernel))) (by decide +kernel), ⟨by decide +kernel, by decide +kernel⟩, by decide +kernel, by decide, by decide +kernel⟩
theorem im_PS_define : Cond.instanceMethod y_PS_define ∈ gTB := gTB_t (gIn2 (List.mem_of_getElem? (i := 116) (by decide +kernel))) (by decide +kernel)
theorem se_PS_define : Cond.selects y_PS_define.cls y_PS_define y_PS_define ∈ gTB := gTB_t (gIn2 (List.mem_of_getElem? (i := 117) (by decide +kernel))) (by decide +kernel)
theorem c0_Mac_become : gC0 m_Mac_become 1 := ⟨gTB_t (gIn2 (List.mem_of_getElem? (i := 122) (by decide +kernel))) (by decide +kernel), gTB_t (gIn1 (List.mem_of_getElem? (i := 4) (by decide +kernel))) (by decide +kernel), ⟨by decide +kernel, by decide +kernel⟩, by decide +kernel, by decide, by decide +kernel⟩
theorem im_Mac_become : Cond.instanceMethod y_Mac_become ∈ gTB := gTB_t (gIn2 (List.mem_of_getElem? (i := 120) (by decide +kernel))) (by decide +kernel)
theorem se_Mac_become : Cond.selects y_Mac_become.cls y_Mac_become y_Mac_become ∈ gTB := gTB_t (gIn2 (List.mem_of_getElem? (i := 121) (by decide +kernel))) (by decide +kernel)
theorem c0_Row_become : gC0 m_Row_become 1 := ⟨gTB_t (gIn2 (List.mem_of_getElem? (i := 126) (by decide +kernel))) (by decide +kernel), gTB_t (gIn1 (List.mem_of_getElem? (i := 2) (by decide +kernel))) (by decide +kernel), ⟨by decide +kernel, by decide +kernel⟩, by decide +kernel, by decide, by decide +kernel⟩
theorem im_Row_become : Cond.instanceMethod y_Row_become ∈ gTB := gTB_t (gIn2 (List.mem_of_getElem? (i := 124) (by decide +kernel))) (by decide +kernel)
theorem se_Row_become : Cond.selects y_Row_become.cls y_Row_become y_Row_become ∈ gTB := gTB_t (gIn2 (List.mem_of_getElem? (i := 125) (by decide +kernel))) (by decide +kernel)
theorem c0_PS_pattern : gC0 m_PS_pattern 0 := ⟨gTB_t (gIn2 (List.mem_of_getElem? (i := 132) (by decide +kernel))) (by decide +kernel), gTB_t (gIn1 (List.mem_of_getElem? (i := 1) (by decide +kernel))) (by decide +kernel), ⟨by decide +kernel, by decide +kernel⟩, by decide +kernel, by decide, by decide +kernel⟩
theorem im_PS_pattern : Cond.instanceMethod y_PS_pattern ∈ gTB := gTB_t (gIn2 (List.mem_of_getElem? (i := 130) (by decide +kernel))) (by decide +kernel)
theorem se_PS_pattern : Cond.selects y_PS_pattern.cls y_PS_pattern y_PS_pattern ∈ gTB := gTB_t (gIn2 (List.mem_of_getElem? (i := 131) (by decide +kernel))) (by decide +kernel)
theorem c0_Hyp_isFull : gC0 m_Hyp_isFull 0 := ⟨gTB_t (gIn2 (List.mem_of_getElem? (i := 136) (by decide +kernel))) (by decide +kernel), gTB_t (gIn1 (List.mem_of_getElem? (i := 5) (by decide +kernel))) (by decide +kernel), ⟨by decide +kernel, by decide +kernel⟩, by decide +kernel, by decide, by decide +kernel⟩
theorem im_Hyp_isFull : Cond.instanceMethod y_Hyp_isFull ∈ gTB := gTB_t (gIn2 (List.mem_of_getElem? (i := 134) (by decide +kernel))) (by decide +kernel)
theorem se_Hyp_isFull : Cond.selects y_Hyp_isFull.cls y_Hyp_isFull y_Hyp_isFull ∈ gTB := gTB_t (gIn2 (List.mem_of_getElem? (i := 135) (by decide +kernel))) (by decide +kernel)
theorem c0_Hyp_learn : gC0 m_Hyp_learn 1 := ⟨gTB_t (gIn2 (List.mem_of_getElem? (i := 140) (by decide +kernel))) (by decide +kernel), gTB_t (gIn1 (List.mem_of_getElem? (i := 5) (by decide +kernel))) (by decide +kernel), ⟨by decide +kernel, by decide +kernel⟩, by decide +kernel, by decide, by decide +kernel⟩
theorem im_Hyp_learn : Cond.instanceMethod y_Hyp_learn ∈ gTB := gTB_t (gIn2 (List.mem_of_getElem? (i := 138) (by decide +kernel))) (by decide +kernel)
theorem se_Hyp_learn : Cond.selects y_Hyp_learn.cls y_Hyp_learn y_Hyp_learn ∈ gTB := gTB_t (gIn2 (List.mem_of_getElem? (i := 139) (by decide +kernel))) (by decide +kernel)
theorem c0_Pat_read : gC0 m_Pat_read 1 := ⟨gTB_t (gIn2 (List.mem_of_getElem? (i := 145) (by decide +kernel))) (by decide +kernel), gTB_t (gIn1 (List.mem_of_getElem? (i := 6) (by decide +kernel))) (by decide +kernel), ⟨by decide +kernel, by decide +kernel⟩, by decide +kernel, by decide, by decide +kernel⟩
theorem im_Pat_read : Cond.instanceMethod y_Pat_read ∈ gTB := gTB_t (gIn2 (List.mem_of_getElem? (i := 143) (by decide +kernel))) (by decide +kernel)
theorem se_Pat_read : Cond.selects y_Pat_read.cls y_Pat_read y_Pat_read ∈ gTB := gTB_t (gIn2 (List.mem_of_getElem? (i := 144) (by decide +kernel))) (by decide +kernel)
theorem c0_Pat_addSign : gC0 m_Pat_addSign 1 := ⟨gTB_t (gIn2 (List.mem_of_getElem? (i := 150) (by decide +kernel))) (by decide +kernel), gTB_t (gIn1 (List.mem_of_getElem? (i := 6) (by decide +kernel))) (by decide +kernel), ⟨by decide +kernel, by decide +kernel⟩, by decide +kernel, by decide, by decide +kernel⟩
theorem im_Pat_addSign : Cond.instanceMethod y_Pat_addSign ∈ gTB := gTB_t (gIn2 (List.mem_of_getElem? (i := 149) (by decide +kernel))) (by decide +kernel)
theorem se_Pat_addSign : Cond.selects y_Pat_addSign.cls y_Pat_addSign y_Pat_addSign ∈ gTB := gTB_s (List.mem_of_getElem? (i := 0) (by decide +kernel)) (by decide +kernel)
theorem c0_Pat_hasPointsAtEdgesOnly : gC0 m_Pat_hasPointsAtEdgesOnly 0 := ⟨gTB_t (gIn2 (List.mem_of_getElem? (i := 155) (by decide +kernel))) (by decide +kernel), gTB_t (gIn1 (List.mem_of_getElem? (i := 6) (by decide +kernel))) (by decide +kernel), ⟨by decide +kernel, by decide +kernel⟩, by decide +kernel, by decide, by decide +kernel⟩
theorem im_Pat_hasPointsAtEdgesOnly : Cond.instanceMethod y_Pat_hasPointsAtEdgesOnly ∈ gTB := gTB_t (gIn2 (List.mem_of_getElem? (i := 154) (by decide +kernel))) (by decide +kernel)
theorem se_Pat_hasPointsAtEdgesOnly : Cond.selects y_Pat_hasPointsAtEdgesOnly.cls y_Pat_hasPointsAtEdgesOnly y_Pat_hasPointsAtEdgesOnly ∈ gTB := gTB_s (List.mem_of_getElem? (i := 1) (by decide +kernel)) (by decide +kernel)
theorem c0_PS_paragraph : gC0 m_PS_paragraph 0 := ⟨gTB_t (gIn2 (List.mem_of_getElem? (i := 159) (by decide +kernel))) (by decide +kernel), gTB_t (gIn1 (List.mem_of_getElem? (i := 1) (by decide +kernel))) (by decide +kernel), ⟨by decide +kernel, by decide +kernel⟩, by decide +kernel, by decide, by decide +kernel⟩
theorem im_PS_paragraph : Cond.instanceMethod y_PS_paragraph ∈ gTB := gTB_t (gIn2 (List.mem_of_getElem? (i := 157) (by decide +kernel))) (by decide +kernel)
theorem se_PS_paragraph : Cond.selects y_PS_paragraph.cls y_PS_paragraph y_PS_paragraph ∈ gTB := gTB_t (gIn2 (List.mem_of_getElem? (i := 158) (by decide +kernel))) (by decide +kernel)
theorem c0_Exp_expand : gC0 m_Exp_expand 2 := ⟨gTB_t (gIn2 (List.mem_of_getElem? (i := 163) (by decide +kernel))) (by decide +kernel), gTB_t (gIn1 (List.mem_of_getElem? (i := 3) (by decide +kernel))) (by decide +kernel), ⟨by decide +kernel, by decide +kernel⟩, by decide +kernel, by decide, by decide +kernel⟩
theorem im_Exp_expand : Cond.instanceMethod y_Exp_expand ∈ gTB := gTB_t (gIn2 (List.mem_of_getElem? (i := 161) (by decide +kernel))) (by decide +kernel)
theorem se_Exp_expand : Cond.selects y_Exp_expand.cls y_Exp_expand y_Exp_expand ∈ gTB := gTB_t (gIn2 (List.mem_of_getElem? (i := 162) (by decide +kernel))) (by decide +kernel)
theorem c0_Exp_begin : gC0 m_Exp_begin 1 := ⟨gTB_t (gIn2 (List.mem_of_getElem? (i := 167) (by decide +kernel))) (by decide +kernel), gTB_t (gIn1 (List.mem_of_getElem? (i := 3) (by decide +kernel))) (by decide +kernel), ⟨by decide +kernel, by decide +kernel⟩, by decide +kernel, by decide, by decide +kernel⟩
theorem im_Exp_begin : Cond.instanceMethod y_Exp_begin ∈ gTB := gTB_t (gIn2 (List.mem_of_getElem? (i := 166) (by decide +kernel))) (by decide +kernel)
theorem se_Exp_begin : Cond.selects y_Exp_begin.cls y_Exp_begin y_Exp_begin ∈ gTB := gTB_s (List.mem_of_getElem? (i := 2) (by decide +kernel)) (by decide +kernel)
theorem c0_Exp_isListEmpty : gC0 m_Exp_isListEmpty 0 := ⟨gTB_t (gIn2 (List.mem_of_getElem? (i := 171) (by decide +kernel))) (by decide +kernel), gTB_t (gIn1 (List.mem_of_getElem? (i := 3) (by decide +kernel))) (by decide +kernel), ⟨by decide +kernel, by decide +kernel⟩, by decide +kernel, by decide, by decide +kernel⟩
theorem im_Exp_isListEmpty : Cond.instanceMethod y_Exp_isListEmpty ∈ gTB := gTB_t (gIn2 (List.mem_of_getElem? (i := 170) (by decide +kernel))) (by decide +kernel)
theorem se_Exp_isListEmpty : Cond.selects y_Exp_isListEmpty.cls y_Exp_isListEmpty y_Exp_isListEmpty ∈ gTB := gTB_s (List.mem_of_getElem? (i := 3) (by decide +kernel)) (by decide +kernel)
theorem c0_Exp_takeOff : gC0 m_Exp_takeOff 0 := ⟨gTB_t (gIn2 (List.mem_of_getElem? (i := 175) (by decide +kernel))) (by decide +kernel), gTB_t (gIn1 (List.mem_of_getElem? (i := 3) (by decide +kernel))) (by decide +kernel), ⟨by decide +kernel, by decide +kernel⟩, by decide +kernel, by decide, by decide +kernel⟩
theorem im_Exp_takeOff : Cond.instanceMethod y_Exp_takeOff ∈ gTB := gTB_t (gIn2 (List.mem_of_getElem? (i := 174) (by decide +kernel))) (by decide +kernel)
theorem se_Exp_takeOff : Cond.selects y_Exp_takeOff.cls y_Exp_takeOff y_Exp_takeOff ∈ gTB := gTB_s (List.mem_of_getElem? (i := 4) (by decide +kernel)) (by decide +kernel)
theorem c0_Exp_obey : gC0 m_Exp_obey 2 := ⟨gTB_t (gIn2 (List.mem_of_getElem? (i := 179) (by decide +kernel))) (by decide +kernel), gTB_t (gIn1 (List.mem_of_getElem? (i := 3) (by decide +kernel))) (by decide +kernel), ⟨by decide +kernel, by decide +kernel⟩, by decide +kernel, by decide, by decide +kernel⟩
theorem im_Exp_obey : Cond.instanceMethod y_Exp_obey ∈ gTB := gTB_t (gIn2 (List.mem_of_getElem? (i := 178) (by decide +kernel))) (by decide +kernel)
theorem se_Exp_obey : Cond.selects y_Exp_obey.cls y_Exp_obey y_Exp_obey ∈ gTB := gTB_s (List.mem_of_getElem? (i := 5) (by decide +kernel)) (by decide +kernel)
theorem c0_Exp_callMacro : gC0 m_Exp_callMacro 1 := ⟨gTB_t (gIn2 (List.mem_of_getElem? (i := 184) (by decide +kernel))) (by decide +kernel), gTB_t (gIn1 (List.mem_of_getElem? (i := 3) (by decide +kernel))) (by decide +kernel), ⟨by decide +kernel, by decide +kernel⟩, by decide +kernel, by decide, by decide +kernel⟩
theorem im_Exp_callMacro : Cond.instanceMethod y_Exp_callMacro ∈ gTB := gTB_t (gIn2 (List.mem_of_getElem? (i := 183) (by decide +kernel))) (by decide +kernel)
theorem se_Exp_callMacro : Cond.selects y_Exp_callMacro.cls y_Exp_callMacro y_Exp_callMacro ∈ gTB := gTB_s (List.mem_of_getElem? (i := 6) (by decide +kernel)) (by decide +kernel)
theorem c0_Row_howMany : gC0 m_Row_howMany 1 := ⟨gTB_t (gIn2 (List.mem_of_getElem? (i := 188) (by decide +kernel))) (by decide +kernel), gTB_t (gIn1 (List.mem_of_getElem? (i := 2) (by decide +kernel))) (by decide +kernel), ⟨by decide +kernel, by decide +kernel⟩, by decide +kernel, by decide, by decide +kernel⟩
theorem im_Row_howMany : Cond.instanceMethod y_Row_howMany ∈ gTB := gTB_t (gIn2 (List.mem_of_getElem? (i := 186) (by decide +kernel))) (by decide +kernel)
theorem se_Row_howMany : Cond.selects y_Row_howMany.cls y_Row_howMany y_Row_howMany ∈ gTB := gTB_t (gIn2 (List.mem_of_getElem? (i := 187) (by decide +kernel))) (by decide +kernel)
theorem c0_Exp_takeArgument : gC0 m_Exp_takeArgument 0 := ⟨gTB_t (gIn2 (List.mem_of_getElem? (i := 192) (by decide +kernel))) (by decide +kernel), gTB_t (gIn1 (List.mem_of_getElem? (i := 3) (by decide +kernel))) (by decide +kernel), ⟨by decide +kernel, by decide +kernel⟩, by decide +kernel, by decide, by decide +kernel⟩
theorem im_Exp_takeArgument : Cond.instanceMethod y_Exp_takeArgument ∈ gTB := gTB_t (gIn2 (List.mem_of_getElem? (i := 191) (by decide +kernel))) (by decide +kernel)
theorem se_Exp_takeArgument : Cond.selects y_Exp_takeArgument.cls y_Exp_takeArgument y_Exp_takeArgument ∈ gTB := gTB_s (List.mem_of_getElem? (i := 7) (by decide +kernel)) (by decide +kernel)
theorem c0_Exp_takeGroup : gC0 m_Exp_takeGroup 0 := ⟨gTB_t (gIn2 (List.mem_of_getElem? (i := 197) (by decide +kernel))) (by decide +kernel), gTB_t (gIn1 (List.mem_of_getElem? (i := 3) (by decide +kernel))) (by decide +kernel), ⟨by decide +kernel, by decide +kernel⟩, by decide +kernel, by decide, by decide +kernel⟩
theorem im_Exp_takeGroup : Cond.instanceMethod y_Exp_takeGroup ∈ gTB := gTB_t (gIn2 (List.mem_of_getElem? (i := 196) (by decide +kernel))) (by decide +kernel)
theorem se_Exp_takeGroup : Cond.selects y_Exp_takeGroup.cls y_Exp_takeGroup y_Exp_takeGroup ∈ gTB := gTB_s (List.mem_of_getElem? (i := 8) (by decide +kernel)) (by decide +kernel)
theorem c0_Exp_putInFront : gC0 m_Exp_putInFront 1 := ⟨gTB_t (gIn2 (List.mem_of_getElem? (i := 202) (by decide +kernel))) (by decide +kernel), gTB_t (gIn1 (List.mem_of_getElem? (i := 3) (by decide +kernel))) (by decide +kernel), ⟨by decide +kernel, by decide +kernel⟩, by decide +kernel, by decide, by decide +kernel⟩
theorem im_Exp_putInFront : Cond.instanceMethod y_Exp_putInFront ∈ gTB := gTB_t (gIn2 (List.mem_of_getElem? (i := 201) (by decide +kernel))) (by decide +kernel)
theorem se_Exp_putInFront : Cond.selects y_Exp_putInFront.cls y_Exp_putInFront y_Exp_putInFront ∈ gTB := gTB_s (List.mem_of_getElem? (i := 9) (by decide +kernel)) (by decide +kernel)
theorem c0_Exp_openGroup : gC0 m_Exp_openGroup 0 := ⟨gTB_t (gIn2 (List.mem_of_getElem? (i := 206) (by decide +kernel))) (by decide +kernel), gTB_t (gIn1 (List.mem_of_getElem? (i := 3) (by decide +kernel))) (by decide +kernel), ⟨by decide +kernel, by decide +kernel⟩, by decide +kernel, by decide, by decide +kernel⟩
theorem im_Exp_openGroup : Cond.instanceMethod y_Exp_openGroup ∈ gTB := gTB_t (gIn2 (List.mem_of_getElem? (i := 205) (by decide +kernel))) (by decide +kernel)
theorem se_Exp_openGroup : Cond.selects y_Exp_openGroup.cls y_Exp_openGroup y_Exp_openGroup ∈ gTB := gTB_s (List.mem_of_getElem? (i := 10) (by decide +kernel)) (by decide +kernel)
theorem c0_Exp_closeGroup : gC0 m_Exp_closeGroup 0 := ⟨gTB_t (gIn2 (List.mem_of_getElem? (i := 210) (by decide +kernel))) (by decide +kernel), gTB_t (gIn1 (List.mem_of_getElem? (i := 3) (by decide +kernel))) (by decide +kernel), ⟨by decide +kernel, by decide +kernel⟩, by decide +kernel, by decide, by decide +kernel⟩
theorem im_Exp_closeGroup : Cond.instanceMethod y_Exp_closeGroup ∈ gTB := gTB_t (gIn2 (List.mem_of_getElem? (i := 209) (by decide +kernel))) (by decide +kernel)
theorem se_Exp_closeGroup : Cond.selects y_Exp_closeGroup.cls y_Exp_closeGroup y_Exp_closeGroup ∈ gTB := gTB_s (List.mem_of_getElem? (i := 11) (by decide +kernel)) (by decide +kernel)
theorem c0_Exp_changeSpace : gC0 m_Exp_changeSpace 0 := ⟨gTB_t (gIn2 (List.mem_of_getElem? (i := 214) (by decide +kernel))) (by decide +kernel), gTB_t (gIn1 (List.mem_of_getElem? (i := 3) (by decide +kernel))) (by decide +kernel), ⟨by decide +kernel, by decide +kernel⟩, by decide +kernel, by decide, by decide +kernel⟩
theorem im_Exp_changeSpace : Cond.instanceMethod y_Exp_changeSpace ∈ gTB := gTB_t (gIn2 (List.mem_of_getElem? (i := 213) (by decide +kernel))) (by decide +kernel)
theorem se_Exp_changeSpace : Cond.selects y_Exp_changeSpace.cls y_Exp_changeSpace y_Exp_changeSpace ∈ gTB := gTB_s (List.mem_of_getElem? (i := 12) (by decide +kernel)) (by decide +kernel)
theorem c0_Txt_add : gC0 m_Txt_add 2 := ⟨gTB_t (gIn2 (List.mem_of_getElem? (i := 221) (by decide +kernel))) (by decide +kernel), gTB_t (gIn1 (List.mem_of_getElem? (i := 9) (by decide +kernel))) (by decide +kernel), ⟨by decide +kernel, by decide +kernel⟩, by decide +kernel, by decide, by decide +kernel⟩
theorem im_Txt_add : Cond.instanceMethod y_Txt_add ∈ gTB := gTB_t (gIn2 (List.mem_of_getElem? (i := 219) (by decide +kernel))) (by decide +kernel)
theorem se_Txt_add : Cond.selects y_Txt_add.cls y_Txt_add y_Txt_add ∈ gTB := gTB_t (gIn2 (List.mem_of_getElem? (i := 220) (by decide +kernel))) (by decide +kernel)
theorem c0_Txt_tidy : gC0 m_Txt_tidy 0 := ⟨gTB_t (gIn2 (List.mem_of_getElem? (i := 225) (by decide +kernel))) (by decide +kernel), gTB_t (gIn1 (List.mem_of_getElem? (i := 9) (by decide +kernel))) (by decide +kernel), ⟨by decide +kernel, by decide +kernel⟩, by decide +kernel, by decide, by decide +kernel⟩
theorem im_Txt_tidy : Cond.instanceMethod y_Txt_tidy ∈ gTB := gTB_t (gIn2 (List.mem_of_getElem? (i := 223) (by decide +kernel))) (by decide +kernel)
theorem se_Txt_tidy : Cond.selects y_Txt_tidy.cls y_Txt_tidy y_Txt_tidy ∈ gTB := gTB_t (gIn2 (List.mem_of_getElem? (i := 224) (by decide +kernel))) (by decide +kernel)
theorem c0_Txt_dropBlanksBehind : gC0 m_Txt_dropBlanksBehind 0 := ⟨gTB_t (gIn2 (List.mem_of_getElem? (i := 229) (by decide +kernel))) (by decide +kernel), gTB_t (gIn1 (List.mem_of_getElem? (i := 9) (by decide +kernel))) (by decide +kernel), ⟨by decide +kernel, by decide +kernel⟩, by decide +kernel, by decide, by decide +kernel⟩
theorem im_Txt_dropBlanksBehind : Cond.instanceMethod y_Txt_dropBlanksBehind ∈ gTB := gTB_t (gIn2 (List.mem_of_getElem? (i := 228) (by decide +kernel))) (by decide +kernel)
theorem se_Txt_dropBlanksBehind : Cond.selects y_Txt_dropBlanksBehind.cls y_Txt_dropBlanksBehind y_Txt_dropBlanksBehind ∈ gTB := gTB_s (List.mem_of_getElem? (i := 13) (by decide +kernel)) (by decide +kernel)
theorem c0_Txt_move : gC0 m_Txt_move 2 := ⟨gTB_t (gIn2 (List.mem_of_getElem? (i := 233) (by decide +kernel))) (by decide +kernel), gTB_t (gIn1 (List.mem_of_getElem? (i := 9) (by decide +kernel))) (by decide +kernel), ⟨by decide +kernel, by decide +kernel⟩, by decide +kernel, by decide, by decide +kernel⟩
theorem im_Txt_move : Cond.instanceMethod y_Txt_move ∈ gTB := gTB_t (gIn2 (List.mem_of_getElem? (i := 232) (by decide +kernel))) (by decide +kernel)
theorem se_Txt_move : Cond.selects y_Txt_move.cls y_Txt_move y_Txt_move ∈ gTB := gTB_s (List.mem_of_getElem? (i := 14) (by decide +kernel)) (by decide +kernel)
theorem c0_Txt_dropBlanksBefore : gC0 m_Txt_dropBlanksBefore 0 := ⟨gTB_t (gIn2 (List.mem_of_getElem? (i := 237) (by decide +kernel))) (by decide +kernel), gTB_t (gIn1 (List.mem_of_getElem? (i := 9) (by decide +kernel))) (by decide +kernel), ⟨by decide +kernel, by decide +kernel⟩, by decide +kernel, by decide, by decide +kernel⟩
theorem im_Txt_dropBlanksBefore : Cond.instanceMethod y_Txt_dropBlanksBefore ∈ gTB := gTB_t (gIn2 (List.mem_of_getElem? (i := 236) (by decide +kernel))) (by decide +kernel)
theorem se_Txt_dropBlanksBefore : Cond.selects y_Txt_dropBlanksBefore.cls y_Txt_dropBlanksBefore y_Txt_dropBlanksBefore ∈ gTB := gTB_s (List.mem_of_getElem? (i := 15) (by decide +kernel)) (by decide +kernel)
theorem c0_Txt_dropBarsBehind : gC0 m_Txt_dropBarsBehind 0 := ⟨gTB_t (gIn3 (List.mem_of_getElem? (i := 1) (by decide +kernel))) (by decide +kernel), gTB_t (gIn1 (List.mem_of_getElem? (i := 9) (by decide +kernel))) (by decide +kernel), ⟨by decide +kernel, by decide +kernel⟩, by decide +kernel, by decide, by decide +kernel⟩
theorem im_Txt_dropBarsBehind : Cond.instanceMethod y_Txt_dropBarsBehind ∈ gTB := gTB_t (gIn3 (List.mem_of_getElem? (i := 0) (by decide +kernel))) (by decide +kernel)
theorem se_Txt_dropBarsBehind : Cond.selects y_Txt_dropBarsBehind.cls y_Txt_dropBarsBehind y_Txt_dropBarsBehind ∈ gTB := gTB_s (List.mem_of_getElem? (i := 16) (by decide +kernel)) (by decide +kernel)
theorem c0_Hyp_weigh : gC0 m_Hyp_weigh 1 := ⟨gTB_t (gIn3 (List.mem_of_getElem? (i := 5) (by decide +kernel))) (by decide +kernel), gTB_t (gIn1 (List.mem_of_getElem? (i := 5) (by decide +kernel))) (by decide +kernel), ⟨by decide +kernel, by decide +kernel⟩, by decide +kernel, by decide, by decide +kernel⟩
theorem im_Hyp_weigh : Cond.instanceMethod y_Hyp_weigh ∈ gTB := gTB_t (gIn3 (List.mem_of_getElem? (i := 3) (by decide +kernel))) (by decide +kernel)
theorem se_Hyp_weigh : Cond.selects y_Hyp_weigh.cls y_Hyp_weigh y_Hyp_weigh ∈ gTB := gTB_t (gIn3 (List.mem_of_getElem? (i := 4) (by decide +kernel))) (by decide +kernel)
theorem c0_Txt_isLetterAt : gC0 m_Txt_isLetterAt 1 := ⟨gTB_t (gIn3 (List.mem_of_getElem? (i := 9) (by decide +kernel))) (by decide +kernel), gTB_t (gIn1 (List.mem_of_getElem? (i := 9) (by decide +kernel))) (by decide +kernel), ⟨by decide +kernel, by decide +kernel⟩, by decide +kernel, by decide, by decide +kernel⟩
theorem im_Txt_isLetterAt : Cond.instanceMethod y_Txt_isLetterAt ∈ gTB := gTB_t (gIn3 (List.mem_of_getElem? (i := 7) (by decide +kernel))) (by decide +kernel)
theorem se_Txt_isLetterAt : Cond.selects y_Txt_isLetterAt.cls y_Txt_isLetterAt y_Txt_isLetterAt ∈ gTB := gTB_t (gIn3 (List.mem_of_getElem? (i := 8) (by decide +kernel))) (by decide +kernel)
theorem c0_Hyp_weighWord : gC0 m_Hyp_weighWord 3 := ⟨gTB_t (gIn3 (List.mem_of_getElem? (i := 14) (by decide +kernel))) (by decide +kernel), gTB_t (gIn1 (List.mem_of_getElem? (i := 5) (by decide +kernel))) (by decide +kernel), ⟨by decide +kernel, by decide +kernel⟩, by decide +kernel, by decide, by decide +kernel⟩
theorem im_Hyp_weighWord : Cond.instanceMethod y_Hyp_weighWord ∈ gTB := gTB_t (gIn3 (List.mem_of_getElem? (i := 13) (by decide +kernel))) (by decide +kernel)
theorem se_Hyp_weighWord : Cond.selects y_Hyp_weighWord.cls y_Hyp_weighWord y_Hyp_weighWord ∈ gTB := gTB_s (List.mem_of_getElem? (i := 17) (by decide +kernel)) (by decide +kernel)
theorem c0_Hyp_stands : gC0 m_Hyp_stands 5 := ⟨gTB_t (gIn3 (List.mem_of_getElem? (i := 17) (by decide +kernel))) (by decide +kernel), gTB_t (gIn1 (List.mem_of_getElem? (i := 5) (by decide +kernel))) (by decide +kernel), ⟨by decide +kernel, by decide +kernel⟩, by decide +kernel, by decide, by decide +kernel⟩
theorem sm_Hyp_stands : Cond.static y_Hyp_stands ∈ gTB := gTB_t (gIn3 (List.mem_of_getElem? (i := 16) (by decide +kernel))) (by decide +kernel)
theorem c0_Hyp_raise : gC0 m_Hyp_raise 4 := ⟨gTB_t (gIn3 (List.mem_of_getElem? (i := 21) (by decide +kernel))) (by decide +kernel), gTB_t (gIn1 (List.mem_of_getElem? (i := 5) (by decide +kernel))) (by decide +kernel), ⟨by decide +kernel, by decide +kernel⟩, by decide +kernel, by decide, by decide +kernel⟩
theorem im_Hyp_raise : Cond.instanceMethod y_Hyp_raise ∈ gTB := gTB_t (gIn3 (List.mem_of_getElem? (i := 20) (by decide +kernel))) (by decide +kernel)
theorem se_Hyp_raise : Cond.selects y_Hyp_raise.cls y_Hyp_raise y_Hyp_raise ∈ gTB := gTB_s (List.mem_of_getElem? (i := 18) (by decide +kernel)) (by decide +kernel)
theorem c0_Math_max : gC0 m_Math_max 2 := ⟨gTB_t (gIn3 (List.mem_of_getElem? (i := 24) (by decide +kernel))) (by decide +kernel), gTB_t (gIn1 (List.mem_of_getElem? (i := 13) (by decide +kernel))) (by decide +kernel), ⟨by decide +kernel, by decide +kernel⟩, by decide +kernel, by decide, by decide +kernel⟩
theorem sm_Math_max : Cond.static y_Math_max ∈ gTB := gTB_t (gIn3 (List.mem_of_getElem? (i := 23) (by decide +kernel))) (by decide +kernel)
theorem c0_Brk_find : gC0 m_Brk_find 2 := ⟨gTB_t (gIn3 (List.mem_of_getElem? (i := 28) (by decide +kernel))) (by decide +kernel), gTB_t (gIn1 (List.mem_of_getElem? (i := 10) (by decide +kernel))) (by decide +kernel), ⟨by decide +kernel, by decide +kernel⟩, by decide +kernel, by decide, by decide +kernel⟩
theorem im_Brk_find : Cond.instanceMethod y_Brk_find ∈ gTB := gTB_t (gIn3 (List.mem_of_getElem? (i := 26) (by decide +kernel))) (by decide +kernel)
theorem se_Brk_find : Cond.selects y_Brk_find.cls y_Brk_find y_Brk_find ∈ gTB := gTB_t (gIn3 (List.mem_of_getElem? (i := 27) (by decide +kernel))) (by decide +kernel)
theorem c0_Hyp_isPoint : gC0 m_Hyp_isPoint 1 := ⟨gTB_t (gIn3 (List.mem_of_getElem? (i := 32) (by decide +kernel))) (by decide +kernel), gTB_t (gIn1 (List.mem_of_getElem? (i := 5) (by decide +kernel))) (by decide +kernel), ⟨by decide +kernel, by decide +kernel⟩, by decide +kernel, by decide, by decide +kernel⟩
theorem im_Hyp_isPoint : Cond.instanceMethod y_Hyp_isPoint ∈ gTB := gTB_t (gIn3 (List.mem_of_getElem? (i := 30) (by decide +kernel))) (by decide +kernel)
theorem se_Hyp_isPoint : Cond.selects y_Hyp_isPoint.cls y_Hyp_isPoint y_Hyp_isPoint ∈ gTB := gTB_t (gIn3 (List.mem_of_getElem? (i := 31) (by decide +kernel))) (by decide +kernel)
theorem c0_Brk_add : gC0 m_Brk_add 3 := ⟨gTB_t (gIn3 (List.mem_of_getElem? (i := 36) (by decide +kernel))) (by decide +kernel), gTB_t (gIn1 (List.mem_of_getElem? (i := 10) (by decide +kernel))) (by decide +kernel), ⟨by decide +kernel, by decide +kernel⟩, by decide +kernel, by decide, by decide +kernel⟩
theorem im_Brk_add : Cond.instanceMethod y_Brk_add ∈ gTB := gTB_t (gIn3 (List.mem_of_getElem? (i := 35) (by decide +kernel))) (by decide +kernel)
theorem se_Brk_add : Cond.selects y_Brk_add.cls y_Brk_add y_Brk_add ∈ gTB := gTB_s (List.mem_of_getElem? (i := 19) (by decide +kernel)) (by decide +kernel)
theorem c0_Brk_addAt : gC0 m_Brk_addAt 2 := ⟨gTB_t (gIn3 (List.mem_of_getElem? (i := 40) (by decide +kernel))) (by decide +kernel), gTB_t (gIn1 (List.mem_of_getElem? (i := 10) (by decide +kernel))) (by decide +kernel), ⟨by decide +kernel, by decide +kernel⟩, by decide +kernel, by decide, by decide +kernel⟩
theorem im_Brk_addAt : Cond.instanceMethod y_Brk_addAt ∈ gTB := gTB_t (gIn3 (List.mem_of_getElem? (i := 39) (by decide +kernel))) (by decide +kernel)
theorem se_Brk_addAt : Cond.selects y_Brk_addAt.cls y_Brk_addAt y_Brk_addAt ∈ gTB := gTB_s (List.mem_of_getElem? (i := 20) (by decide +kernel)) (by decide +kernel)
theorem c0_Txt_isBlank : gC0 m_Txt_isBlank 1 := ⟨gTB_t (gIn3 (List.mem_of_getElem? (i := 44) (by decide +kernel))) (by decide +kernel), gTB_t (gIn1 (List.mem_of_getElem? (i := 9) (by decide +kernel))) (by decide +kernel), ⟨by decide +kernel, by decide +kernel⟩, by decide +kernel, by decide, by decide +kernel⟩
theorem im_Txt_isBlank : Cond.instanceMethod y_Txt_isBlank ∈ gTB := gTB_t (gIn3 (List.mem_of_getElem? (i := 42) (by decide +kernel))) (by decide +kernel)
theorem se_Txt_isBlank : Cond.selects y_Txt_isBlank.cls y_Txt_isBlank y_Txt_isBlank ∈ gTB := gTB_t (gIn3 (List.mem_of_getElem? (i := 43) (by decide +kernel))) (by decide +kernel)
theorem c0_Stg_measure : gC0 m_Stg_measure 2 := ⟨gTB_t (gIn3 (List.mem_of_getElem? (i := 48) (by decide +kernel))) (by decide +kernel), gTB_t (gIn1 (List.mem_of_getElem? (i := 8) (by decide +kernel))) (by decide +kernel), ⟨by decide +kernel, by decide +kernel⟩, by decide +kernel, by decide, by decide +kernel⟩
theorem im_Stg_measure : Cond.instanceMethod y_Stg_measure ∈ gTB := gTB_t (gIn3 (List.mem_of_getElem? (i := 46) (by decide +kernel))) (by decide +kernel)
theorem se_Stg_measure : Cond.selects y_Stg_measure.cls y_Stg_measure y_Stg_measure ∈ gTB := gTB_t (gIn3 (List.mem_of_getElem? (i := 47) (by decide +kernel))) (by decide +kernel)
theorem c0_Sum_addUp : gC0 m_Sum_addUp 2 := ⟨gTB_t (gIn3 (List.mem_of_getElem? (i := 52) (by decide +kernel))) (by decide +kernel), gTB_t (gIn1 (List.mem_of_getElem? (i := 11) (by decide +kernel))) (by decide +kernel), ⟨by decide +kernel, by decide +kernel⟩, by decide +kernel, by decide, by decide +kernel⟩
theorem im_Sum_addUp : Cond.instanceMethod y_Sum_addUp ∈ gTB := gTB_t (gIn3 (List.mem_of_getElem? (i := 50) (by decide +kernel))) (by decide +kernel)
theorem se_Sum_addUp : Cond.selects y_Sum_addUp.cls y_Sum_addUp y_Sum_addUp ∈ gTB := gTB_t (gIn3 (List.mem_of_getElem? (i := 51) (by decide +kernel))) (by decide +kernel)
theorem c0_Cho_choose : gC0 m_Cho_choose 1 := ⟨gTB_t (gIn3 (List.mem_of_getElem? (i := 60) (by decide +kernel))) (by decide +kernel), gTB_t (gIn1 (List.mem_of_getElem? (i := 7) (by decide +kernel))) (by decide +kernel), ⟨by decide +kernel, by decide +kernel⟩, by decide +kernel, by decide, by decide +kernel⟩
theorem im_Cho_choose : Cond.instanceMethod y_Cho_choose ∈ gTB := gTB_t (gIn3 (List.mem_of_getElem? (i := 58) (by decide +kernel))) (by decide +kernel)
theorem se_Cho_choose : Cond.selects y_Cho_choose.cls y_Cho_choose y_Cho_choose ∈ gTB := gTB_t (gIn3 (List.mem_of_getElem? (i := 59) (by decide +kernel))) (by decide +kernel)
theorem c0_Cho_findNext : gC0 m_Cho_findNext 2 := ⟨gTB_t (gIn3 (List.mem_of_getElem? (i := 64) (by decide +kernel))) (by decide +kernel), gTB_t (gIn1 (List.mem_of_getElem? (i := 7) (by decide +kernel))) (by decide +kernel), ⟨by decide +kernel, by decide +kernel⟩, by decide +kernel, by decide, by decide +kernel⟩
theorem im_Cho_findNext : Cond.instanceMethod y_Cho_findNext ∈ gTB := gTB_t (gIn3 (List.mem_of_getElem? (i := 63) (by decide +kernel))) (by decide +kernel)
theorem se_Cho_findNext : Cond.selects y_Cho_findNext.cls y_Cho_findNext y_Cho_findNext ∈ gTB := gTB_s (List.mem_of_getElem? (i := 21) (by decide +kernel)) (by decide +kernel)
theorem c0_Stg_badness : gC0 m_Stg_badness 2 := ⟨gTB_t (gIn3 (List.mem_of_getElem? (i := 68) (by decide +kernel))) (by decide +kernel), gTB_t (gIn1 (List.mem_of_getElem? (i := 8) (by decide +kernel))) (by decide +kernel), ⟨by decide +kernel, by decide +kernel⟩, by decide +kernel, by decide, by decide +kernel⟩
theorem im_Stg_badness : Cond.instanceMethod y_Stg_badness ∈ gTB := gTB_t (gIn3 (List.mem_of_getElem? (i := 66) (by decide +kernel))) (by decide +kernel)
theorem se_Stg_badness : Cond.selects y_Stg_badness.cls y_Stg_badness y_Stg_badness ∈ gTB := gTB_t (gIn3 (List.mem_of_getElem? (i := 67) (by decide +kernel))) (by decide +kernel)
theorem c0_Stg_letters : gC0 m_Stg_letters 2 := ⟨gTB_t (gIn3 (List.mem_of_getElem? (i := 72) (by decide +kernel))) (by decide +kernel), gTB_t (gIn1 (List.mem_of_getElem? (i := 8) (by decide +kernel))) (by decide +kernel), ⟨by decide +kernel, by decide +kernel⟩, by decide +kernel, by decide, by decide +kernel⟩
theorem im_Stg_letters : Cond.instanceMethod y_Stg_letters ∈ gTB := gTB_t (gIn3 (List.mem_of_getElem? (i := 70) (by decide +kernel))) (by decide +kernel)
theorem se_Stg_letters : Cond.selects y_Stg_letters.cls y_Stg_letters y_Stg_letters ∈ gTB := gTB_t (gIn3 (List.mem_of_getElem? (i := 71) (by decide +kernel))) (by decide +kernel)
theorem c0_Stg_over : gC0 m_Stg_over 3 := ⟨gTB_t (gIn3 (List.mem_of_getElem? (i := 76) (by decide +kernel))) (by decide +kernel), gTB_t (gIn1 (List.mem_of_getElem? (i := 8) (by decide +kernel))) (by decide +kernel), ⟨by decide +kernel, by decide +kernel⟩, by decide +kernel, by decide, by decide +kernel⟩
theorem im_Stg_over : Cond.instanceMethod y_Stg_over ∈ gTB := gTB_t (gIn3 (List.mem_of_getElem? (i := 75) (by decide +kernel))) (by decide +kernel)
theorem se_Stg_over : Cond.selects y_Stg_over.cls y_Stg_over y_Stg_over ∈ gTB := gTB_s (List.mem_of_getElem? (i := 22) (by decide +kernel)) (by decide +kernel)
theorem c0_Stg_difference : gC0 m_Stg_difference 2 := ⟨gTB_t (gIn3 (List.mem_of_getElem? (i := 81) (by decide +kernel))) (by decide +kernel), gTB_t (gIn1 (List.mem_of_getElem? (i := 8) (by decide +kernel))) (by decide +kernel), ⟨by decide +kernel, by decide +kernel⟩, by decide +kernel, by decide, by decide +kernel⟩
theorem im_Stg_difference : Cond.instanceMethod y_Stg_difference ∈ gTB := gTB_t (gIn3 (List.mem_of_getElem? (i := 79) (by decide +kernel))) (by decide +kernel)
theorem se_Stg_difference : Cond.selects y_Stg_difference.cls y_Stg_difference y_Stg_difference ∈ gTB := gTB_t (gIn3 (List.mem_of_getElem? (i := 80) (by decide +kernel))) (by decide +kernel)
theorem c0_Stg_natural : gC0 m_Stg_natural 2 := ⟨gTB_t (gIn3 (List.mem_of_getElem? (i := 85) (by decide +kernel))) (by decide +kernel), gTB_t (gIn1 (List.mem_of_getElem? (i := 8) (by decide +kernel))) (by decide +kernel), ⟨by decide +kernel, by decide +kernel⟩, by decide +kernel, by decide, by decide +kernel⟩
theorem im_Stg_natural : Cond.instanceMethod y_Stg_natural ∈ gTB := gTB_t (gIn3 (List.mem_of_getElem? (i := 83) (by decide +kernel))) (by decide +kernel)
theorem se_Stg_natural : Cond.selects y_Stg_natural.cls y_Stg_natural y_Stg_natural ∈ gTB := gTB_t (gIn3 (List.mem_of_getElem? (i := 84) (by decide +kernel))) (by decide +kernel)
theorem c0_Stg_isLoose : gC0 m_Stg_isLoose 2 := ⟨gTB_t (gIn3 (List.mem_of_getElem? (i := 89) (by decide +kernel))) (by decide +kernel), gTB_t (gIn1 (List.mem_of_getElem? (i := 8) (by decide +kernel))) (by decide +kernel), ⟨by decide +kernel, by decide +kernel⟩, by decide +kernel, by decide, by decide +kernel⟩
theorem im_Stg_isLoose : Cond.instanceMethod y_Stg_isLoose ∈ gTB := gTB_t (gIn3 (List.mem_of_getElem? (i := 88) (by decide +kernel))) (by decide +kernel)
theorem se_Stg_isLoose : Cond.selects y_Stg_isLoose.cls y_Stg_isLoose y_Stg_isLoose ∈ gTB := gTB_s (List.mem_of_getElem? (i := 23) (by decide +kernel)) (by decide +kernel)
theorem c0_Math_abs : gC0 m_Math_abs 1 := ⟨gTB_t (gIn3 (List.mem_of_getElem? (i := 93) (by decide +kernel))) (by decide +kernel), gTB_t (gIn1 (List.mem_of_getElem? (i := 13) (by decide +kernel))) (by decide +kernel), ⟨by decide +kernel, by decide +kernel⟩, by decide +kernel, by decide, by decide +kernel⟩
theorem sm_Math_abs : Cond.static y_Math_abs ∈ gTB := gTB_t (gIn3 (List.mem_of_getElem? (i := 92) (by decide +kernel))) (by decide +kernel)
theorem c0_Stg_cube : gC0 m_Stg_cube 1 := ⟨gTB_t (gIn3 (List.mem_of_getElem? (i := 96) (by decide +kernel))) (by decide +kernel), gTB_t (gIn1 (List.mem_of_getElem? (i := 8) (by decide +kernel))) (by decide +kernel), ⟨by decide +kernel, by decide +kernel⟩, by decide +kernel, by decide, by decide +kernel⟩
theorem sm_Stg_cube : Cond.static y_Stg_cube ∈ gTB := gTB_t (gIn3 (List.mem_of_getElem? (i := 95) (by decide +kernel))) (by decide +kernel)
theorem c0_Stg_price : gC0 m_Stg_price 3 := ⟨gTB_t (gIn3 (List.mem_of_getElem? (i := 101) (by decide +kernel))) (by decide +kernel), gTB_t (gIn1 (List.mem_of_getElem? (i := 8) (by decide +kernel))) (by decide +kernel), ⟨by decide +kernel, by decide +kernel⟩, by decide +kernel, by decide, by decide +kernel⟩
theorem im_Stg_price : Cond.instanceMethod y_Stg_price ∈ gTB := gTB_t (gIn3 (List.mem_of_getElem? (i := 99) (by decide +kernel))) (by decide +kernel)
theorem se_Stg_price : Cond.selects y_Stg_price.cls y_Stg_price y_Stg_price ∈ gTB := gTB_t (gIn3 (List.mem_of_getElem? (i := 100) (by decide +kernel))) (by decide +kernel)
theorem c0_Stg_square : gC0 m_Stg_square 1 := ⟨gTB_t (gIn3 (List.mem_of_getElem? (i := 104) (by decide +kernel))) (by decide +kernel), gTB_t (gIn1 (List.mem_of_getElem? (i := 8) (by decide +kernel))) (by decide +kernel), ⟨by decide +kernel, by decide +kernel⟩, by decide +kernel, by decide, by decide +kernel⟩
theorem sm_Stg_square : Cond.static y_Stg_square ∈ gTB := gTB_t (gIn3 (List.mem_of_getElem? (i := 103) (by decide +kernel))) (by decide +kernel)
theorem c0_Cho_keepBetter : gC0 m_Cho_keepBetter 3 := ⟨gTB_t (gIn3 (List.mem_of_getElem? (i := 108) (by decide +kernel))) (by decide +kernel), gTB_t (gIn1 (List.mem_of_getElem? (i := 7) (by decide +kernel))) (by decide +kernel), ⟨by decide +kernel, by decide +kernel⟩, by decide +kernel, by decide, by decide +kernel⟩
theorem im_Cho_keepBetter : Cond.instanceMethod y_Cho_keepBetter ∈ gTB := gTB_t (gIn3 (List.mem_of_getElem? (i := 107) (by decide +kernel))) (by decide +kernel)
theorem se_Cho_keepBetter : Cond.selects y_Cho_keepBetter.cls y_Cho_keepBetter y_Cho_keepBetter ∈ gTB := gTB_s (List.mem_of_getElem? (i := 24) (by decide +kernel)) (by decide +kernel)
theorem c0_Cho_follow : gC0 m_Cho_follow 1 := ⟨gTB_t (gIn3 (List.mem_of_getElem? (i := 112) (by decide +kernel))) (by decide +kernel), gTB_t (gIn1 (List.mem_of_getElem? (i := 7) (by decide +kernel))) (by decide +kernel), ⟨by decide +kernel, by decide +kernel⟩, by decide +kernel, by decide, by decide +kernel⟩
theorem im_Cho_follow : Cond.instanceMethod y_Cho_follow ∈ gTB := gTB_t (gIn3 (List.mem_of_getElem? (i := 111) (by decide +kernel))) (by decide +kernel)
theorem se_Cho_follow : Cond.selects y_Cho_follow.cls y_Cho_follow y_Cho_follow ∈ gTB := gTB_s (List.mem_of_getElem? (i := 25) (by decide +kernel)) (by decide +kernel)
theorem c0_PS_showDraft : gC0 m_PS_showDraft 0 := ⟨gTB_t (gIn3 (List.mem_of_getElem? (i := 116) (by decide +kernel))) (by decide +kernel), gTB_t (gIn1 (List.mem_of_getElem? (i := 1) (by decide +kernel))) (by decide +kernel), ⟨by decide +kernel, by decide +kernel⟩, by decide +kernel, by decide, by decide +kernel⟩
theorem im_PS_showDraft : Cond.instanceMethod y_PS_showDraft ∈ gTB := gTB_t (gIn3 (List.mem_of_getElem? (i := 115) (by decide +kernel))) (by decide +kernel)
theorem se_PS_showDraft : Cond.selects y_PS_showDraft.cls y_PS_showDraft y_PS_showDraft ∈ gTB := gTB_s (List.mem_of_getElem? (i := 26) (by decide +kernel)) (by decide +kernel)
theorem c0_PS_cost : gC0 m_PS_cost 0 := ⟨gTB_t (gIn3 (List.mem_of_getElem? (i := 120) (by decide +kernel))) (by decide +kernel), gTB_t (gIn1 (List.mem_of_getElem? (i := 1) (by decide +kernel))) (by decide +kernel), ⟨by decide +kernel, by decide +kernel⟩, by decide +kernel, by decide, by decide +kernel⟩
theorem im_PS_cost : Cond.instanceMethod y_PS_cost ∈ gTB := gTB_t (gIn3 (List.mem_of_getElem? (i := 118) (by decide +kernel))) (by decide +kernel)
theorem se_PS_cost : Cond.selects y_PS_cost.cls y_PS_cost y_PS_cost ∈ gTB := gTB_t (gIn3 (List.mem_of_getElem? (i := 119) (by decide +kernel))) (by decide +kernel)
theorem c0_PS_line : gC0 m_PS_line 2 := ⟨gTB_t (gIn3 (List.mem_of_getElem? (i := 124) (by decide +kernel))) (by decide +kernel), gTB_t (gIn1 (List.mem_of_getElem? (i := 1) (by decide +kernel))) (by decide +kernel), ⟨by decide +kernel, by decide +kernel⟩, by decide +kernel, by decide, by decide +kernel⟩
theorem im_PS_line : Cond.instanceMethod y_PS_line ∈ gTB := gTB_t (gIn3 (List.mem_of_getElem? (i := 122) (by decide +kernel))) (by decide +kernel)
theorem se_PS_line : Cond.selects y_PS_line.cls y_PS_line y_PS_line ∈ gTB := gTB_t (gIn3 (List.mem_of_getElem? (i := 123) (by decide +kernel))) (by decide +kernel)
theorem c0_Stg_hasLine : gC0 m_Stg_hasLine 1 := ⟨gTB_t (gIn3 (List.mem_of_getElem? (i := 128) (by decide +kernel))) (by decide +kernel), gTB_t (gIn1 (List.mem_of_getElem? (i := 8) (by decide +kernel))) (by decide +kernel), ⟨by decide +kernel, by decide +kernel⟩, by decide +kernel, by decide, by decide +kernel⟩
theorem im_Stg_hasLine : Cond.instanceMethod y_Stg_hasLine ∈ gTB := gTB_t (gIn3 (List.mem_of_getElem? (i := 126) (by decide +kernel))) (by decide +kernel)
theorem se_Stg_hasLine : Cond.selects y_Stg_hasLine.cls y_Stg_hasLine y_Stg_hasLine ∈ gTB := gTB_t (gIn3 (List.mem_of_getElem? (i := 127) (by decide +kernel))) (by decide +kernel)
theorem c0_PS_character : gC0 m_PS_character 2 := ⟨gTB_t (gIn3 (List.mem_of_getElem? (i := 136) (by decide +kernel))) (by decide +kernel), gTB_t (gIn1 (List.mem_of_getElem? (i := 1) (by decide +kernel))) (by decide +kernel), ⟨by decide +kernel, by decide +kernel⟩, by decide +kernel, by decide, by decide +kernel⟩
theorem im_PS_character : Cond.instanceMethod y_PS_character ∈ gTB := gTB_t (gIn3 (List.mem_of_getElem? (i := 134) (by decide +kernel))) (by decide +kernel)
theorem se_PS_character : Cond.selects y_PS_character.cls y_PS_character y_PS_character ∈ gTB := gTB_t (gIn3 (List.mem_of_getElem? (i := 135) (by decide +kernel))) (by decide +kernel)
theorem c0_Stg_codeAt : gC0 m_Stg_codeAt 2 := ⟨gTB_t (gIn3 (List.mem_of_getElem? (i := 140) (by decide +kernel))) (by decide +kernel), gTB_t (gIn1 (List.mem_of_getElem? (i := 8) (by decide +kernel))) (by decide +kernel), ⟨by decide +kernel, by decide +kernel⟩, by decide +kernel, by decide, by decide +kernel⟩
theorem im_Stg_codeAt : Cond.instanceMethod y_Stg_codeAt ∈ gTB := gTB_t (gIn3 (List.mem_of_getElem? (i := 138) (by decide +kernel))) (by decide +kernel)
theorem se_Stg_codeAt : Cond.selects y_Stg_codeAt.cls y_Stg_codeAt y_Stg_codeAt ∈ gTB := gTB_t (gIn3 (List.mem_of_getElem? (i := 139) (by decide +kernel))) (by decide +kernel)
theorem c0_Stg_length : gC0 m_Stg_length 1 := ⟨gTB_t (gIn3 (List.mem_of_getElem? (i := 144) (by decide +kernel))) (by decide +kernel), gTB_t (gIn1 (List.mem_of_getElem? (i := 8) (by decide +kernel))) (by decide +kernel), ⟨by decide +kernel, by decide +kernel⟩, by decide +kernel, by decide, by decide +kernel⟩
theorem im_Stg_length : Cond.instanceMethod y_Stg_length ∈ gTB := gTB_t (gIn3 (List.mem_of_getElem? (i := 142) (by decide +kernel))) (by decide +kernel)
theorem se_Stg_length : Cond.selects y_Stg_length.cls y_Stg_length y_Stg_length ∈ gTB := gTB_t (gIn3 (List.mem_of_getElem? (i := 143) (by decide +kernel))) (by decide +kernel)
theorem c0_Stg_items : gC0 m_Stg_items 1 := ⟨gTB_t (gIn3 (List.mem_of_getElem? (i := 148) (by decide +kernel))) (by decide +kernel), gTB_t (gIn1 (List.mem_of_getElem? (i := 8) (by decide +kernel))) (by decide +kernel), ⟨by decide +kernel, by decide +kernel⟩, by decide +kernel, by decide, by decide +kernel⟩
theorem im_Stg_items : Cond.instanceMethod y_Stg_items ∈ gTB := gTB_t (gIn3 (List.mem_of_getElem? (i := 147) (by decide +kernel))) (by decide +kernel)
theorem se_Stg_items : Cond.selects y_Stg_items.cls y_Stg_items y_Stg_items ∈ gTB := gTB_s (List.mem_of_getElem? (i := 27) (by decide +kernel)) (by decide +kernel)
theorem c0_PS_place : gC0 m_PS_place 2 := ⟨gTB_t (gIn3 (List.mem_of_getElem? (i := 152) (by decide +kernel))) (by decide +kernel), gTB_t (gIn1 (List.mem_of_getElem? (i := 1) (by decide +kernel))) (by decide +kernel), ⟨by decide +kernel, by decide +kernel⟩, by decide +kernel, by decide, by decide +kernel⟩
theorem im_PS_place : Cond.instanceMethod y_PS_place ∈ gTB := gTB_t (gIn3 (List.mem_of_getElem? (i := 150) (by decide +kernel))) (by decide +kernel)
theorem se_PS_place : Cond.selects y_PS_place.cls y_PS_place y_PS_place ∈ gTB := gTB_t (gIn3 (List.mem_of_getElem? (i := 151) (by decide +kernel))) (by decide +kernel)
theorem c0_Stg_placeOf : gC0 m_Stg_placeOf 2 := ⟨gTB_t (gIn3 (List.mem_of_getElem? (i := 157) (by decide +kernel))) (by decide +kernel), gTB_t (gIn1 (List.mem_of_getElem? (i := 8) (by decide +kernel))) (by decide +kernel), ⟨by decide +kernel, by decide +kernel⟩, by decide +kernel, by decide, by decide +kernel⟩
theorem im_Stg_placeOf : Cond.instanceMethod y_Stg_placeOf ∈ gTB := gTB_t (gIn3 (List.mem_of_getElem? (i := 155) (by decide +kernel))) (by decide +kernel)
theorem se_Stg_placeOf : Cond.selects y_Stg_placeOf.cls y_Stg_placeOf y_Stg_placeOf ∈ gTB := gTB_t (gIn3 (List.mem_of_getElem? (i := 156) (by decide +kernel))) (by decide +kernel)
theorem c0_Math_floorDiv : gC0 m_Math_floorDiv 2 := ⟨gTB_t (gIn3 (List.mem_of_getElem? (i := 160) (by decide +kernel))) (by decide +kernel), gTB_t (gIn1 (List.mem_of_getElem? (i := 13) (by decide +kernel))) (by decide +kernel), ⟨by decide +kernel, by decide +kernel⟩, by decide +kernel, by decide, by decide +kernel⟩
theorem sm_Math_floorDiv : Cond.static y_Math_floorDiv ∈ gTB := gTB_t (gIn3 (List.mem_of_getElem? (i := 159) (by decide +kernel))) (by decide +kernel)
theorem c0_PS_count : gC0 m_PS_count 1 := ⟨gTB_t (gIn3 (List.mem_of_getElem? (i := 164) (by decide +kernel))) (by decide +kernel), gTB_t (gIn1 (List.mem_of_getElem? (i := 1) (by decide +kernel))) (by decide +kernel), ⟨by decide +kernel, by decide +kernel⟩, by decide +kernel, by decide, by decide +kernel⟩
theorem im_PS_count : Cond.instanceMethod y_PS_count ∈ gTB := gTB_t (gIn3 (List.mem_of_getElem? (i := 162) (by decide +kernel))) (by decide +kernel)
theorem se_PS_count : Cond.selects y_PS_count.cls y_PS_count y_PS_count ∈ gTB := gTB_t (gIn3 (List.mem_of_getElem? (i := 163) (by decide +kernel))) (by decide +kernel)
theorem c0_Brk_points : gC0 m_Brk_points 0 := ⟨gTB_t (gIn3 (List.mem_of_getElem? (i := 168) (by decide +kernel))) (by decide +kernel), gTB_t (gIn1 (List.mem_of_getElem? (i := 10) (by decide +kernel))) (by decide +kernel), ⟨by decide +kernel, by decide +kernel⟩, by decide +kernel, by decide, by decide +kernel⟩
theorem im_Brk_points : Cond.instanceMethod y_Brk_points ∈ gTB := gTB_t (gIn3 (List.mem_of_getElem? (i := 166) (by decide +kernel))) (by decide +kernel)
theorem se_Brk_points : Cond.selects y_Brk_points.cls y_Brk_points y_Brk_points ∈ gTB := gTB_t (gIn3 (List.mem_of_getElem? (i := 167) (by decide +kernel))) (by decide +kernel)
theorem c0_Mod_init : gC0 m_Mod_init 0 := ⟨gTB_t (gIn3 (List.mem_of_getElem? (i := 173) (by decide +kernel))) (by decide +kernel), gTB_t (gIn1 (List.mem_of_getElem? (i := 12) (by decide +kernel))) (by decide +kernel), ⟨by decide +kernel, by decide +kernel⟩, by decide +kernel, by decide, by decide +kernel⟩
theorem im_Mod_init : Cond.instanceMethod y_Mod_init ∈ gTB := gTB_t (gIn3 (List.mem_of_getElem? (i := 172) (by decide +kernel))) (by decide +kernel)
theorem c0_Mod_type : gC0 m_Mod_type 1 := ⟨gTB_t (gIn4 (List.mem_of_getElem? (i := 96) (by decide +kernel))) (by decide +kernel), gTB_t (gIn1 (List.mem_of_getElem? (i := 12) (by decide +kernel))) (by decide +kernel), ⟨by decide +kernel, by decide +kernel⟩, by decide +kernel, by decide, by decide +kernel⟩
theorem im_Mod_type : Cond.instanceMethod y_Mod_type ∈ gTB := gTB_t (gIn4 (List.mem_of_getElem? (i := 94) (by decide +kernel))) (by decide +kernel)
theorem se_Mod_type : Cond.selects y_Mod_type.cls y_Mod_type y_Mod_type ∈ gTB := gTB_t (gIn4 (List.mem_of_getElem? (i := 95) (by decide +kernel))) (by decide +kernel)
theorem c0_Mod_letter : gC0 m_Mod_letter 1 := ⟨gTB_t (gIn4 (List.mem_of_getElem? (i := 99) (by decide +kernel))) (by decide +kernel), gTB_t (gIn1 (List.mem_of_getElem? (i := 12) (by decide +kernel))) (by decide +kernel), ⟨by decide +kernel, by decide +kernel⟩, by decide +kernel, by decide, by decide +kernel⟩
theorem sm_Mod_letter : Cond.static y_Mod_letter ∈ gTB := gTB_t (gIn4 (List.mem_of_getElem? (i := 98) (by decide +kernel))) (by decide +kernel)
theorem c0_Mod_digit : gC0 m_Mod_digit 1 := ⟨gTB_t (gIn4 (List.mem_of_getElem? (i := 102) (by decide +kernel))) (by decide +kernel), gTB_t (gIn1 (List.mem_of_getElem? (i := 12) (by decide +kernel))) (by decide +kernel), ⟨by decide +kernel, by decide +kernel⟩, by decide +kernel, by decide, by decide +kernel⟩
theorem sm_Mod_digit : Cond.static y_Mod_digit ∈ gTB := gTB_t (gIn4 (List.mem_of_getElem? (i := 101) (by decide +kernel))) (by decide +kernel)
theorem c0_Mod_wipe : gC0 m_Mod_wipe 0 := ⟨gTB_t (gIn4 (List.mem_of_getElem? (i := 106) (by decide +kernel))) (by decide +kernel), gTB_t (gIn1 (List.mem_of_getElem? (i := 12) (by decide +kernel))) (by decide +kernel), ⟨by decide +kernel, by decide +kernel⟩, by decide +kernel, by decide, by decide +kernel⟩
theorem im_Mod_wipe : Cond.instanceMethod y_Mod_wipe ∈ gTB := gTB_t (gIn4 (List.mem_of_getElem? (i := 104) (by decide +kernel))) (by decide +kernel)
theorem se_Mod_wipe : Cond.selects y_Mod_wipe.cls y_Mod_wipe y_Mod_wipe ∈ gTB := gTB_t (gIn4 (List.mem_of_getElem? (i := 105) (by decide +kernel))) (by decide +kernel)
theorem c0_Mod_width : gC0 m_Mod_width 2 := ⟨gTB_t (gIn4 (List.mem_of_getElem? (i := 110) (by decide +kernel))) (by decide +kernel), gTB_t (gIn1 (List.mem_of_getElem? (i := 12) (by decide +kernel))) (by decide +kernel), ⟨by decide +kernel, by decide +kernel⟩, by decide +kernel, by decide, by decide +kernel⟩
theorem im_Mod_width : Cond.instanceMethod y_Mod_width ∈ gTB := gTB_t (gIn4 (List.mem_of_getElem? (i := 108) (by decide +kernel))) (by decide +kernel)
theorem se_Mod_width : Cond.selects y_Mod_width.cls y_Mod_width y_Mod_width ∈ gTB := gTB_t (gIn4 (List.mem_of_getElem? (i := 109) (by decide +kernel))) (by decide +kernel)
theorem c0_Mod_parameter : gC0 m_Mod_parameter 2 := ⟨gTB_t (gIn4 (List.mem_of_getElem? (i := 114) (by decide +kernel))) (by decide +kernel), gTB_t (gIn1 (List.mem_of_getElem? (i := 12) (by decide +kernel))) (by decide +kernel), ⟨by decide +kernel, by decide +kernel⟩, by decide +kernel, by decide, by decide +kernel⟩
theorem im_Mod_parameter : Cond.instanceMethod y_Mod_parameter ∈ gTB := gTB_t (gIn4 (List.mem_of_getElem? (i := 112) (by decide +kernel))) (by decide +kernel)
theorem se_Mod_parameter : Cond.selects y_Mod_parameter.cls y_Mod_parameter y_Mod_parameter ∈ gTB := gTB_t (gIn4 (List.mem_of_getElem? (i := 113) (by decide +kernel))) (by decide +kernel)
theorem c0_Mod_define : gC0 m_Mod_define 1 := ⟨gTB_t (gIn4 (List.mem_of_getElem? (i := 118) (by decide +kernel))) (by decide +kernel), gTB_t (gIn1 (List.mem_of_getElem? (i := 12) (by decide +kernel))) (by decide +kernel), ⟨by decide +kernel, by decide +kernel⟩, by decide +kernel, by decide, by decide +kernel⟩
theorem im_Mod_define : Cond.instanceMethod y_Mod_define ∈ gTB := gTB_t (gIn4 (List.mem_of_getElem? (i := 116) (by decide +kernel))) (by decide +kernel)
theorem se_Mod_define : Cond.selects y_Mod_define.cls y_Mod_define y_Mod_define ∈ gTB := gTB_t (gIn4 (List.mem_of_getElem? (i := 117) (by decide +kernel))) (by decide +kernel)
theorem c0_Mod_pattern : gC0 m_Mod_pattern 0 := ⟨gTB_t (gIn4 (List.mem_of_getElem? (i := 122) (by decide +kernel))) (by decide +kernel), gTB_t (gIn1 (List.mem_of_getElem? (i := 12) (by decide +kernel))) (by decide +kernel), ⟨by decide +kernel, by decide +kernel⟩, by decide +kernel, by decide, by decide +kernel⟩
theorem im_Mod_pattern : Cond.instanceMethod y_Mod_pattern ∈ gTB := gTB_t (gIn4 (List.mem_of_getElem? (i := 120) (by decide +kernel))) (by decide +kernel)
theorem se_Mod_pattern : Cond.selects y_Mod_pattern.cls y_Mod_pattern y_Mod_pattern ∈ gTB := gTB_t (gIn4 (List.mem_of_getElem? (i := 121) (by decide +kernel))) (by decide +kernel)
theorem c0_Mod_paragraph : gC0 m_Mod_paragraph 0 := ⟨gTB_t (gIn4 (List.mem_of_getElem? (i := 126) (by decide +kernel))) (by decide +kernel), gTB_t (gIn1 (List.mem_of_getElem? (i := 12) (by decide +kernel))) (by decide +kernel), ⟨by decide +kernel, by decide +kernel⟩, by decide +kernel, by decide, by decide +kernel⟩
theorem im_Mod_paragraph : Cond.instanceMethod y_Mod_paragraph ∈ gTB := gTB_t (gIn4 (List.mem_of_getElem? (i := 124) (by decide +kernel))) (by decide +kernel)
theorem se_Mod_paragraph : Cond.selects y_Mod_paragraph.cls y_Mod_paragraph y_Mod_paragraph ∈ gTB := gTB_t (gIn4 (List.mem_of_getElem? (i := 125) (by decide +kernel))) (by decide +kernel)
theorem c0_Mod_expand : gC0 m_Mod_expand 0 := ⟨gTB_t (gIn4 (List.mem_of_getElem? (i := 130) (by decide +kernel))) (by decide +kernel), gTB_t (gIn1 (List.mem_of_getElem? (i := 12) (by decide +kernel))) (by decide +kernel), ⟨by decide +kernel, by decide +kernel⟩, by decide +kernel, by decide, by decide +kernel⟩
theorem im_Mod_expand : Cond.instanceMethod y_Mod_expand ∈ gTB := gTB_t (gIn4 (List.mem_of_getElem? (i := 129) (by decide +kernel))) (by decide +kernel)
theorem se_Mod_expand : Cond.selects y_Mod_expand.cls y_Mod_expand y_Mod_expand ∈ gTB := gTB_s (List.mem_of_getElem? (i := 28) (by decide +kernel)) (by decide +kernel)
theorem c0_Mod_take : gC0 m_Mod_take 0 := ⟨gTB_t (gIn4 (List.mem_of_getElem? (i := 134) (by decide +kernel))) (by decide +kernel), gTB_t (gIn1 (List.mem_of_getElem? (i := 12) (by decide +kernel))) (by decide +kernel), ⟨by decide +kernel, by decide +kernel⟩, by decide +kernel, by decide, by decide +kernel⟩
theorem im_Mod_take : Cond.instanceMethod y_Mod_take ∈ gTB := gTB_t (gIn4 (List.mem_of_getElem? (i := 133) (by decide +kernel))) (by decide +kernel)
theorem se_Mod_take : Cond.selects y_Mod_take.cls y_Mod_take y_Mod_take ∈ gTB := gTB_s (List.mem_of_getElem? (i := 29) (by decide +kernel)) (by decide +kernel)
theorem c0_Mod_call : gC0 m_Mod_call 1 := ⟨gTB_t (gIn4 (List.mem_of_getElem? (i := 138) (by decide +kernel))) (by decide +kernel), gTB_t (gIn1 (List.mem_of_getElem? (i := 12) (by decide +kernel))) (by decide +kernel), ⟨by decide +kernel, by decide +kernel⟩, by decide +kernel, by decide, by decide +kernel⟩
theorem im_Mod_call : Cond.instanceMethod y_Mod_call ∈ gTB := gTB_t (gIn4 (List.mem_of_getElem? (i := 137) (by decide +kernel))) (by decide +kernel)
theorem se_Mod_call : Cond.selects y_Mod_call.cls y_Mod_call y_Mod_call ∈ gTB := gTB_s (List.mem_of_getElem? (i := 30) (by decide +kernel)) (by decide +kernel)
theorem c0_Mod_takeArgument : gC0 m_Mod_takeArgument 0 := ⟨gTB_t (gIn4 (List.mem_of_getElem? (i := 142) (by decide +kernel))) (by decide +kernel), gTB_t (gIn1 (List.mem_of_getElem? (i := 12) (by decide +kernel))) (by decide +kernel), ⟨by decide +kernel, by decide +kernel⟩, by decide +kernel, by decide, by decide +kernel⟩
theorem im_Mod_takeArgument : Cond.instanceMethod y_Mod_takeArgument ∈ gTB := gTB_t (gIn4 (List.mem_of_getElem? (i := 141) (by decide +kernel))) (by decide +kernel)
theorem se_Mod_takeArgument : Cond.selects y_Mod_takeArgument.cls y_Mod_takeArgument y_Mod_takeArgument ∈ gTB := gTB_s (List.mem_of_getElem? (i := 31) (by decide +kernel)) (by decide +kernel)
theorem c0_Mod_clean : gC0 m_Mod_clean 0 := ⟨gTB_t (gIn4 (List.mem_of_getElem? (i := 146) (by decide +kernel))) (by decide +kernel), gTB_t (gIn1 (List.mem_of_getElem? (i := 12) (by decide +kernel))) (by decide +kernel), ⟨by decide +kernel, by decide +kernel⟩, by decide +kernel, by decide, by decide +kernel⟩
theorem im_Mod_clean : Cond.instanceMethod y_Mod_clean ∈ gTB := gTB_t (gIn4 (List.mem_of_getElem? (i := 145) (by decide +kernel))) (by decide +kernel)
theorem se_Mod_clean : Cond.selects y_Mod_clean.cls y_Mod_clean y_Mod_clean ∈ gTB := gTB_s (List.mem_of_getElem? (i := 32) (by decide +kernel)) (by decide +kernel)
theorem c0_Mod_drop : gC0 m_Mod_drop 1 := ⟨gTB_t (gIn4 (List.mem_of_getElem? (i := 150) (by decide +kernel))) (by decide +kernel), gTB_t (gIn1 (List.mem_of_getElem? (i := 12) (by decide +kernel))) (by decide +kernel), ⟨by decide +kernel, by decide +kernel⟩, by decide +kernel, by decide, by decide +kernel⟩
theorem im_Mod_drop : Cond.instanceMethod y_Mod_drop ∈ gTB := gTB_t (gIn4 (List.mem_of_getElem? (i := 149) (by decide +kernel))) (by decide +kernel)
theorem se_Mod_drop : Cond.selects y_Mod_drop.cls y_Mod_drop y_Mod_drop ∈ gTB := gTB_s (List.mem_of_getElem? (i := 33) (by decide +kernel)) (by decide +kernel)
theorem c0_Mod_hyphenate : gC0 m_Mod_hyphenate 0 := ⟨gTB_t (gIn4 (List.mem_of_getElem? (i := 154) (by decide +kernel))) (by decide +kernel), gTB_t (gIn1 (List.mem_of_getElem? (i := 12) (by decide +kernel))) (by decide +kernel), ⟨by decide +kernel, by decide +kernel⟩, by decide +kernel, by decide, by decide +kernel⟩
theorem im_Mod_hyphenate : Cond.instanceMethod y_Mod_hyphenate ∈ gTB := gTB_t (gIn4 (List.mem_of_getElem? (i := 153) (by decide +kernel))) (by decide +kernel)
theorem se_Mod_hyphenate : Cond.selects y_Mod_hyphenate.cls y_Mod_hyphenate y_Mod_hyphenate ∈ gTB := gTB_s (List.mem_of_getElem? (i := 34) (by decide +kernel)) (by decide +kernel)
theorem c0_Mod_greatest : gC0 m_Mod_greatest 3 := ⟨gTB_t (gIn4 (List.mem_of_getElem? (i := 158) (by decide +kernel))) (by decide +kernel), gTB_t (gIn1 (List.mem_of_getElem? (i := 12) (by decide +kernel))) (by decide +kernel), ⟨by decide +kernel, by decide +kernel⟩, by decide +kernel, by decide, by decide +kernel⟩
theorem im_Mod_greatest : Cond.instanceMethod y_Mod_greatest ∈ gTB := gTB_t (gIn4 (List.mem_of_getElem? (i := 157) (by decide +kernel))) (by decide +kernel)
theorem se_Mod_greatest : Cond.selects y_Mod_greatest.cls y_Mod_greatest y_Mod_greatest ∈ gTB := gTB_s (List.mem_of_getElem? (i := 35) (by decide +kernel)) (by decide +kernel)
theorem c0_Mod_signOf : gC0 m_Mod_signOf 3 := ⟨gTB_t (gIn4 (List.mem_of_getElem? (i := 162) (by decide +kernel))) (by decide +kernel), gTB_t (gIn1 (List.mem_of_getElem? (i := 12) (by decide +kernel))) (by decide +kernel), ⟨by decide +kernel, by decide +kernel⟩, by decide +kernel, by decide, by decide +kernel⟩
theorem im_Mod_signOf : Cond.instanceMethod y_Mod_signOf ∈ gTB := gTB_t (gIn4 (List.mem_of_getElem? (i := 161) (by decide +kernel))) (by decide +kernel)
theorem se_Mod_signOf : Cond.selects y_Mod_signOf.cls y_Mod_signOf y_Mod_signOf ∈ gTB := gTB_s (List.mem_of_getElem? (i := 36) (by decide +kernel)) (by decide +kernel)
theorem c0_Mod_findBreaks : gC0 m_Mod_findBreaks 0 := ⟨gTB_t (gIn4 (List.mem_of_getElem? (i := 166) (by decide +kernel))) (by decide +kernel), gTB_t (gIn1 (List.mem_of_getElem? (i := 12) (by decide +kernel))) (by decide +kernel), ⟨by decide +kernel, by decide +kernel⟩, by decide +kernel, by decide, by decide +kernel⟩
theorem im_Mod_findBreaks : Cond.instanceMethod y_Mod_findBreaks ∈ gTB := gTB_t (gIn4 (List.mem_of_getElem? (i := 165) (by decide +kernel))) (by decide +kernel)
theorem se_Mod_findBreaks : Cond.selects y_Mod_findBreaks.cls y_Mod_findBreaks y_Mod_findBreaks ∈ gTB := gTB_s (List.mem_of_getElem? (i := 37) (by decide +kernel)) (by decide +kernel)
theorem c0_Mod_addBreak : gC0 m_Mod_addBreak 3 := ⟨gTB_t (gIn4 (List.mem_of_getElem? (i := 170) (by decide +kernel))) (by decide +kernel), gTB_t (gIn1 (List.mem_of_getElem? (i := 12) (by decide +kernel))) (by decide +kernel), ⟨by decide +kernel, by decide +kernel⟩, by decide +kernel, by decide, by decide +kernel⟩
theorem im_Mod_addBreak : Cond.instanceMethod y_Mod_addBreak ∈ gTB := gTB_t (gIn4 (List.mem_of_getElem? (i := 169) (by decide +kernel))) (by decide +kernel)
theorem se_Mod_addBreak : Cond.selects y_Mod_addBreak.cls y_Mod_addBreak y_Mod_addBreak ∈ gTB := gTB_s (List.mem_of_getElem? (i := 38) (by decide +kernel)) (by decide +kernel)
theorem c0_Mod_solve : gC0 m_Mod_solve 0 := ⟨gTB_t (gIn4 (List.mem_of_getElem? (i := 174) (by decide +kernel))) (by decide +kernel), gTB_t (gIn1 (List.mem_of_getElem? (i := 12) (by decide +kernel))) (by decide +kernel), ⟨by decide +kernel, by decide +kernel⟩, by decide +kernel, by decide, by decide +kernel⟩
theorem im_Mod_solve : Cond.instanceMethod y_Mod_solve ∈ gTB := gTB_t (gIn4 (List.mem_of_getElem? (i := 173) (by decide +kernel))) (by decide +kernel)
theorem se_Mod_solve : Cond.selects y_Mod_solve.cls y_Mod_solve y_Mod_solve ∈ gTB := gTB_s (List.mem_of_getElem? (i := 39) (by decide +kernel)) (by decide +kernel)
theorem c0_Mod_measure : gC0 m_Mod_measure 2 := ⟨gTB_t (gIn4 (List.mem_of_getElem? (i := 179) (by decide +kernel))) (by decide +kernel), gTB_t (gIn1 (List.mem_of_getElem? (i := 12) (by decide +kernel))) (by decide +kernel), ⟨by decide +kernel, by decide +kernel⟩, by decide +kernel, by decide, by decide +kernel⟩
theorem im_Mod_measure : Cond.instanceMethod y_Mod_measure ∈ gTB := gTB_t (gIn4 (List.mem_of_getElem? (i := 178) (by decide +kernel))) (by decide +kernel)
theorem se_Mod_measure : Cond.selects y_Mod_measure.cls y_Mod_measure y_Mod_measure ∈ gTB := gTB_s (List.mem_of_getElem? (i := 40) (by decide +kernel)) (by decide +kernel)
theorem c0_Mod_price : gC0 m_Mod_price 2 := ⟨gTB_t (gIn4 (List.mem_of_getElem? (i := 185) (by decide +kernel))) (by decide +kernel), gTB_t (gIn1 (List.mem_of_getElem? (i := 12) (by decide +kernel))) (by decide +kernel), ⟨by decide +kernel, by decide +kernel⟩, by decide +kernel, by decide, by decide +kernel⟩
theorem im_Mod_price : Cond.instanceMethod y_Mod_price ∈ gTB := gTB_t (gIn4 (List.mem_of_getElem? (i := 184) (by decide +kernel))) (by decide +kernel)
theorem se_Mod_price : Cond.selects y_Mod_price.cls y_Mod_price y_Mod_price ∈ gTB := gTB_s (List.mem_of_getElem? (i := 41) (by decide +kernel)) (by decide +kernel)
theorem c0_Mod_jot : gC0 m_Mod_jot 0 := ⟨gTB_t (gIn4 (List.mem_of_getElem? (i := 189) (by decide +kernel))) (by decide +kernel), gTB_t (gIn1 (List.mem_of_getElem? (i := 12) (by decide +kernel))) (by decide +kernel), ⟨by decide +kernel, by decide +kernel⟩, by decide +kernel, by decide, by decide +kernel⟩
theorem im_Mod_jot : Cond.instanceMethod y_Mod_jot ∈ gTB := gTB_t (gIn4 (List.mem_of_getElem? (i := 188) (by decide +kernel))) (by decide +kernel)
theorem se_Mod_jot : Cond.selects y_Mod_jot.cls y_Mod_jot y_Mod_jot ∈ gTB := gTB_s (List.mem_of_getElem? (i := 42) (by decide +kernel)) (by decide +kernel)
theorem c0_Mod_cost : gC0 m_Mod_cost 0 := ⟨gTB_t (gIn4 (List.mem_of_getElem? (i := 193) (by decide +kernel))) (by decide +kernel), gTB_t (gIn1 (List.mem_of_getElem? (i := 12) (by decide +kernel))) (by decide +kernel), ⟨by decide +kernel, by decide +kernel⟩, by decide +kernel, by decide, by decide +kernel⟩
theorem im_Mod_cost : Cond.instanceMethod y_Mod_cost ∈ gTB := gTB_t (gIn4 (List.mem_of_getElem? (i := 191) (by decide +kernel))) (by decide +kernel)
theorem se_Mod_cost : Cond.selects y_Mod_cost.cls y_Mod_cost y_Mod_cost ∈ gTB := gTB_t (gIn4 (List.mem_of_getElem? (i := 192) (by decide +kernel))) (by decide +kernel)
theorem c0_Mod_line : gC0 m_Mod_line 2 := ⟨gTB_t (gIn4 (List.mem_of_getElem? (i := 197) (by decide +kernel))) (by decide +kernel), gTB_t (gIn1 (List.mem_of_getElem? (i := 12) (by decide +kernel))) (by decide +kernel), ⟨by decide +kernel, by decide +kernel⟩, by decide +kernel, by decide, by decide +kernel⟩
theorem im_Mod_line : Cond.instanceMethod y_Mod_line ∈ gTB := gTB_t (gIn4 (List.mem_of_getElem? (i := 195) (by decide +kernel))) (by decide +kernel)
theorem se_Mod_line : Cond.selects y_Mod_line.cls y_Mod_line y_Mod_line ∈ gTB := gTB_t (gIn4 (List.mem_of_getElem? (i := 196) (by decide +kernel))) (by decide +kernel)
theorem c0_Mod_isLine : gC0 m_Mod_isLine 1 := ⟨gTB_t (gIn4 (List.mem_of_getElem? (i := 201) (by decide +kernel))) (by decide +kernel), gTB_t (gIn1 (List.mem_of_getElem? (i := 12) (by decide +kernel))) (by decide +kernel), ⟨by decide +kernel, by decide +kernel⟩, by decide +kernel, by decide, by decide +kernel⟩
theorem im_Mod_isLine : Cond.instanceMethod y_Mod_isLine ∈ gTB := gTB_t (gIn4 (List.mem_of_getElem? (i := 200) (by decide +kernel))) (by decide +kernel)
theorem se_Mod_isLine : Cond.selects y_Mod_isLine.cls y_Mod_isLine y_Mod_isLine ∈ gTB := gTB_s (List.mem_of_getElem? (i := 43) (by decide +kernel)) (by decide +kernel)
theorem c0_Mod_character : gC0 m_Mod_character 2 := ⟨gTB_t (gIn4 (List.mem_of_getElem? (i := 205) (by decide +kernel))) (by decide +kernel), gTB_t (gIn1 (List.mem_of_getElem? (i := 12) (by decide +kernel))) (by decide +kernel), ⟨by decide +kernel, by decide +kernel⟩, by decide +kernel, by decide, by decide +kernel⟩
theorem im_Mod_character : Cond.instanceMethod y_Mod_character ∈ gTB := gTB_t (gIn4 (List.mem_of_getElem? (i := 203) (by decide +kernel))) (by decide +kernel)
theorem se_Mod_character : Cond.selects y_Mod_character.cls y_Mod_character y_Mod_character ∈ gTB := gTB_t (gIn4 (List.mem_of_getElem? (i := 204) (by decide +kernel))) (by decide +kernel)
theorem c0_Mod_characters : gC0 m_Mod_characters 1 := ⟨gTB_t (gIn4 (List.mem_of_getElem? (i := 209) (by decide +kernel))) (by decide +kernel), gTB_t (gIn1 (List.mem_of_getElem? (i := 12) (by decide +kernel))) (by decide +kernel), ⟨by decide +kernel, by decide +kernel⟩, by decide +kernel, by decide, by decide +kernel⟩
theorem im_Mod_characters : Cond.instanceMethod y_Mod_characters ∈ gTB := gTB_t (gIn4 (List.mem_of_getElem? (i := 208) (by decide +kernel))) (by decide +kernel)
theorem se_Mod_characters : Cond.selects y_Mod_characters.cls y_Mod_characters y_Mod_characters ∈ gTB := gTB_s (List.mem_of_getElem? (i := 44) (by decide +kernel)) (by decide +kernel)
theorem c0_Mod_place : gC0 m_Mod_place 2 := ⟨gTB_t (gIn4 (List.mem_of_getElem? (i := 213) (by decide +kernel))) (by decide +kernel), gTB_t (gIn1 (List.mem_of_getElem? (i := 12) (by decide +kernel))) (by decide +kernel), ⟨by decide +kernel, by decide +kernel⟩, by decide +kernel, by decide, by decide +kernel⟩
theorem im_Mod_place : Cond.instanceMethod y_Mod_place ∈ gTB := gTB_t (gIn4 (List.mem_of_getElem? (i := 211) (by decide +kernel))) (by decide +kernel)
theorem se_Mod_place : Cond.selects y_Mod_place.cls y_Mod_place y_Mod_place ∈ gTB := gTB_t (gIn4 (List.mem_of_getElem? (i := 212) (by decide +kernel))) (by decide +kernel)
theorem c0_Mod_count : gC0 m_Mod_count 1 := ⟨gTB_t (gIn4 (List.mem_of_getElem? (i := 217) (by decide +kernel))) (by decide +kernel), gTB_t (gIn1 (List.mem_of_getElem? (i := 12) (by decide +kernel))) (by decide +kernel), ⟨by decide +kernel, by decide +kernel⟩, by decide +kernel, by decide, by decide +kernel⟩
theorem im_Mod_count : Cond.instanceMethod y_Mod_count ∈ gTB := gTB_t (gIn4 (List.mem_of_getElem? (i := 215) (by decide +kernel))) (by decide +kernel)
theorem se_Mod_count : Cond.selects y_Mod_count.cls y_Mod_count y_Mod_count ∈ gTB := gTB_t (gIn4 (List.mem_of_getElem? (i := 216) (by decide +kernel))) (by decide +kernel)
end
section
theorem cl_Law_7 : Cond.classLink R_Law 7 "ParagraphSetter" ∈ gTB := gTB_t (gIn1 (List.mem_of_getElem? (i := 14) (by decide +kernel))) (by decide +kernel)
theorem lk_Law_9 : gLk R_Law 9 m_PS_init := Or.inl (gTB_t (gIn1 (List.mem_of_getElem? (i := 16) (by decide +kernel))) (by decide +kernel))
theorem ob_PS_3 : Cond.methodLink R_PS 3 Lib.objectInit ∈ gTB := gTB_t (gIn1 (List.mem_of_getElem? (i := 19) (by decide +kernel))) (by decide +kernel)
theorem cl_PS_9 : Cond.classLink R_PS 9 "ParagraphSetter$Row" ∈ gTB := gTB_t (gIn1 (List.mem_of_getElem? (i := 22) (by decide +kernel))) (by decide +kernel)
theorem lk_PS_11 : gLk R_PS 11 m_Row_init := Or.inl (gTB_t (gIn1 (List.mem_of_getElem? (i := 24) (by decide +kernel))) (by decide +kernel))
theorem ob_Row_1 : Cond.methodLink R_Row 1 Lib.objectInit ∈ gTB := gTB_t (gIn1 (List.mem_of_getElem? (i := 27) (by decide +kernel))) (by decide +kernel)
theorem f_Row_7 : gF R_Row 7 0 0 := ⟨R_Row, F_Row, 2, rfl, by decide, rfl, l_Row, Or.inl (gTB_t (gIn1 (List.mem_of_getElem? (i := 28) (by decide +kernel))) (by decide +kernel))⟩
theorem ff_Row_7 : ∀ C T N, classes[0]? = some (C, T, N) → C = R_Row ∧ Cond.fieldLink R_Row 7 C (T 0).2.1 (T 0).2.2.1 ∈ gTB := fun C T N h => by cases h; exact ⟨rfl, gTB_t (gIn1 (List.mem_of_getElem? (i := 28) (by decide +kernel))) (by decide +kernel)⟩
theorem f_Pat_25 : gF R_Pat 25 0 0 := ⟨R_Row, F_Row, 2, rfl, by decide, rfl, l_Row, Or.inr ⟨"ParagraphSetter", gNW_in (gIn1 (List.mem_of_getElem? (i := 29) (by decide +kernel))) rfl⟩⟩
theorem f_Exp_63 : gF R_Exp 63 0 0 := ⟨R_Row, F_Row, 2, rfl, by decide, rfl, l_Row, Or.inr ⟨"ParagraphSetter", gNW_in (gIn1 (List.mem_of_getElem? (i := 30) (by decide +kernel))) rfl⟩⟩
theorem f_Row_13 : gF R_Row 13 0 1 := ⟨R_Row, F_Row, 2, rfl, by decide, rfl, l_Row, Or.inl (gTB_t (gIn1 (List.mem_of_getElem? (i := 31) (by decide +kernel))) (by decide +kernel))⟩
theorem f_Pat_22 : gF R_Pat 22 0 1 := ⟨R_Row, F_Row, 2, rfl, by decide, rfl, l_Row, Or.inr ⟨"ParagraphSetter", gNW_in (gIn1 (List.mem_of_getElem? (i := 32) (by decide +kernel))) rfl⟩⟩
theorem f_PS_70 : gF R_PS 70 0 1 := ⟨R_Row, F_Row, 2, rfl, by decide, rfl, l_Row, Or.inr ⟨"ParagraphSetter", gNW_in (gIn1 (List.mem_of_getElem? (i := 33) (by decide +kernel))) rfl⟩⟩
theorem f_Exp_59 : gF R_Exp 59 0 1 := ⟨R_Row, F_Row, 2, rfl, by decide, rfl, l_Row, Or.inr ⟨"ParagraphSetter", gNW_in (gIn1 (List.mem_of_getElem? (i := 34) (by decide +kernel))) rfl⟩⟩
theorem gs_PS_22 : Cond.fieldLink R_PS 22 "ParagraphSetter" "FIRST_VALUES" "[I" ∈ gTB := gTB_t (gIn1 (List.mem_of_getElem? (i := 41) (by decide +kernel))) (by decide +kernel)
theorem cl_PS_28 : Cond.classLink R_PS 28 "ParagraphSetter$Expander" ∈ gTB := gTB_t (gIn1 (List.mem_of_getElem? (i := 43) (by decide +kernel))) (by decide +kernel)
theorem lk_PS_30 : gLk R_PS 30 m_Exp_init := Or.inl (gTB_t (gIn1 (List.mem_of_getElem? (i := 45) (by decide +kernel))) (by decide +kernel))
theorem ob_Exp_3 : Cond.methodLink R_Exp 3 Lib.objectInit ∈ gTB := gTB_t (gIn1 (List.mem_of_getElem? (i := 48) (by decide +kernel))) (by decide +kernel)
theorem cl_Exp_9 : Cond.classLink R_Exp 9 "ParagraphSetter$Macro" ∈ gTB := gTB_t (gIn1 (List.mem_of_getElem? (i := 49) (by decide +kernel))) (by decide +kernel)
theorem cl_Exp_21 : Cond.classLink R_Exp 21 "ParagraphSetter$Row" ∈ gTB := gTB_t (gIn1 (List.mem_of_getElem? (i := 51) (by decide +kernel))) (by decide +kernel)
theorem lk_Exp_23 : gLk R_Exp 23 m_Row_init := Or.inl (gTB_t (gIn1 (List.mem_of_getElem? (i := 52) (by decide +kernel))) (by decide +kernel))
theorem lk_Exp_33 : gLk R_Exp 33 m_Mac_init := Or.inr ⟨"ParagraphSetter", gNW_in (gIn1 (List.mem_of_getElem? (i := 54) (by decide +kernel))) rfl⟩
theorem ob_Mac_3 : Cond.methodLink R_Mac 3 Lib.objectInit ∈ gTB := gTB_t (gIn1 (List.mem_of_getElem? (i := 57) (by decide +kernel))) (by decide +kernel)
theorem cl_Mac_9 : Cond.classLink R_Mac 9 "ParagraphSetter$Row" ∈ gTB := gTB_t (gIn1 (List.mem_of_getElem? (i := 58) (by decide +kernel))) (by decide +kernel)
theorem lk_Mac_11 : gLk R_Mac 11 m_Row_init := Or.inl (gTB_t (gIn1 (List.mem_of_getElem? (i := 59) (by decide +kernel))) (by decide +kernel))
theorem f_Mac_14 : gF R_Mac 14 1 0 := ⟨R_Mac, F_Mac, 2, rfl, by decide, rfl, l_Mac, Or.inl (gTB_t (gIn1 (List.mem_of_getElem? (i := 60) (by decide +kernel))) (by decide +kernel))⟩
theorem ff_Mac_14 : ∀ C T N, classes[1]? = some (C, T, N) → C = R_Mac ∧ Cond.fieldLink R_Mac 14 C (T 0).2.1 (T 0).2.2.1 ∈ gTB := fun C T N h => by cases h; exact ⟨rfl, gTB_t (gIn1 (List.mem_of_getElem? (i := 60) (by decide +kernel))) (by decide +kernel)⟩
theorem f_Exp_103 : gF R_Exp 103 1 0 := ⟨R_Mac, F_Mac, 2, rfl, by decide, rfl, l_Mac, Or.inr ⟨"ParagraphSetter", gNW_in (gIn1 (List.mem_of_getElem? (i := 61) (by decide +kernel))) rfl⟩⟩
theorem f_Mac_20 : gF R_Mac 20 1 1 := ⟨R_Mac, F_Mac, 2, rfl, by decide, rfl, l_Mac, Or.inl (gTB_t (gIn1 (List.mem_of_getElem? (i := 62) (by decide +kernel))) (by decide +kernel))⟩
theorem f_Exp_99 : gF R_Exp 99 1 1 := ⟨R_Mac, F_Mac, 2, rfl, by decide, rfl, l_Mac, Or.inr ⟨"ParagraphSetter", gNW_in (gIn1 (List.mem_of_getElem? (i := 63) (by decide +kernel))) rfl⟩⟩
theorem f_Exp_11 : gF R_Exp 11 2 0 := ⟨R_Exp, F_Exp, 8, rfl, by decide, rfl, l_Exp, Or.inl (gTB_t (gIn1 (List.mem_of_getElem? (i := 69) (by decide +kernel))) (by decide +kernel))⟩
theorem ff_Exp_11 : ∀ C T N, classes[2]? = some (C, T, N) → C = R_Exp ∧ Cond.fieldLink R_Exp 11 C (T 0).2.1 (T 0).2.2.1 ∈ gTB := fun C T N h => by cases h; exact ⟨rfl, gTB_t (gIn1 (List.mem_of_getElem? (i := 69) (by decide +kernel))) (by decide +kernel)⟩
theorem f_PS_90 : gF R_PS 90 2 0 := ⟨R_Exp, F_Exp, 8, rfl, by decide, rfl, l_Exp, Or.inr ⟨"ParagraphSetter", gNW_in (gIn1 (List.mem_of_getElem? (i := 70) (by decide +kernel))) rfl⟩⟩
theorem f_Exp_17 : gF R_Exp 17 2 1 := ⟨R_Exp, F_Exp, 8, rfl, by decide, rfl, l_Exp, Or.inl (gTB_t (gIn1 (List.mem_of_getElem? (i := 71) (by decide +kernel))) (by decide +kernel))⟩
theorem ff_Exp_17 : ∀ C T N, classes[2]? = some (C, T, N) → C = R_Exp ∧ Cond.fieldLink R_Exp 17 C (T 1).2.1 (T 1).2.2.1 ∈ gTB := fun C T N h => by cases h; exact ⟨rfl, gTB_t (gIn1 (List.mem_of_getElem? (i := 71) (by decide +kernel))) (by decide +kernel)⟩
theorem f_Exp_60 : gF R_Exp 60 2 2 := ⟨R_Exp, F_Exp, 8, rfl, by decide, rfl, l_Exp, Or.inl (gTB_t (gIn1 (List.mem_of_getElem? (i := 72) (by decide +kernel))) (by decide +kernel))⟩
theorem f_Exp_26 : gF R_Exp 26 2 3 := ⟨R_Exp, F_Exp, 8, rfl, by decide, rfl, l_Exp, Or.inl (gTB_t (gIn1 (List.mem_of_getElem? (i := 73) (by decide +kernel))) (by decide +kernel))⟩
theorem ff_Exp_26 : ∀ C T N, classes[2]? = some (C, T, N) → C = R_Exp ∧ Cond.fieldLink R_Exp 26 C (T 3).2.1 (T 3).2.2.1 ∈ gTB := fun C T N h => by cases h; exact ⟨rfl, gTB_t (gIn1 (List.mem_of_getElem? (i := 73) (by decide +kernel))) (by decide +kernel)⟩
theorem f_Exp_30 : gF R_Exp 30 2 4 := ⟨R_Exp, F_Exp, 8, rfl, by decide, rfl, l_Exp, Or.inl (gTB_t (gIn1 (List.mem_of_getElem? (i := 74) (by decide +kernel))) (by decide +kernel))⟩
theorem ff_Exp_30 : ∀ C T N, classes[2]? = some (C, T, N) → C = R_Exp ∧ Cond.fieldLink R_Exp 30 C (T 4).2.1 (T 4).2.2.1 ∈ gTB := fun C T N h => by cases h; exact ⟨rfl, gTB_t (gIn1 (List.mem_of_getElem? (i := 74) (by decide +kernel))) (by decide +kernel)⟩
theorem f_Exp_56 : gF R_Exp 56 2 5 := ⟨R_Exp, F_Exp, 8, rfl, by decide, rfl, l_Exp, Or.inl (gTB_t (gIn1 (List.mem_of_getElem? (i := 75) (by decide +kernel))) (by decide +kernel))⟩
theorem f_Exp_66 : gF R_Exp 66 2 6 := ⟨R_Exp, F_Exp, 8, rfl, by decide, rfl, l_Exp, Or.inl (gTB_t (gIn1 (List.mem_of_getElem? (i := 76) (by decide +kernel))) (by decide +kernel))⟩
theorem f_Exp_69 : gF R_Exp 69 2 7 := ⟨R_Exp, F_Exp, 8, rfl, by decide, rfl, l_Exp, Or.inl (gTB_t (gIn1 (List.mem_of_getElem? (i := 77) (by decide +kernel))) (by decide +kernel))⟩
theorem f_PS_114 : gF R_PS 114 2 7 := ⟨R_Exp, F_Exp, 8, rfl, by decide, rfl, l_Exp, Or.inr ⟨"ParagraphSetter", gNW_in (gIn1 (List.mem_of_getElem? (i := 78) (by decide +kernel))) rfl⟩⟩
theorem cl_PS_35 : Cond.classLink R_PS 35 "ParagraphSetter$Hyphenator" ∈ gTB := gTB_t (gIn1 (List.mem_of_getElem? (i := 96) (by decide +kernel))) (by decide +kernel)
theorem lk_PS_37 : gLk R_PS 37 m_Hyp_init := Or.inl (gTB_t (gIn1 (List.mem_of_getElem? (i := 98) (by decide +kernel))) (by decide +kernel))
theorem ob_Hyp_3 : Cond.methodLink R_Hyp 3 Lib.objectInit ∈ gTB := gTB_t (gIn1 (List.mem_of_getElem? (i := 101) (by decide +kernel))) (by decide +kernel)
theorem cl_Hyp_9 : Cond.classLink R_Hyp 9 "ParagraphSetter$Pattern" ∈ gTB := gTB_t (gIn1 (List.mem_of_getElem? (i := 102) (by decide +kernel))) (by decide +kernel)
theorem lk_Hyp_25 : gLk R_Hyp 25 m_Pat_init := Or.inr ⟨"ParagraphSetter", gNW_in (gIn1 (List.mem_of_getElem? (i := 105) (by decide +kernel))) rfl⟩
theorem ob_Pat_3 : Cond.methodLink R_Pat 3 Lib.objectInit ∈ gTB := gTB_t (gIn1 (List.mem_of_getElem? (i := 108) (by decide +kernel))) (by decide +kernel)
theorem f_Pat_9 : gF R_Pat 9 4 0 := ⟨R_Pat, F_Pat, 3, rfl, by decide, rfl, l_Pat, Or.inl (gTB_t (gIn1 (List.mem_of_getElem? (i := 109) (by decide +kernel))) (by decide +kernel))⟩
theorem ff_Pat_9 : ∀ C T N, classes[4]? = some (C, T, N) → C = R_Pat ∧ Cond.fieldLink R_Pat 9 C (T 0).2.1 (T 0).2.2.1 ∈ gTB := fun C T N h => by cases h; exact ⟨rfl, gTB_t (gIn1 (List.mem_of_getElem? (i := 109) (by decide +kernel))) (by decide +kernel)⟩
theorem f_Hyp_57 : gF R_Hyp 57 4 0 := ⟨R_Pat, F_Pat, 3, rfl, by decide, rfl, l_Pat, Or.inr ⟨"ParagraphSetter", gNW_in (gIn1 (List.mem_of_getElem? (i := 110) (by decide +kernel))) rfl⟩⟩
theorem f_Pat_15 : gF R_Pat 15 4 1 := ⟨R_Pat, F_Pat, 3, rfl, by decide, rfl, l_Pat, Or.inl (gTB_t (gIn1 (List.mem_of_getElem? (i := 111) (by decide +kernel))) (by decide +kernel))⟩
theorem ff_Pat_15 : ∀ C T N, classes[4]? = some (C, T, N) → C = R_Pat ∧ Cond.fieldLink R_Pat 15 C (T 1).2.1 (T 1).2.2.1 ∈ gTB := fun C T N h => by cases h; exact ⟨rfl, gTB_t (gIn1 (List.mem_of_getElem? (i := 111) (by decide +kernel))) (by decide +kernel)⟩
theorem f_Hyp_60 : gF R_Hyp 60 4 1 := ⟨R_Pat, F_Pat, 3, rfl, by decide, rfl, l_Pat, Or.inr ⟨"ParagraphSetter", gNW_in (gIn1 (List.mem_of_getElem? (i := 112) (by decide +kernel))) rfl⟩⟩
theorem f_Pat_18 : gF R_Pat 18 4 2 := ⟨R_Pat, F_Pat, 3, rfl, by decide, rfl, l_Pat, Or.inl (gTB_t (gIn1 (List.mem_of_getElem? (i := 113) (by decide +kernel))) (by decide +kernel))⟩
theorem f_Hyp_45 : gF R_Hyp 45 4 2 := ⟨R_Pat, F_Pat, 3, rfl, by decide, rfl, l_Pat, Or.inr ⟨"ParagraphSetter", gNW_in (gIn1 (List.mem_of_getElem? (i := 114) (by decide +kernel))) rfl⟩⟩
theorem f_Hyp_11 : gF R_Hyp 11 5 0 := ⟨R_Hyp, F_Hyp, 3, rfl, by decide, rfl, l_Hyp, Or.inl (gTB_t (gIn1 (List.mem_of_getElem? (i := 122) (by decide +kernel))) (by decide +kernel))⟩
theorem ff_Hyp_11 : ∀ C T N, classes[5]? = some (C, T, N) → C = R_Hyp ∧ Cond.fieldLink R_Hyp 11 C (T 0).2.1 (T 0).2.2.1 ∈ gTB := fun C T N h => by cases h; exact ⟨rfl, gTB_t (gIn1 (List.mem_of_getElem? (i := 122) (by decide +kernel))) (by decide +kernel)⟩
theorem f_Hyp_17 : gF R_Hyp 17 5 1 := ⟨R_Hyp, F_Hyp, 3, rfl, by decide, rfl, l_Hyp, Or.inl (gTB_t (gIn1 (List.mem_of_getElem? (i := 123) (by decide +kernel))) (by decide +kernel))⟩
theorem f_PS_105 : gF R_PS 105 5 1 := ⟨R_Hyp, F_Hyp, 3, rfl, by decide, rfl, l_Hyp, Or.inr ⟨"ParagraphSetter", gNW_in (gIn1 (List.mem_of_getElem? (i := 124) (by decide +kernel))) rfl⟩⟩
theorem f_Hyp_21 : gF R_Hyp 21 5 2 := ⟨R_Hyp, F_Hyp, 3, rfl, by decide, rfl, l_Hyp, Or.inl (gTB_t (gIn1 (List.mem_of_getElem? (i := 125) (by decide +kernel))) (by decide +kernel))⟩
theorem ff_Hyp_21 : ∀ C T N, classes[5]? = some (C, T, N) → C = R_Hyp ∧ Cond.fieldLink R_Hyp 21 C (T 2).2.1 (T 2).2.2.1 ∈ gTB := fun C T N h => by cases h; exact ⟨rfl, gTB_t (gIn1 (List.mem_of_getElem? (i := 125) (by decide +kernel))) (by decide +kernel)⟩
theorem cl_PS_42 : Cond.classLink R_PS 42 "ParagraphSetter$Chooser" ∈ gTB := gTB_t (gIn1 (List.mem_of_getElem? (i := 133) (by decide +kernel))) (by decide +kernel)
theorem lk_PS_44 : gLk R_PS 44 m_Cho_init := Or.inr ⟨"ParagraphSetter", gNW_in (gIn1 (List.mem_of_getElem? (i := 135) (by decide +kernel))) rfl⟩
theorem ob_Cho_3 : Cond.methodLink R_Cho 3 Lib.objectInit ∈ gTB := gTB_t (gIn1 (List.mem_of_getElem? (i := 138) (by decide +kernel))) (by decide +kernel)
theorem f_Cho_9 : gF R_Cho 9 9 0 := ⟨R_Cho, F_Cho, 3, rfl, by decide, rfl, l_Cho, Or.inl (gTB_t (gIn1 (List.mem_of_getElem? (i := 139) (by decide +kernel))) (by decide +kernel))⟩
theorem ff_Cho_9 : ∀ C T N, classes[9]? = some (C, T, N) → C = R_Cho ∧ Cond.fieldLink R_Cho 9 C (T 0).2.1 (T 0).2.2.1 ∈ gTB := fun C T N h => by cases h; exact ⟨rfl, gTB_t (gIn1 (List.mem_of_getElem? (i := 139) (by decide +kernel))) (by decide +kernel)⟩
theorem f_Cho_15 : gF R_Cho 15 9 1 := ⟨R_Cho, F_Cho, 3, rfl, by decide, rfl, l_Cho, Or.inl (gTB_t (gIn1 (List.mem_of_getElem? (i := 140) (by decide +kernel))) (by decide +kernel))⟩
theorem ff_Cho_15 : ∀ C T N, classes[9]? = some (C, T, N) → C = R_Cho ∧ Cond.fieldLink R_Cho 15 C (T 1).2.1 (T 1).2.2.1 ∈ gTB := fun C T N h => by cases h; exact ⟨rfl, gTB_t (gIn1 (List.mem_of_getElem? (i := 140) (by decide +kernel))) (by decide +kernel)⟩
theorem f_Cho_19 : gF R_Cho 19 9 2 := ⟨R_Cho, F_Cho, 3, rfl, by decide, rfl, l_Cho, Or.inl (gTB_t (gIn1 (List.mem_of_getElem? (i := 141) (by decide +kernel))) (by decide +kernel))⟩
theorem ff_Cho_19 : ∀ C T N, classes[9]? = some (C, T, N) → C = R_Cho ∧ Cond.fieldLink R_Cho 19 C (T 2).2.1 (T 2).2.2.1 ∈ gTB := fun C T N h => by cases h; exact ⟨rfl, gTB_t (gIn1 (List.mem_of_getElem? (i := 141) (by decide +kernel))) (by decide +kernel)⟩
theorem cl_PS_49 : Cond.classLink R_PS 49 "ParagraphSetter$Setting" ∈ gTB := gTB_t (gIn1 (List.mem_of_getElem? (i := 150) (by decide +kernel))) (by decide +kernel)
theorem lk_PS_51 : gLk R_PS 51 m_Stg_init := Or.inr ⟨"ParagraphSetter", gNW_in (gIn1 (List.mem_of_getElem? (i := 152) (by decide +kernel))) rfl⟩
theorem ob_Stg_3 : Cond.methodLink R_Stg 3 Lib.objectInit ∈ gTB := gTB_t (gIn1 (List.mem_of_getElem? (i := 155) (by decide +kernel))) (by decide +kernel)
theorem cl_Stg_9 : Cond.classLink R_Stg 9 "ParagraphSetter$Text" ∈ gTB := gTB_t (gIn1 (List.mem_of_getElem? (i := 156) (by decide +kernel))) (by decide +kernel)
theorem lk_Stg_11 : gLk R_Stg 11 m_Txt_init := Or.inr ⟨"ParagraphSetter", gNW_in (gIn1 (List.mem_of_getElem? (i := 158) (by decide +kernel))) rfl⟩
theorem ob_Txt_3 : Cond.methodLink R_Txt 3 Lib.objectInit ∈ gTB := gTB_t (gIn1 (List.mem_of_getElem? (i := 161) (by decide +kernel))) (by decide +kernel)
theorem f_Txt_9 : gF R_Txt 9 3 0 := ⟨R_Txt, F_Txt, 3, rfl, by decide, rfl, l_Txt, Or.inl (gTB_t (gIn1 (List.mem_of_getElem? (i := 162) (by decide +kernel))) (by decide +kernel))⟩
theorem ff_Txt_9 : ∀ C T N, classes[3]? = some (C, T, N) → C = R_Txt ∧ Cond.fieldLink R_Txt 9 C (T 0).2.1 (T 0).2.2.1 ∈ gTB := fun C T N h => by cases h; exact ⟨rfl, gTB_t (gIn1 (List.mem_of_getElem? (i := 162) (by decide +kernel))) (by decide +kernel)⟩
theorem f_Sum_33 : gF R_Sum 33 3 0 := ⟨R_Txt, F_Txt, 3, rfl, by decide, rfl, l_Txt, Or.inr ⟨"ParagraphSetter", gNW_in (gIn1 (List.mem_of_getElem? (i := 163) (by decide +kernel))) rfl⟩⟩
theorem f_Brk_42 : gF R_Brk 42 3 0 := ⟨R_Txt, F_Txt, 3, rfl, by decide, rfl, l_Txt, Or.inr ⟨"ParagraphSetter", gNW_in (gIn1 (List.mem_of_getElem? (i := 164) (by decide +kernel))) rfl⟩⟩
theorem f_Hyp_54 : gF R_Hyp 54 3 0 := ⟨R_Txt, F_Txt, 3, rfl, by decide, rfl, l_Txt, Or.inr ⟨"ParagraphSetter", gNW_in (gIn1 (List.mem_of_getElem? (i := 165) (by decide +kernel))) rfl⟩⟩
theorem f_Stg_121 : gF R_Stg 121 3 0 := ⟨R_Txt, F_Txt, 3, rfl, by decide, rfl, l_Txt, Or.inr ⟨"ParagraphSetter", gNW_in (gIn1 (List.mem_of_getElem? (i := 166) (by decide +kernel))) rfl⟩⟩
theorem f_Txt_15 : gF R_Txt 15 3 1 := ⟨R_Txt, F_Txt, 3, rfl, by decide, rfl, l_Txt, Or.inl (gTB_t (gIn1 (List.mem_of_getElem? (i := 167) (by decide +kernel))) (by decide +kernel))⟩
theorem ff_Txt_15 : ∀ C T N, classes[3]? = some (C, T, N) → C = R_Txt ∧ Cond.fieldLink R_Txt 15 C (T 1).2.1 (T 1).2.2.1 ∈ gTB := fun C T N h => by cases h; exact ⟨rfl, gTB_t (gIn1 (List.mem_of_getElem? (i := 167) (by decide +kernel))) (by decide +kernel)⟩
theorem f_Sum_36 : gF R_Sum 36 3 1 := ⟨R_Txt, F_Txt, 3, rfl, by decide, rfl, l_Txt, Or.inr ⟨"ParagraphSetter", gNW_in (gIn1 (List.mem_of_getElem? (i := 168) (by decide +kernel))) rfl⟩⟩
theorem f_Txt_18 : gF R_Txt 18 3 2 := ⟨R_Txt, F_Txt, 3, rfl, by decide, rfl, l_Txt, Or.inl (gTB_t (gIn1 (List.mem_of_getElem? (i := 169) (by decide +kernel))) (by decide +kernel))⟩
theorem f_Sum_27 : gF R_Sum 27 3 2 := ⟨R_Txt, F_Txt, 3, rfl, by decide, rfl, l_Txt, Or.inr ⟨"ParagraphSetter", gNW_in (gIn1 (List.mem_of_getElem? (i := 170) (by decide +kernel))) rfl⟩⟩
theorem f_Exp_38 : gF R_Exp 38 3 2 := ⟨R_Txt, F_Txt, 3, rfl, by decide, rfl, l_Txt, Or.inr ⟨"ParagraphSetter", gNW_in (gIn1 (List.mem_of_getElem? (i := 171) (by decide +kernel))) rfl⟩⟩
theorem f_Brk_25 : gF R_Brk 25 3 2 := ⟨R_Txt, F_Txt, 3, rfl, by decide, rfl, l_Txt, Or.inr ⟨"ParagraphSetter", gNW_in (gIn1 (List.mem_of_getElem? (i := 172) (by decide +kernel))) rfl⟩⟩
theorem f_Hyp_34 : gF R_Hyp 34 3 2 := ⟨R_Txt, F_Txt, 3, rfl, by decide, rfl, l_Txt, Or.inr ⟨"ParagraphSetter", gNW_in (gIn1 (List.mem_of_getElem? (i := 173) (by decide +kernel))) rfl⟩⟩
theorem f_PS_187 : gF R_PS 187 3 2 := ⟨R_Txt, F_Txt, 3, rfl, by decide, rfl, l_Txt, Or.inr ⟨"ParagraphSetter", gNW_in (gIn1 (List.mem_of_getElem? (i := 174) (by decide +kernel))) rfl⟩⟩
theorem cl_Stg_18 : Cond.classLink R_Stg 18 "ParagraphSetter$Breaks" ∈ gTB := gTB_t (gIn1 (List.mem_of_getElem? (i := 182) (by decide +kernel))) (by decide +kernel)
theorem lk_Stg_20 : gLk R_Stg 20 m_Brk_init := Or.inr ⟨"ParagraphSetter", gNW_in (gIn1 (List.mem_of_getElem? (i := 184) (by decide +kernel))) rfl⟩
theorem ob_Brk_3 : Cond.methodLink R_Brk 3 Lib.objectInit ∈ gTB := gTB_t (gIn1 (List.mem_of_getElem? (i := 187) (by decide +kernel))) (by decide +kernel)
theorem f_Brk_9 : gF R_Brk 9 6 0 := ⟨R_Brk, F_Brk, 4, rfl, by decide, rfl, l_Brk, Or.inl (gTB_t (gIn1 (List.mem_of_getElem? (i := 188) (by decide +kernel))) (by decide +kernel))⟩
theorem ff_Brk_9 : ∀ C T N, classes[6]? = some (C, T, N) → C = R_Brk ∧ Cond.fieldLink R_Brk 9 C (T 0).2.1 (T 0).2.2.1 ∈ gTB := fun C T N h => by cases h; exact ⟨rfl, gTB_t (gIn1 (List.mem_of_getElem? (i := 188) (by decide +kernel))) (by decide +kernel)⟩
theorem f_Cho_56 : gF R_Cho 56 6 0 := ⟨R_Brk, F_Brk, 4, rfl, by decide, rfl, l_Brk, Or.inr ⟨"ParagraphSetter", gNW_in (gIn1 (List.mem_of_getElem? (i := 189) (by decide +kernel))) rfl⟩⟩
theorem f_Stg_74 : gF R_Stg 74 6 0 := ⟨R_Brk, F_Brk, 4, rfl, by decide, rfl, l_Brk, Or.inr ⟨"ParagraphSetter", gNW_in (gIn1 (List.mem_of_getElem? (i := 190) (by decide +kernel))) rfl⟩⟩
theorem f_PS_161 : gF R_PS 161 6 0 := ⟨R_Brk, F_Brk, 4, rfl, by decide, rfl, l_Brk, Or.inr ⟨"ParagraphSetter", gNW_in (gIn1 (List.mem_of_getElem? (i := 191) (by decide +kernel))) rfl⟩⟩
theorem f_Brk_15 : gF R_Brk 15 6 1 := ⟨R_Brk, F_Brk, 4, rfl, by decide, rfl, l_Brk, Or.inl (gTB_t (gIn1 (List.mem_of_getElem? (i := 192) (by decide +kernel))) (by decide +kernel))⟩
theorem ff_Brk_15 : ∀ C T N, classes[6]? = some (C, T, N) → C = R_Brk ∧ Cond.fieldLink R_Brk 15 C (T 1).2.1 (T 1).2.2.1 ∈ gTB := fun C T N h => by cases h; exact ⟨rfl, gTB_t (gIn1 (List.mem_of_getElem? (i := 192) (by decide +kernel))) (by decide +kernel)⟩
theorem f_Stg_130 : gF R_Stg 130 6 1 := ⟨R_Brk, F_Brk, 4, rfl, by decide, rfl, l_Brk, Or.inr ⟨"ParagraphSetter", gNW_in (gIn1 (List.mem_of_getElem? (i := 193) (by decide +kernel))) rfl⟩⟩
theorem f_Brk_18 : gF R_Brk 18 6 2 := ⟨R_Brk, F_Brk, 4, rfl, by decide, rfl, l_Brk, Or.inl (gTB_t (gIn1 (List.mem_of_getElem? (i := 194) (by decide +kernel))) (by decide +kernel))⟩
theorem ff_Brk_18 : ∀ C T N, classes[6]? = some (C, T, N) → C = R_Brk ∧ Cond.fieldLink R_Brk 18 C (T 2).2.1 (T 2).2.2.1 ∈ gTB := fun C T N h => by cases h; exact ⟨rfl, gTB_t (gIn1 (List.mem_of_getElem? (i := 194) (by decide +kernel))) (by decide +kernel)⟩
theorem f_Stg_124 : gF R_Stg 124 6 2 := ⟨R_Brk, F_Brk, 4, rfl, by decide, rfl, l_Brk, Or.inr ⟨"ParagraphSetter", gNW_in (gIn1 (List.mem_of_getElem? (i := 195) (by decide +kernel))) rfl⟩⟩
theorem f_Brk_21 : gF R_Brk 21 6 3 := ⟨R_Brk, F_Brk, 4, rfl, by decide, rfl, l_Brk, Or.inl (gTB_t (gIn1 (List.mem_of_getElem? (i := 196) (by decide +kernel))) (by decide +kernel))⟩
theorem f_Cho_28 : gF R_Cho 28 6 3 := ⟨R_Brk, F_Brk, 4, rfl, by decide, rfl, l_Brk, Or.inr ⟨"ParagraphSetter", gNW_in (gIn1 (List.mem_of_getElem? (i := 197) (by decide +kernel))) rfl⟩⟩
theorem f_PS_188 : gF R_PS 188 6 3 := ⟨R_Brk, F_Brk, 4, rfl, by decide, rfl, l_Brk, Or.inr ⟨"ParagraphSetter", gNW_in (gIn1 (List.mem_of_getElem? (i := 198) (by decide +kernel))) rfl⟩⟩
theorem cl_Stg_25 : Cond.classLink R_Stg 25 "ParagraphSetter$Sums" ∈ gTB := gTB_t (gIn1 (List.mem_of_getElem? (i := 208) (by decide +kernel))) (by decide +kernel)
theorem lk_Stg_27 : gLk R_Stg 27 m_Sum_init := Or.inr ⟨"ParagraphSetter", gNW_in (gIn1 (List.mem_of_getElem? (i := 210) (by decide +kernel))) rfl⟩
theorem ob_Sum_3 : Cond.methodLink R_Sum 3 Lib.objectInit ∈ gTB := gTB_t (gIn1 (List.mem_of_getElem? (i := 213) (by decide +kernel))) (by decide +kernel)
theorem f_Sum_9 : gF R_Sum 9 7 0 := ⟨R_Sum, F_Sum, 5, rfl, by decide, rfl, l_Sum, Or.inl (gTB_t (gIn1 (List.mem_of_getElem? (i := 214) (by decide +kernel))) (by decide +kernel))⟩
theorem ff_Sum_9 : ∀ C T N, classes[7]? = some (C, T, N) → C = R_Sum ∧ Cond.fieldLink R_Sum 9 C (T 0).2.1 (T 0).2.2.1 ∈ gTB := fun C T N h => by cases h; exact ⟨rfl, gTB_t (gIn1 (List.mem_of_getElem? (i := 214) (by decide +kernel))) (by decide +kernel)⟩
theorem f_Stg_71 : gF R_Stg 71 7 0 := ⟨R_Sum, F_Sum, 5, rfl, by decide, rfl, l_Sum, Or.inr ⟨"ParagraphSetter", gNW_in (gIn1 (List.mem_of_getElem? (i := 215) (by decide +kernel))) rfl⟩⟩
theorem f_Sum_15 : gF R_Sum 15 7 1 := ⟨R_Sum, F_Sum, 5, rfl, by decide, rfl, l_Sum, Or.inl (gTB_t (gIn1 (List.mem_of_getElem? (i := 216) (by decide +kernel))) (by decide +kernel))⟩
theorem ff_Sum_15 : ∀ C T N, classes[7]? = some (C, T, N) → C = R_Sum ∧ Cond.fieldLink R_Sum 15 C (T 1).2.1 (T 1).2.2.1 ∈ gTB := fun C T N h => by cases h; exact ⟨rfl, gTB_t (gIn1 (List.mem_of_getElem? (i := 216) (by decide +kernel))) (by decide +kernel)⟩
theorem f_Stg_95 : gF R_Stg 95 7 1 := ⟨R_Sum, F_Sum, 5, rfl, by decide, rfl, l_Sum, Or.inr ⟨"ParagraphSetter", gNW_in (gIn1 (List.mem_of_getElem? (i := 217) (by decide +kernel))) rfl⟩⟩
theorem f_Sum_18 : gF R_Sum 18 7 2 := ⟨R_Sum, F_Sum, 5, rfl, by decide, rfl, l_Sum, Or.inl (gTB_t (gIn1 (List.mem_of_getElem? (i := 218) (by decide +kernel))) (by decide +kernel))⟩
theorem ff_Sum_18 : ∀ C T N, classes[7]? = some (C, T, N) → C = R_Sum ∧ Cond.fieldLink R_Sum 18 C (T 2).2.1 (T 2).2.2.1 ∈ gTB := fun C T N h => by cases h; exact ⟨rfl, gTB_t (gIn1 (List.mem_of_getElem? (i := 218) (by decide +kernel))) (by decide +kernel)⟩
theorem f_Stg_98 : gF R_Stg 98 7 2 := ⟨R_Sum, F_Sum, 5, rfl, by decide, rfl, l_Sum, Or.inr ⟨"ParagraphSetter", gNW_in (gIn1 (List.mem_of_getElem? (i := 219) (by decide +kernel))) rfl⟩⟩
theorem f_Sum_21 : gF R_Sum 21 7 3 := ⟨R_Sum, F_Sum, 5, rfl, by decide, rfl, l_Sum, Or.inl (gTB_t (gIn1 (List.mem_of_getElem? (i := 220) (by decide +kernel))) (by decide +kernel))⟩
theorem ff_Sum_21 : ∀ C T N, classes[7]? = some (C, T, N) → C = R_Sum ∧ Cond.fieldLink R_Sum 21 C (T 3).2.1 (T 3).2.2.1 ∈ gTB := fun C T N h => by cases h; exact ⟨rfl, gTB_t (gIn1 (List.mem_of_getElem? (i := 220) (by decide +kernel))) (by decide +kernel)⟩
theorem f_Stg_64 : gF R_Stg 64 7 3 := ⟨R_Sum, F_Sum, 5, rfl, by decide, rfl, l_Sum, Or.inr ⟨"ParagraphSetter", gNW_in (gIn1 (List.mem_of_getElem? (i := 221) (by decide +kernel))) rfl⟩⟩
theorem f_Sum_24 : gF R_Sum 24 7 4 := ⟨R_Sum, F_Sum, 5, rfl, by decide, rfl, l_Sum, Or.inl (gTB_t (gIn1 (List.mem_of_getElem? (i := 222) (by decide +kernel))) (by decide +kernel))⟩
theorem ff_Sum_24 : ∀ C T N, classes[7]? = some (C, T, N) → C = R_Sum ∧ Cond.fieldLink R_Sum 24 C (T 4).2.1 (T 4).2.2.1 ∈ gTB := fun C T N h => by cases h; exact ⟨rfl, gTB_t (gIn1 (List.mem_of_getElem? (i := 222) (by decide +kernel))) (by decide +kernel)⟩
theorem f_Stg_83 : gF R_Stg 83 7 4 := ⟨R_Sum, F_Sum, 5, rfl, by decide, rfl, l_Sum, Or.inr ⟨"ParagraphSetter", gNW_in (gIn1 (List.mem_of_getElem? (i := 223) (by decide +kernel))) rfl⟩⟩
-- nest static ParagraphSetter$Setting 32 FIRST_VALUES
theorem f_Stg_12 : gF R_Stg 12 8 0 := ⟨R_Stg, F_Stg, 9, rfl, by decide, rfl, l_Stg, Or.inl (gTB_t (gIn1 (List.mem_of_getElem? (i := 236) (by decide +kernel))) (by decide +kernel))⟩
theorem ff_Stg_12 : ∀ C T N, classes[8]? = some (C, T, N) → C = R_Stg ∧ Cond.fieldLink R_Stg 12 C (T 0).2.1 (T 0).2.2.1 ∈ gTB := fun C T N h => by cases h; exact ⟨rfl, gTB_t (gIn1 (List.mem_of_getElem? (i := 236) (by decide +kernel))) (by decide +kernel)⟩
theorem f_PS_106 : gF R_PS 106 8 0 := ⟨R_Stg, F_Stg, 9, rfl, by decide, rfl, l_Stg, Or.inr ⟨"ParagraphSetter", gNW_in (gIn1 (List.mem_of_getElem? (i := 237) (by decide +kernel))) rfl⟩⟩
theorem f_Stg_21 : gF R_Stg 21 8 1 := ⟨R_Stg, F_Stg, 9, rfl, by decide, rfl, l_Stg, Or.inl (gTB_t (gIn1 (List.mem_of_getElem? (i := 238) (by decide +kernel))) (by decide +kernel))⟩
theorem ff_Stg_21 : ∀ C T N, classes[8]? = some (C, T, N) → C = R_Stg ∧ Cond.fieldLink R_Stg 21 C (T 1).2.1 (T 1).2.2.1 ∈ gTB := fun C T N h => by cases h; exact ⟨rfl, gTB_t (gIn1 (List.mem_of_getElem? (i := 238) (by decide +kernel))) (by decide +kernel)⟩
theorem f_Cho_22 : gF R_Cho 22 8 1 := ⟨R_Stg, F_Stg, 9, rfl, by decide, rfl, l_Stg, Or.inr ⟨"ParagraphSetter", gNW_in (gIn1 (List.mem_of_getElem? (i := 239) (by decide +kernel))) rfl⟩⟩
theorem f_PS_127 : gF R_PS 127 8 1 := ⟨R_Stg, F_Stg, 9, rfl, by decide, rfl, l_Stg, Or.inr ⟨"ParagraphSetter", gNW_in (gIn2 (List.mem_of_getElem? (i := 0) (by decide +kernel))) rfl⟩⟩
theorem f_Stg_28 : gF R_Stg 28 8 2 := ⟨R_Stg, F_Stg, 9, rfl, by decide, rfl, l_Stg, Or.inl (gTB_t (gIn2 (List.mem_of_getElem? (i := 1) (by decide +kernel))) (by decide +kernel))⟩
theorem ff_Stg_28 : ∀ C T N, classes[8]? = some (C, T, N) → C = R_Stg ∧ Cond.fieldLink R_Stg 28 C (T 2).2.1 (T 2).2.2.1 ∈ gTB := fun C T N h => by cases h; exact ⟨rfl, gTB_t (gIn2 (List.mem_of_getElem? (i := 1) (by decide +kernel))) (by decide +kernel)⟩
theorem f_Stg_36 : gF R_Stg 36 8 3 := ⟨R_Stg, F_Stg, 9, rfl, by decide, rfl, l_Stg, Or.inl (gTB_t (gIn2 (List.mem_of_getElem? (i := 2) (by decide +kernel))) (by decide +kernel))⟩
theorem ff_Stg_36 : ∀ C T N, classes[8]? = some (C, T, N) → C = R_Stg ∧ Cond.fieldLink R_Stg 36 C (T 3).2.1 (T 3).2.2.1 ∈ gTB := fun C T N h => by cases h; exact ⟨rfl, gTB_t (gIn2 (List.mem_of_getElem? (i := 2) (by decide +kernel))) (by decide +kernel)⟩
theorem f_Stg_39 : gF R_Stg 39 8 4 := ⟨R_Stg, F_Stg, 9, rfl, by decide, rfl, l_Stg, Or.inl (gTB_t (gIn2 (List.mem_of_getElem? (i := 3) (by decide +kernel))) (by decide +kernel))⟩
theorem f_Stg_43 : gF R_Stg 43 8 5 := ⟨R_Stg, F_Stg, 9, rfl, by decide, rfl, l_Stg, Or.inl (gTB_t (gIn2 (List.mem_of_getElem? (i := 4) (by decide +kernel))) (by decide +kernel))⟩
theorem f_PS_117 : gF R_PS 117 8 5 := ⟨R_Stg, F_Stg, 9, rfl, by decide, rfl, l_Stg, Or.inr ⟨"ParagraphSetter", gNW_in (gIn2 (List.mem_of_getElem? (i := 5) (by decide +kernel))) rfl⟩⟩
theorem f_Stg_46 : gF R_Stg 46 8 6 := ⟨R_Stg, F_Stg, 9, rfl, by decide, rfl, l_Stg, Or.inl (gTB_t (gIn2 (List.mem_of_getElem? (i := 6) (by decide +kernel))) (by decide +kernel))⟩
theorem ff_Stg_46 : ∀ C T N, classes[8]? = some (C, T, N) → C = R_Stg ∧ Cond.fieldLink R_Stg 46 C (T 6).2.1 (T 6).2.2.1 ∈ gTB := fun C T N h => by cases h; exact ⟨rfl, gTB_t (gIn2 (List.mem_of_getElem? (i := 6) (by decide +kernel))) (by decide +kernel)⟩
theorem f_Cho_65 : gF R_Cho 65 8 6 := ⟨R_Stg, F_Stg, 9, rfl, by decide, rfl, l_Stg, Or.inr ⟨"ParagraphSetter", gNW_in (gIn2 (List.mem_of_getElem? (i := 7) (by decide +kernel))) rfl⟩⟩
theorem f_PS_158 : gF R_PS 158 8 6 := ⟨R_Stg, F_Stg, 9, rfl, by decide, rfl, l_Stg, Or.inr ⟨"ParagraphSetter", gNW_in (gIn2 (List.mem_of_getElem? (i := 8) (by decide +kernel))) rfl⟩⟩
theorem f_Stg_49 : gF R_Stg 49 8 7 := ⟨R_Stg, F_Stg, 9, rfl, by decide, rfl, l_Stg, Or.inl (gTB_t (gIn2 (List.mem_of_getElem? (i := 9) (by decide +kernel))) (by decide +kernel))⟩
theorem f_Cho_63 : gF R_Cho 63 8 7 := ⟨R_Stg, F_Stg, 9, rfl, by decide, rfl, l_Stg, Or.inr ⟨"ParagraphSetter", gNW_in (gIn2 (List.mem_of_getElem? (i := 10) (by decide +kernel))) rfl⟩⟩
theorem f_PS_148 : gF R_PS 148 8 7 := ⟨R_Stg, F_Stg, 9, rfl, by decide, rfl, l_Stg, Or.inr ⟨"ParagraphSetter", gNW_in (gIn2 (List.mem_of_getElem? (i := 11) (by decide +kernel))) rfl⟩⟩
theorem f_Stg_52 : gF R_Stg 52 8 8 := ⟨R_Stg, F_Stg, 9, rfl, by decide, rfl, l_Stg, Or.inl (gTB_t (gIn2 (List.mem_of_getElem? (i := 12) (by decide +kernel))) (by decide +kernel))⟩
theorem f_Cho_59 : gF R_Cho 59 8 8 := ⟨R_Stg, F_Stg, 9, rfl, by decide, rfl, l_Stg, Or.inr ⟨"ParagraphSetter", gNW_in (gIn2 (List.mem_of_getElem? (i := 13) (by decide +kernel))) rfl⟩⟩
theorem f_PS_151 : gF R_PS 151 8 8 := ⟨R_Stg, F_Stg, 9, rfl, by decide, rfl, l_Stg, Or.inr ⟨"ParagraphSetter", gNW_in (gIn2 (List.mem_of_getElem? (i := 14) (by decide +kernel))) rfl⟩⟩
theorem f_PS_14 : gF R_PS 14 10 0 := ⟨R_PS, F_PS, 8, rfl, by decide, rfl, l_PS, Or.inl (gTB_t (gIn2 (List.mem_of_getElem? (i := 34) (by decide +kernel))) (by decide +kernel))⟩
theorem ff_PS_14 : ∀ C T N, classes[10]? = some (C, T, N) → C = R_PS ∧ Cond.fieldLink R_PS 14 C (T 0).2.1 (T 0).2.2.1 ∈ gTB := fun C T N h => by cases h; exact ⟨rfl, gTB_t (gIn2 (List.mem_of_getElem? (i := 34) (by decide +kernel))) (by decide +kernel)⟩
theorem f_PS_18 : gF R_PS 18 10 1 := ⟨R_PS, F_PS, 8, rfl, by decide, rfl, l_PS, Or.inl (gTB_t (gIn2 (List.mem_of_getElem? (i := 35) (by decide +kernel))) (by decide +kernel))⟩
theorem ff_PS_18 : ∀ C T N, classes[10]? = some (C, T, N) → C = R_PS ∧ Cond.fieldLink R_PS 18 C (T 1).2.1 (T 1).2.2.1 ∈ gTB := fun C T N h => by cases h; exact ⟨rfl, gTB_t (gIn2 (List.mem_of_getElem? (i := 35) (by decide +kernel))) (by decide +kernel)⟩
theorem f_PS_25 : gF R_PS 25 10 2 := ⟨R_PS, F_PS, 8, rfl, by decide, rfl, l_PS, Or.inl (gTB_t (gIn2 (List.mem_of_getElem? (i := 36) (by decide +kernel))) (by decide +kernel))⟩
theorem ff_PS_25 : ∀ C T N, classes[10]? = some (C, T, N) → C = R_PS ∧ Cond.fieldLink R_PS 25 C (T 2).2.1 (T 2).2.2.1 ∈ gTB := fun C T N h => by cases h; exact ⟨rfl, gTB_t (gIn2 (List.mem_of_getElem? (i := 36) (by decide +kernel))) (by decide +kernel)⟩
theorem f_PS_31 : gF R_PS 31 10 3 := ⟨R_PS, F_PS, 8, rfl, by decide, rfl, l_PS, Or.inl (gTB_t (gIn2 (List.mem_of_getElem? (i := 37) (by decide +kernel))) (by decide +kernel))⟩
theorem ff_PS_31 : ∀ C T N, classes[10]? = some (C, T, N) → C = R_PS ∧ Cond.fieldLink R_PS 31 C (T 3).2.1 (T 3).2.2.1 ∈ gTB := fun C T N h => by cases h; exact ⟨rfl, gTB_t (gIn2 (List.mem_of_getElem? (i := 37) (by decide +kernel))) (by decide +kernel)⟩
theorem f_PS_38 : gF R_PS 38 10 4 := ⟨R_PS, F_PS, 8, rfl, by decide, rfl, l_PS, Or.inl (gTB_t (gIn2 (List.mem_of_getElem? (i := 38) (by decide +kernel))) (by decide +kernel))⟩
theorem ff_PS_38 : ∀ C T N, classes[10]? = some (C, T, N) → C = R_PS ∧ Cond.fieldLink R_PS 38 C (T 4).2.1 (T 4).2.2.1 ∈ gTB := fun C T N h => by cases h; exact ⟨rfl, gTB_t (gIn2 (List.mem_of_getElem? (i := 38) (by decide +kernel))) (by decide +kernel)⟩
theorem f_PS_45 : gF R_PS 45 10 5 := ⟨R_PS, F_PS, 8, rfl, by decide, rfl, l_PS, Or.inl (gTB_t (gIn2 (List.mem_of_getElem? (i := 39) (by decide +kernel))) (by decide +kernel))⟩
theorem ff_PS_45 : ∀ C T N, classes[10]? = some (C, T, N) → C = R_PS ∧ Cond.fieldLink R_PS 45 C (T 5).2.1 (T 5).2.2.1 ∈ gTB := fun C T N h => by cases h; exact ⟨rfl, gTB_t (gIn2 (List.mem_of_getElem? (i := 39) (by decide +kernel))) (by decide +kernel)⟩
theorem f_PS_52 : gF R_PS 52 10 6 := ⟨R_PS, F_PS, 8, rfl, by decide, rfl, l_PS, Or.inl (gTB_t (gIn2 (List.mem_of_getElem? (i := 40) (by decide +kernel))) (by decide +kernel))⟩
theorem f_PS_56 : gF R_PS 56 10 7 := ⟨R_PS, F_PS, 8, rfl, by decide, rfl, l_PS, Or.inl (gTB_t (gIn2 (List.mem_of_getElem? (i := 41) (by decide +kernel))) (by decide +kernel))⟩
theorem lk_Law_13 : gLk R_Law 13 m_PS_type := Or.inl (gTB_t (gIn2 (List.mem_of_getElem? (i := 59) (by decide +kernel))) (by decide +kernel))
theorem lk_PS_59 : gLk R_PS 59 m_PS_isOfLine := Or.inl (gTB_t (gIn2 (List.mem_of_getElem? (i := 63) (by decide +kernel))) (by decide +kernel))
theorem lk_PS_193 : gLk R_PS 193 m_PS_isItem := Or.inl (gTB_t (gIn2 (List.mem_of_getElem? (i := 66) (by decide +kernel))) (by decide +kernel))
theorem lk_PS_77 : gLk R_PS 77 m_PS_hasWidth := Or.inl (gTB_t (gIn2 (List.mem_of_getElem? (i := 69) (by decide +kernel))) (by decide +kernel))
theorem lk_PS_205 : gLk R_PS 205 m_PS_isLetter := Or.inl (gTB_t (gIn2 (List.mem_of_getElem? (i := 72) (by decide +kernel))) (by decide +kernel))
theorem lk_PS_202 : gLk R_PS 202 m_PS_isSpace := Or.inl (gTB_t (gIn2 (List.mem_of_getElem? (i := 75) (by decide +kernel))) (by decide +kernel))
theorem lk_PS_196 : gLk R_PS 196 m_PS_isMacroName := Or.inl (gTB_t (gIn2 (List.mem_of_getElem? (i := 78) (by decide +kernel))) (by decide +kernel))
theorem lk_PS_199 : gLk R_PS 199 m_PS_isDigit := Or.inl (gTB_t (gIn2 (List.mem_of_getElem? (i := 81) (by decide +kernel))) (by decide +kernel))
theorem lk_PS_63 : gLk R_PS 63 m_Row_isFull := Or.inl (gTB_t (gIn2 (List.mem_of_getElem? (i := 84) (by decide +kernel))) (by decide +kernel))
theorem lk_PS_67 : gLk R_PS 67 m_Row_add := Or.inl (gTB_t (gIn2 (List.mem_of_getElem? (i := 88) (by decide +kernel))) (by decide +kernel))
theorem lk_Law_18 : gLk R_Law 18 m_PS_wipe := Or.inl (gTB_t (gIn2 (List.mem_of_getElem? (i := 92) (by decide +kernel))) (by decide +kernel))
theorem lk_PS_74 : gLk R_PS 74 m_Row_clear := Or.inl (gTB_t (gIn2 (List.mem_of_getElem? (i := 96) (by decide +kernel))) (by decide +kernel))
theorem lk_Law_23 : gLk R_Law 23 m_PS_width := Or.inl (gTB_t (gIn2 (List.mem_of_getElem? (i := 100) (by decide +kernel))) (by decide +kernel))
theorem lk_PS_80 : gLk R_PS 80 m_PS_widthIndex := Or.inl (gTB_t (gIn2 (List.mem_of_getElem? (i := 104) (by decide +kernel))) (by decide +kernel))
theorem lk_Law_28 : gLk R_Law 28 m_PS_parameter := Or.inl (gTB_t (gIn2 (List.mem_of_getElem? (i := 107) (by decide +kernel))) (by decide +kernel))
theorem gs_PS_84 : Cond.fieldLink R_PS 84 "ParagraphSetter" "LEAST_VALUES" "[I" ∈ gTB := gTB_t (gIn2 (List.mem_of_getElem? (i := 111) (by decide +kernel))) (by decide +kernel)
theorem gs_PS_87 : Cond.fieldLink R_PS 87 "ParagraphSetter" "MOST_VALUES" "[I" ∈ gTB := gTB_t (gIn2 (List.mem_of_getElem? (i := 113) (by decide +kernel))) (by decide +kernel)
theorem lk_Law_32 : gLk R_Law 32 m_PS_define := Or.inl (gTB_t (gIn2 (List.mem_of_getElem? (i := 115) (by decide +kernel))) (by decide +kernel))
theorem lk_PS_94 : gLk R_PS 94 m_Mac_become := Or.inl (gTB_t (gIn2 (List.mem_of_getElem? (i := 119) (by decide +kernel))) (by decide +kernel))
theorem lk_Mac_24 : gLk R_Mac 24 m_Row_become := Or.inl (gTB_t (gIn2 (List.mem_of_getElem? (i := 123) (by decide +kernel))) (by decide +kernel))
theorem lk_Row_17 : gLk R_Row 17 m_Row_clear := Or.inl (gTB_t (gIn2 (List.mem_of_getElem? (i := 127) (by decide +kernel))) (by decide +kernel))
theorem lk_Row_20 : gLk R_Row 20 m_Row_add := Or.inl (gTB_t (gIn2 (List.mem_of_getElem? (i := 128) (by decide +kernel))) (by decide +kernel))
theorem lk_Law_36 : gLk R_Law 36 m_PS_pattern := Or.inl (gTB_t (gIn2 (List.mem_of_getElem? (i := 129) (by decide +kernel))) (by decide +kernel))
theorem lk_PS_100 : gLk R_PS 100 m_Hyp_isFull := Or.inl (gTB_t (gIn2 (List.mem_of_getElem? (i := 133) (by decide +kernel))) (by decide +kernel))
theorem lk_PS_101 : gLk R_PS 101 m_Hyp_learn := Or.inl (gTB_t (gIn2 (List.mem_of_getElem? (i := 137) (by decide +kernel))) (by decide +kernel))
theorem lk_Hyp_26 : gLk R_Hyp 26 m_Hyp_isFull := Or.inl (gTB_t (gIn2 (List.mem_of_getElem? (i := 141) (by decide +kernel))) (by decide +kernel))
theorem lk_Hyp_30 : gLk R_Hyp 30 m_Pat_read := Or.inl (gTB_t (gIn2 (List.mem_of_getElem? (i := 142) (by decide +kernel))) (by decide +kernel))
theorem lk_Pat_28 : gLk R_Pat 28 m_PS_isDigit := Or.inr ⟨"ParagraphSetter", gNW_in (gIn2 (List.mem_of_getElem? (i := 146) (by decide +kernel))) rfl⟩
theorem lk_Pat_32 : gLk R_Pat 32 m_Pat_addSign := Or.inl (gTB_t (gIn2 (List.mem_of_getElem? (i := 147) (by decide +kernel))) (by decide +kernel))
theorem lk_Pat_39 : gLk R_Pat 39 m_PS_isLetter := Or.inr ⟨"ParagraphSetter", gNW_in (gIn2 (List.mem_of_getElem? (i := 151) (by decide +kernel))) rfl⟩
theorem lk_Pat_35 : gLk R_Pat 35 m_Pat_hasPointsAtEdgesOnly := Or.inl (gTB_t (gIn2 (List.mem_of_getElem? (i := 152) (by decide +kernel))) (by decide +kernel))
theorem lk_Law_40 : gLk R_Law 40 m_PS_paragraph := Or.inl (gTB_t (gIn2 (List.mem_of_getElem? (i := 156) (by decide +kernel))) (by decide +kernel))
theorem lk_PS_110 : gLk R_PS 110 m_Exp_expand := Or.inl (gTB_t (gIn2 (List.mem_of_getElem? (i := 160) (by decide +kernel))) (by decide +kernel))
theorem lk_Exp_34 : gLk R_Exp 34 m_Exp_begin := Or.inl (gTB_t (gIn2 (List.mem_of_getElem? (i := 164) (by decide +kernel))) (by decide +kernel))
theorem lk_Exp_44 : gLk R_Exp 44 m_Exp_isListEmpty := Or.inl (gTB_t (gIn2 (List.mem_of_getElem? (i := 168) (by decide +kernel))) (by decide +kernel))
theorem lk_Exp_48 : gLk R_Exp 48 m_Exp_takeOff := Or.inl (gTB_t (gIn2 (List.mem_of_getElem? (i := 172) (by decide +kernel))) (by decide +kernel))
theorem lk_Exp_52 : gLk R_Exp 52 m_Exp_obey := Or.inl (gTB_t (gIn2 (List.mem_of_getElem? (i := 176) (by decide +kernel))) (by decide +kernel))
theorem lk_Exp_72 : gLk R_Exp 72 m_PS_isMacroName := Or.inr ⟨"ParagraphSetter", gNW_in (gIn2 (List.mem_of_getElem? (i := 180) (by decide +kernel))) rfl⟩
theorem lk_Exp_76 : gLk R_Exp 76 m_Exp_callMacro := Or.inl (gTB_t (gIn2 (List.mem_of_getElem? (i := 181) (by decide +kernel))) (by decide +kernel))
theorem lk_Exp_106 : gLk R_Exp 106 m_Row_howMany := Or.inl (gTB_t (gIn2 (List.mem_of_getElem? (i := 185) (by decide +kernel))) (by decide +kernel))
theorem lk_Exp_110 : gLk R_Exp 110 m_Exp_takeArgument := Or.inl (gTB_t (gIn2 (List.mem_of_getElem? (i := 189) (by decide +kernel))) (by decide +kernel))
theorem lk_Exp_116 : gLk R_Exp 116 m_Row_clear := Or.inl (gTB_t (gIn2 (List.mem_of_getElem? (i := 193) (by decide +kernel))) (by decide +kernel))
theorem lk_Exp_119 : gLk R_Exp 119 m_Exp_takeGroup := Or.inl (gTB_t (gIn2 (List.mem_of_getElem? (i := 194) (by decide +kernel))) (by decide +kernel))
theorem lk_Exp_122 : gLk R_Exp 122 m_Row_add := Or.inl (gTB_t (gIn2 (List.mem_of_getElem? (i := 198) (by decide +kernel))) (by decide +kernel))
theorem lk_Exp_113 : gLk R_Exp 113 m_Exp_putInFront := Or.inl (gTB_t (gIn2 (List.mem_of_getElem? (i := 199) (by decide +kernel))) (by decide +kernel))
theorem lk_Exp_80 : gLk R_Exp 80 m_Exp_openGroup := Or.inl (gTB_t (gIn2 (List.mem_of_getElem? (i := 203) (by decide +kernel))) (by decide +kernel))
theorem lk_Exp_83 : gLk R_Exp 83 m_Exp_closeGroup := Or.inl (gTB_t (gIn2 (List.mem_of_getElem? (i := 207) (by decide +kernel))) (by decide +kernel))
theorem lk_Exp_86 : gLk R_Exp 86 m_Exp_changeSpace := Or.inl (gTB_t (gIn2 (List.mem_of_getElem? (i := 211) (by decide +kernel))) (by decide +kernel))
theorem lk_Exp_124 : gLk R_Exp 124 m_PS_isDigit := Or.inr ⟨"ParagraphSetter", gNW_in (gIn2 (List.mem_of_getElem? (i := 215) (by decide +kernel))) rfl⟩
theorem lk_Exp_89 : gLk R_Exp 89 m_PS_isItem := Or.inr ⟨"ParagraphSetter", gNW_in (gIn2 (List.mem_of_getElem? (i := 216) (by decide +kernel))) rfl⟩
theorem lk_Exp_92 : gLk R_Exp 92 m_PS_isSpace := Or.inr ⟨"ParagraphSetter", gNW_in (gIn2 (List.mem_of_getElem? (i := 217) (by decide +kernel))) rfl⟩
theorem lk_Exp_95 : gLk R_Exp 95 m_Txt_add := Or.inl (gTB_t (gIn2 (List.mem_of_getElem? (i := 218) (by decide +kernel))) (by decide +kernel))
theorem lk_PS_118 : gLk R_PS 118 m_Txt_tidy := Or.inl (gTB_t (gIn2 (List.mem_of_getElem? (i := 222) (by decide +kernel))) (by decide +kernel))
theorem lk_Txt_26 : gLk R_Txt 26 m_Txt_dropBlanksBehind := Or.inl (gTB_t (gIn2 (List.mem_of_getElem? (i := 226) (by decide +kernel))) (by decide +kernel))
theorem lk_Txt_35 : gLk R_Txt 35 m_Txt_move := Or.inl (gTB_t (gIn2 (List.mem_of_getElem? (i := 230) (by decide +kernel))) (by decide +kernel))
theorem lk_Txt_29 : gLk R_Txt 29 m_Txt_dropBlanksBefore := Or.inl (gTB_t (gIn2 (List.mem_of_getElem? (i := 234) (by decide +kernel))) (by decide +kernel))
theorem lk_Txt_32 : gLk R_Txt 32 m_Txt_dropBarsBehind := Or.inl (gTB_t (gIn2 (List.mem_of_getElem? (i := 238) (by decide +kernel))) (by decide +kernel))
theorem lk_PS_123 : gLk R_PS 123 m_Hyp_weigh := Or.inl (gTB_t (gIn3 (List.mem_of_getElem? (i := 2) (by decide +kernel))) (by decide +kernel))
theorem lk_Hyp_37 : gLk R_Hyp 37 m_Txt_isLetterAt := Or.inl (gTB_t (gIn3 (List.mem_of_getElem? (i := 6) (by decide +kernel))) (by decide +kernel))
theorem lk_Txt_22 : gLk R_Txt 22 m_PS_isLetter := Or.inr ⟨"ParagraphSetter", gNW_in (gIn3 (List.mem_of_getElem? (i := 10) (by decide +kernel))) rfl⟩
theorem lk_Hyp_41 : gLk R_Hyp 41 m_Hyp_weighWord := Or.inl (gTB_t (gIn3 (List.mem_of_getElem? (i := 11) (by decide +kernel))) (by decide +kernel))
theorem lk_Hyp_46 : gLk R_Hyp 46 m_Hyp_stands := Or.inl (gTB_t (gIn3 (List.mem_of_getElem? (i := 15) (by decide +kernel))) (by decide +kernel))
theorem lk_Hyp_50 : gLk R_Hyp 50 m_Hyp_raise := Or.inl (gTB_t (gIn3 (List.mem_of_getElem? (i := 18) (by decide +kernel))) (by decide +kernel))
theorem lk_Hyp_61 : gLk R_Hyp 61 m_Math_max := Or.inl (gTB_t (gIn3 (List.mem_of_getElem? (i := 22) (by decide +kernel))) (by decide +kernel))
theorem lk_PS_131 : gLk R_PS 131 m_Brk_find := Or.inl (gTB_t (gIn3 (List.mem_of_getElem? (i := 25) (by decide +kernel))) (by decide +kernel))
theorem lk_Brk_28 : gLk R_Brk 28 m_Hyp_isPoint := Or.inl (gTB_t (gIn3 (List.mem_of_getElem? (i := 29) (by decide +kernel))) (by decide +kernel))
theorem lk_Brk_34 : gLk R_Brk 34 m_Brk_add := Or.inl (gTB_t (gIn3 (List.mem_of_getElem? (i := 33) (by decide +kernel))) (by decide +kernel))
theorem lk_Brk_38 : gLk R_Brk 38 m_Brk_addAt := Or.inl (gTB_t (gIn3 (List.mem_of_getElem? (i := 37) (by decide +kernel))) (by decide +kernel))
theorem lk_Brk_45 : gLk R_Brk 45 m_Txt_isBlank := Or.inl (gTB_t (gIn3 (List.mem_of_getElem? (i := 41) (by decide +kernel))) (by decide +kernel))
theorem lk_PS_137 : gLk R_PS 137 m_Stg_measure := Or.inl (gTB_t (gIn3 (List.mem_of_getElem? (i := 45) (by decide +kernel))) (by decide +kernel))
theorem lk_Stg_56 : gLk R_Stg 56 m_Sum_addUp := Or.inl (gTB_t (gIn3 (List.mem_of_getElem? (i := 49) (by decide +kernel))) (by decide +kernel))
theorem lk_Sum_39 : gLk R_Sum 39 m_PS_hasWidth := Or.inr ⟨"ParagraphSetter", gNW_in (gIn3 (List.mem_of_getElem? (i := 53) (by decide +kernel))) rfl⟩
theorem lk_Sum_43 : gLk R_Sum 43 m_PS_widthIndex := Or.inr ⟨"ParagraphSetter", gNW_in (gIn3 (List.mem_of_getElem? (i := 54) (by decide +kernel))) rfl⟩
theorem lk_Sum_47 : gLk R_Sum 47 m_PS_isLetter := Or.inr ⟨"ParagraphSetter", gNW_in (gIn3 (List.mem_of_getElem? (i := 55) (by decide +kernel))) rfl⟩
theorem lk_Stg_60 : gLk R_Stg 60 m_PS_widthIndex := Or.inr ⟨"ParagraphSetter", gNW_in (gIn3 (List.mem_of_getElem? (i := 56) (by decide +kernel))) rfl⟩
theorem lk_PS_141 : gLk R_PS 141 m_Cho_choose := Or.inl (gTB_t (gIn3 (List.mem_of_getElem? (i := 57) (by decide +kernel))) (by decide +kernel))
theorem lk_Cho_34 : gLk R_Cho 34 m_Cho_findNext := Or.inl (gTB_t (gIn3 (List.mem_of_getElem? (i := 61) (by decide +kernel))) (by decide +kernel))
theorem lk_Cho_42 : gLk R_Cho 42 m_Stg_badness := Or.inl (gTB_t (gIn3 (List.mem_of_getElem? (i := 65) (by decide +kernel))) (by decide +kernel))
theorem lk_Stg_81 : gLk R_Stg 81 m_Stg_letters := Or.inl (gTB_t (gIn3 (List.mem_of_getElem? (i := 69) (by decide +kernel))) (by decide +kernel))
theorem lk_Stg_67 : gLk R_Stg 67 m_Stg_over := Or.inl (gTB_t (gIn3 (List.mem_of_getElem? (i := 73) (by decide +kernel))) (by decide +kernel))
theorem lk_Stg_88 : gLk R_Stg 88 m_Stg_difference := Or.inl (gTB_t (gIn3 (List.mem_of_getElem? (i := 78) (by decide +kernel))) (by decide +kernel))
theorem lk_Stg_77 : gLk R_Stg 77 m_Stg_natural := Or.inl (gTB_t (gIn3 (List.mem_of_getElem? (i := 82) (by decide +kernel))) (by decide +kernel))
theorem lk_Stg_91 : gLk R_Stg 91 m_Stg_isLoose := Or.inl (gTB_t (gIn3 (List.mem_of_getElem? (i := 86) (by decide +kernel))) (by decide +kernel))
theorem lk_Stg_103 : gLk R_Stg 103 m_Math_abs := Or.inl (gTB_t (gIn3 (List.mem_of_getElem? (i := 91) (by decide +kernel))) (by decide +kernel))
theorem lk_Stg_108 : gLk R_Stg 108 m_Stg_cube := Or.inl (gTB_t (gIn3 (List.mem_of_getElem? (i := 94) (by decide +kernel))) (by decide +kernel))
theorem lk_Cho_48 : gLk R_Cho 48 m_Stg_price := Or.inl (gTB_t (gIn3 (List.mem_of_getElem? (i := 98) (by decide +kernel))) (by decide +kernel))
theorem lk_Stg_112 : gLk R_Stg 112 m_Stg_square := Or.inl (gTB_t (gIn3 (List.mem_of_getElem? (i := 102) (by decide +kernel))) (by decide +kernel))
theorem lk_Cho_52 : gLk R_Cho 52 m_Cho_keepBetter := Or.inl (gTB_t (gIn3 (List.mem_of_getElem? (i := 105) (by decide +kernel))) (by decide +kernel))
theorem lk_Cho_38 : gLk R_Cho 38 m_Cho_follow := Or.inl (gTB_t (gIn3 (List.mem_of_getElem? (i := 109) (by decide +kernel))) (by decide +kernel))
theorem lk_PS_145 : gLk R_PS 145 m_PS_showDraft := Or.inl (gTB_t (gIn3 (List.mem_of_getElem? (i := 113) (by decide +kernel))) (by decide +kernel))
theorem lk_Law_44 : gLk R_Law 44 m_PS_cost := Or.inl (gTB_t (gIn3 (List.mem_of_getElem? (i := 117) (by decide +kernel))) (by decide +kernel))
theorem lk_Law_49 : gLk R_Law 49 m_PS_line := Or.inl (gTB_t (gIn3 (List.mem_of_getElem? (i := 121) (by decide +kernel))) (by decide +kernel))
theorem lk_PS_155 : gLk R_PS 155 m_Stg_hasLine := Or.inl (gTB_t (gIn3 (List.mem_of_getElem? (i := 125) (by decide +kernel))) (by decide +kernel))
theorem lk_PS_164 : gLk R_PS 164 m_Stg_natural := Or.inl (gTB_t (gIn3 (List.mem_of_getElem? (i := 129) (by decide +kernel))) (by decide +kernel))
theorem lk_PS_168 : gLk R_PS 168 m_Stg_difference := Or.inl (gTB_t (gIn3 (List.mem_of_getElem? (i := 130) (by decide +kernel))) (by decide +kernel))
theorem lk_PS_171 : gLk R_PS 171 m_Stg_badness := Or.inl (gTB_t (gIn3 (List.mem_of_getElem? (i := 131) (by decide +kernel))) (by decide +kernel))
theorem lk_PS_175 : gLk R_PS 175 m_Stg_letters := Or.inl (gTB_t (gIn3 (List.mem_of_getElem? (i := 132) (by decide +kernel))) (by decide +kernel))
theorem lk_Law_53 : gLk R_Law 53 m_PS_character := Or.inl (gTB_t (gIn3 (List.mem_of_getElem? (i := 133) (by decide +kernel))) (by decide +kernel))
theorem lk_PS_178 : gLk R_PS 178 m_Stg_codeAt := Or.inl (gTB_t (gIn3 (List.mem_of_getElem? (i := 137) (by decide +kernel))) (by decide +kernel))
theorem lk_Stg_118 : gLk R_Stg 118 m_Stg_length := Or.inl (gTB_t (gIn3 (List.mem_of_getElem? (i := 141) (by decide +kernel))) (by decide +kernel))
theorem lk_Stg_115 : gLk R_Stg 115 m_Stg_items := Or.inl (gTB_t (gIn3 (List.mem_of_getElem? (i := 145) (by decide +kernel))) (by decide +kernel))
theorem lk_Law_57 : gLk R_Law 57 m_PS_place := Or.inl (gTB_t (gIn3 (List.mem_of_getElem? (i := 149) (by decide +kernel))) (by decide +kernel))
theorem lk_PS_181 : gLk R_PS 181 m_Stg_length := Or.inl (gTB_t (gIn3 (List.mem_of_getElem? (i := 153) (by decide +kernel))) (by decide +kernel))
theorem lk_PS_184 : gLk R_PS 184 m_Stg_placeOf := Or.inl (gTB_t (gIn3 (List.mem_of_getElem? (i := 154) (by decide +kernel))) (by decide +kernel))
theorem lk_Stg_127 : gLk R_Stg 127 m_Math_floorDiv := Or.inl (gTB_t (gIn3 (List.mem_of_getElem? (i := 158) (by decide +kernel))) (by decide +kernel))
theorem lk_Law_61 : gLk R_Law 61 m_PS_count := Or.inl (gTB_t (gIn3 (List.mem_of_getElem? (i := 161) (by decide +kernel))) (by decide +kernel))
theorem lk_PS_189 : gLk R_PS 189 m_Brk_points := Or.inl (gTB_t (gIn3 (List.mem_of_getElem? (i := 165) (by decide +kernel))) (by decide +kernel))
theorem cl_Law_10 : Cond.classLink R_Law 10 "ParagraphSetterModel" ∈ gTB := gTB_t (gIn3 (List.mem_of_getElem? (i := 169) (by decide +kernel))) (by decide +kernel)
theorem lk_Law_12 : gLk R_Law 12 m_Mod_init := Or.inl (gTB_t (gIn3 (List.mem_of_getElem? (i := 171) (by decide +kernel))) (by decide +kernel))
theorem ob_Mod_1 : Cond.methodLink R_Mod 1 Lib.objectInit ∈ gTB := gTB_t (gIn3 (List.mem_of_getElem? (i := 174) (by decide +kernel))) (by decide +kernel)
theorem f_Mod_7 : gF R_Mod 7 11 0 := ⟨R_Mod, F_Mod, 52, rfl, by decide, rfl, l_Mod, Or.inl (gTB_t (gIn3 (List.mem_of_getElem? (i := 175) (by decide +kernel))) (by decide +kernel))⟩
theorem ff_Mod_7 : ∀ C T N, classes[11]? = some (C, T, N) → C = R_Mod ∧ Cond.fieldLink R_Mod 7 C (T 0).2.1 (T 0).2.2.1 ∈ gTB := fun C T N h => by cases h; exact ⟨rfl, gTB_t (gIn3 (List.mem_of_getElem? (i := 175) (by decide +kernel))) (by decide +kernel)⟩
theorem f_Mod_118 : gF R_Mod 118 11 1 := ⟨R_Mod, F_Mod, 52, rfl, by decide, rfl, l_Mod, Or.inl (gTB_t (gIn3 (List.mem_of_getElem? (i := 176) (by decide +kernel))) (by decide +kernel))⟩
theorem f_Mod_13 : gF R_Mod 13 11 2 := ⟨R_Mod, F_Mod, 52, rfl, by decide, rfl, l_Mod, Or.inl (gTB_t (gIn3 (List.mem_of_getElem? (i := 177) (by decide +kernel))) (by decide +kernel))⟩
theorem ff_Mod_13 : ∀ C T N, classes[11]? = some (C, T, N) → C = R_Mod ∧ Cond.fieldLink R_Mod 13 C (T 2).2.1 (T 2).2.2.1 ∈ gTB := fun C T N h => by cases h; exact ⟨rfl, gTB_t (gIn3 (List.mem_of_getElem? (i := 177) (by decide +kernel))) (by decide +kernel)⟩
theorem f_Mod_16 : gF R_Mod 16 11 3 := ⟨R_Mod, F_Mod, 52, rfl, by decide, rfl, l_Mod, Or.inl (gTB_t (gIn3 (List.mem_of_getElem? (i := 178) (by decide +kernel))) (by decide +kernel))⟩
theorem ff_Mod_16 : ∀ C T N, classes[11]? = some (C, T, N) → C = R_Mod ∧ Cond.fieldLink R_Mod 16 C (T 3).2.1 (T 3).2.2.1 ∈ gTB := fun C T N h => by cases h; exact ⟨rfl, gTB_t (gIn3 (List.mem_of_getElem? (i := 178) (by decide +kernel))) (by decide +kernel)⟩
theorem f_Mod_19 : gF R_Mod 19 11 4 := ⟨R_Mod, F_Mod, 52, rfl, by decide, rfl, l_Mod, Or.inl (gTB_t (gIn3 (List.mem_of_getElem? (i := 179) (by decide +kernel))) (by decide +kernel))⟩
theorem ff_Mod_19 : ∀ C T N, classes[11]? = some (C, T, N) → C = R_Mod ∧ Cond.fieldLink R_Mod 19 C (T 4).2.1 (T 4).2.2.1 ∈ gTB := fun C T N h => by cases h; exact ⟨rfl, gTB_t (gIn3 (List.mem_of_getElem? (i := 179) (by decide +kernel))) (by decide +kernel)⟩
theorem f_Mod_22 : gF R_Mod 22 11 5 := ⟨R_Mod, F_Mod, 52, rfl, by decide, rfl, l_Mod, Or.inl (gTB_t (gIn3 (List.mem_of_getElem? (i := 180) (by decide +kernel))) (by decide +kernel))⟩
theorem ff_Mod_22 : ∀ C T N, classes[11]? = some (C, T, N) → C = R_Mod ∧ Cond.fieldLink R_Mod 22 C (T 5).2.1 (T 5).2.2.1 ∈ gTB := fun C T N h => by cases h; exact ⟨rfl, gTB_t (gIn3 (List.mem_of_getElem? (i := 180) (by decide +kernel))) (by decide +kernel)⟩
theorem f_Mod_25 : gF R_Mod 25 11 6 := ⟨R_Mod, F_Mod, 52, rfl, by decide, rfl, l_Mod, Or.inl (gTB_t (gIn3 (List.mem_of_getElem? (i := 181) (by decide +kernel))) (by decide +kernel))⟩
theorem ff_Mod_25 : ∀ C T N, classes[11]? = some (C, T, N) → C = R_Mod ∧ Cond.fieldLink R_Mod 25 C (T 6).2.1 (T 6).2.2.1 ∈ gTB := fun C T N h => by cases h; exact ⟨rfl, gTB_t (gIn3 (List.mem_of_getElem? (i := 181) (by decide +kernel))) (by decide +kernel)⟩
theorem f_Mod_28 : gF R_Mod 28 11 7 := ⟨R_Mod, F_Mod, 52, rfl, by decide, rfl, l_Mod, Or.inl (gTB_t (gIn3 (List.mem_of_getElem? (i := 182) (by decide +kernel))) (by decide +kernel))⟩
theorem ff_Mod_28 : ∀ C T N, classes[11]? = some (C, T, N) → C = R_Mod ∧ Cond.fieldLink R_Mod 28 C (T 7).2.1 (T 7).2.2.1 ∈ gTB := fun C T N h => by cases h; exact ⟨rfl, gTB_t (gIn3 (List.mem_of_getElem? (i := 182) (by decide +kernel))) (by decide +kernel)⟩
theorem f_Mod_31 : gF R_Mod 31 11 8 := ⟨R_Mod, F_Mod, 52, rfl, by decide, rfl, l_Mod, Or.inl (gTB_t (gIn3 (List.mem_of_getElem? (i := 183) (by decide +kernel))) (by decide +kernel))⟩
theorem ff_Mod_31 : ∀ C T N, classes[11]? = some (C, T, N) → C = R_Mod ∧ Cond.fieldLink R_Mod 31 C (T 8).2.1 (T 8).2.2.1 ∈ gTB := fun C T N h => by cases h; exact ⟨rfl, gTB_t (gIn3 (List.mem_of_getElem? (i := 183) (by decide +kernel))) (by decide +kernel)⟩
theorem f_Mod_122 : gF R_Mod 122 11 9 := ⟨R_Mod, F_Mod, 52, rfl, by decide, rfl, l_Mod, Or.inl (gTB_t (gIn3 (List.mem_of_getElem? (i := 184) (by decide +kernel))) (by decide +kernel))⟩
theorem f_Mod_34 : gF R_Mod 34 11 10 := ⟨R_Mod, F_Mod, 52, rfl, by decide, rfl, l_Mod, Or.inl (gTB_t (gIn3 (List.mem_of_getElem? (i := 185) (by decide +kernel))) (by decide +kernel))⟩
theorem ff_Mod_34 : ∀ C T N, classes[11]? = some (C, T, N) → C = R_Mod ∧ Cond.fieldLink R_Mod 34 C (T 10).2.1 (T 10).2.2.1 ∈ gTB := fun C T N h => by cases h; exact ⟨rfl, gTB_t (gIn3 (List.mem_of_getElem? (i := 185) (by decide +kernel))) (by decide +kernel)⟩
theorem f_Mod_37 : gF R_Mod 37 11 11 := ⟨R_Mod, F_Mod, 52, rfl, by decide, rfl, l_Mod, Or.inl (gTB_t (gIn3 (List.mem_of_getElem? (i := 186) (by decide +kernel))) (by decide +kernel))⟩
theorem ff_Mod_37 : ∀ C T N, classes[11]? = some (C, T, N) → C = R_Mod ∧ Cond.fieldLink R_Mod 37 C (T 11).2.1 (T 11).2.2.1 ∈ gTB := fun C T N h => by cases h; exact ⟨rfl, gTB_t (gIn3 (List.mem_of_getElem? (i := 186) (by decide +kernel))) (by decide +kernel)⟩
theorem f_Mod_40 : gF R_Mod 40 11 12 := ⟨R_Mod, F_Mod, 52, rfl, by decide, rfl, l_Mod, Or.inl (gTB_t (gIn3 (List.mem_of_getElem? (i := 187) (by decide +kernel))) (by decide +kernel))⟩
theorem ff_Mod_40 : ∀ C T N, classes[11]? = some (C, T, N) → C = R_Mod ∧ Cond.fieldLink R_Mod 40 C (T 12).2.1 (T 12).2.2.1 ∈ gTB := fun C T N h => by cases h; exact ⟨rfl, gTB_t (gIn3 (List.mem_of_getElem? (i := 187) (by decide +kernel))) (by decide +kernel)⟩
theorem f_Mod_43 : gF R_Mod 43 11 13 := ⟨R_Mod, F_Mod, 52, rfl, by decide, rfl, l_Mod, Or.inl (gTB_t (gIn3 (List.mem_of_getElem? (i := 188) (by decide +kernel))) (by decide +kernel))⟩
theorem ff_Mod_43 : ∀ C T N, classes[11]? = some (C, T, N) → C = R_Mod ∧ Cond.fieldLink R_Mod 43 C (T 13).2.1 (T 13).2.2.1 ∈ gTB := fun C T N h => by cases h; exact ⟨rfl, gTB_t (gIn3 (List.mem_of_getElem? (i := 188) (by decide +kernel))) (by decide +kernel)⟩
theorem f_Mod_125 : gF R_Mod 125 11 14 := ⟨R_Mod, F_Mod, 52, rfl, by decide, rfl, l_Mod, Or.inl (gTB_t (gIn3 (List.mem_of_getElem? (i := 189) (by decide +kernel))) (by decide +kernel))⟩
theorem f_Mod_128 : gF R_Mod 128 11 15 := ⟨R_Mod, F_Mod, 52, rfl, by decide, rfl, l_Mod, Or.inl (gTB_t (gIn3 (List.mem_of_getElem? (i := 190) (by decide +kernel))) (by decide +kernel))⟩
theorem f_Mod_135 : gF R_Mod 135 11 16 := ⟨R_Mod, F_Mod, 52, rfl, by decide, rfl, l_Mod, Or.inl (gTB_t (gIn3 (List.mem_of_getElem? (i := 191) (by decide +kernel))) (by decide +kernel))⟩
theorem f_Mod_46 : gF R_Mod 46 11 17 := ⟨R_Mod, F_Mod, 52, rfl, by decide, rfl, l_Mod, Or.inl (gTB_t (gIn3 (List.mem_of_getElem? (i := 192) (by decide +kernel))) (by decide +kernel))⟩
theorem ff_Mod_46 : ∀ C T N, classes[11]? = some (C, T, N) → C = R_Mod ∧ Cond.fieldLink R_Mod 46 C (T 17).2.1 (T 17).2.2.1 ∈ gTB := fun C T N h => by cases h; exact ⟨rfl, gTB_t (gIn3 (List.mem_of_getElem? (i := 192) (by decide +kernel))) (by decide +kernel)⟩
theorem f_Mod_49 : gF R_Mod 49 11 18 := ⟨R_Mod, F_Mod, 52, rfl, by decide, rfl, l_Mod, Or.inl (gTB_t (gIn3 (List.mem_of_getElem? (i := 193) (by decide +kernel))) (by decide +kernel))⟩
theorem ff_Mod_49 : ∀ C T N, classes[11]? = some (C, T, N) → C = R_Mod ∧ Cond.fieldLink R_Mod 49 C (T 18).2.1 (T 18).2.2.1 ∈ gTB := fun C T N h => by cases h; exact ⟨rfl, gTB_t (gIn3 (List.mem_of_getElem? (i := 193) (by decide +kernel))) (by decide +kernel)⟩
theorem f_Mod_52 : gF R_Mod 52 11 19 := ⟨R_Mod, F_Mod, 52, rfl, by decide, rfl, l_Mod, Or.inl (gTB_t (gIn3 (List.mem_of_getElem? (i := 194) (by decide +kernel))) (by decide +kernel))⟩
theorem ff_Mod_52 : ∀ C T N, classes[11]? = some (C, T, N) → C = R_Mod ∧ Cond.fieldLink R_Mod 52 C (T 19).2.1 (T 19).2.2.1 ∈ gTB := fun C T N h => by cases h; exact ⟨rfl, gTB_t (gIn3 (List.mem_of_getElem? (i := 194) (by decide +kernel))) (by decide +kernel)⟩
theorem f_Mod_55 : gF R_Mod 55 11 20 := ⟨R_Mod, F_Mod, 52, rfl, by decide, rfl, l_Mod, Or.inl (gTB_t (gIn3 (List.mem_of_getElem? (i := 195) (by decide +kernel))) (by decide +kernel))⟩
theorem ff_Mod_55 : ∀ C T N, classes[11]? = some (C, T, N) → C = R_Mod ∧ Cond.fieldLink R_Mod 55 C (T 20).2.1 (T 20).2.2.1 ∈ gTB := fun C T N h => by cases h; exact ⟨rfl, gTB_t (gIn3 (List.mem_of_getElem? (i := 195) (by decide +kernel))) (by decide +kernel)⟩
theorem f_Mod_58 : gF R_Mod 58 11 21 := ⟨R_Mod, F_Mod, 52, rfl, by decide, rfl, l_Mod, Or.inl (gTB_t (gIn3 (List.mem_of_getElem? (i := 196) (by decide +kernel))) (by decide +kernel))⟩
theorem ff_Mod_58 : ∀ C T N, classes[11]? = some (C, T, N) → C = R_Mod ∧ Cond.fieldLink R_Mod 58 C (T 21).2.1 (T 21).2.2.1 ∈ gTB := fun C T N h => by cases h; exact ⟨rfl, gTB_t (gIn3 (List.mem_of_getElem? (i := 196) (by decide +kernel))) (by decide +kernel)⟩
theorem f_Mod_142 : gF R_Mod 142 11 22 := ⟨R_Mod, F_Mod, 52, rfl, by decide, rfl, l_Mod, Or.inl (gTB_t (gIn3 (List.mem_of_getElem? (i := 197) (by decide +kernel))) (by decide +kernel))⟩
theorem f_Mod_202 : gF R_Mod 202 11 23 := ⟨R_Mod, F_Mod, 52, rfl, by decide, rfl, l_Mod, Or.inl (gTB_t (gIn3 (List.mem_of_getElem? (i := 198) (by decide +kernel))) (by decide +kernel))⟩
theorem f_Mod_61 : gF R_Mod 61 11 24 := ⟨R_Mod, F_Mod, 52, rfl, by decide, rfl, l_Mod, Or.inl (gTB_t (gIn3 (List.mem_of_getElem? (i := 199) (by decide +kernel))) (by decide +kernel))⟩
theorem ff_Mod_61 : ∀ C T N, classes[11]? = some (C, T, N) → C = R_Mod ∧ Cond.fieldLink R_Mod 61 C (T 24).2.1 (T 24).2.2.1 ∈ gTB := fun C T N h => by cases h; exact ⟨rfl, gTB_t (gIn3 (List.mem_of_getElem? (i := 199) (by decide +kernel))) (by decide +kernel)⟩
theorem f_Mod_65 : gF R_Mod 65 11 25 := ⟨R_Mod, F_Mod, 52, rfl, by decide, rfl, l_Mod, Or.inl (gTB_t (gIn3 (List.mem_of_getElem? (i := 200) (by decide +kernel))) (by decide +kernel))⟩
theorem ff_Mod_65 : ∀ C T N, classes[11]? = some (C, T, N) → C = R_Mod ∧ Cond.fieldLink R_Mod 65 C (T 25).2.1 (T 25).2.2.1 ∈ gTB := fun C T N h => by cases h; exact ⟨rfl, gTB_t (gIn3 (List.mem_of_getElem? (i := 200) (by decide +kernel))) (by decide +kernel)⟩
theorem f_Mod_68 : gF R_Mod 68 11 26 := ⟨R_Mod, F_Mod, 52, rfl, by decide, rfl, l_Mod, Or.inl (gTB_t (gIn3 (List.mem_of_getElem? (i := 201) (by decide +kernel))) (by decide +kernel))⟩
theorem ff_Mod_68 : ∀ C T N, classes[11]? = some (C, T, N) → C = R_Mod ∧ Cond.fieldLink R_Mod 68 C (T 26).2.1 (T 26).2.2.1 ∈ gTB := fun C T N h => by cases h; exact ⟨rfl, gTB_t (gIn3 (List.mem_of_getElem? (i := 201) (by decide +kernel))) (by decide +kernel)⟩
theorem f_Mod_71 : gF R_Mod 71 11 27 := ⟨R_Mod, F_Mod, 52, rfl, by decide, rfl, l_Mod, Or.inl (gTB_t (gIn3 (List.mem_of_getElem? (i := 202) (by decide +kernel))) (by decide +kernel))⟩
theorem ff_Mod_71 : ∀ C T N, classes[11]? = some (C, T, N) → C = R_Mod ∧ Cond.fieldLink R_Mod 71 C (T 27).2.1 (T 27).2.2.1 ∈ gTB := fun C T N h => by cases h; exact ⟨rfl, gTB_t (gIn3 (List.mem_of_getElem? (i := 202) (by decide +kernel))) (by decide +kernel)⟩
theorem f_Mod_163 : gF R_Mod 163 11 28 := ⟨R_Mod, F_Mod, 52, rfl, by decide, rfl, l_Mod, Or.inl (gTB_t (gIn3 (List.mem_of_getElem? (i := 203) (by decide +kernel))) (by decide +kernel))⟩
theorem f_Mod_157 : gF R_Mod 157 11 29 := ⟨R_Mod, F_Mod, 52, rfl, by decide, rfl, l_Mod, Or.inl (gTB_t (gIn3 (List.mem_of_getElem? (i := 204) (by decide +kernel))) (by decide +kernel))⟩
theorem f_Mod_74 : gF R_Mod 74 11 30 := ⟨R_Mod, F_Mod, 52, rfl, by decide, rfl, l_Mod, Or.inl (gTB_t (gIn3 (List.mem_of_getElem? (i := 205) (by decide +kernel))) (by decide +kernel))⟩
theorem ff_Mod_74 : ∀ C T N, classes[11]? = some (C, T, N) → C = R_Mod ∧ Cond.fieldLink R_Mod 74 C (T 30).2.1 (T 30).2.2.1 ∈ gTB := fun C T N h => by cases h; exact ⟨rfl, gTB_t (gIn3 (List.mem_of_getElem? (i := 205) (by decide +kernel))) (by decide +kernel)⟩
theorem f_Mod_78 : gF R_Mod 78 11 31 := ⟨R_Mod, F_Mod, 52, rfl, by decide, rfl, l_Mod, Or.inl (gTB_t (gIn3 (List.mem_of_getElem? (i := 206) (by decide +kernel))) (by decide +kernel))⟩
theorem ff_Mod_78 : ∀ C T N, classes[11]? = some (C, T, N) → C = R_Mod ∧ Cond.fieldLink R_Mod 78 C (T 31).2.1 (T 31).2.2.1 ∈ gTB := fun C T N h => by cases h; exact ⟨rfl, gTB_t (gIn3 (List.mem_of_getElem? (i := 206) (by decide +kernel))) (by decide +kernel)⟩
theorem f_Mod_81 : gF R_Mod 81 11 32 := ⟨R_Mod, F_Mod, 52, rfl, by decide, rfl, l_Mod, Or.inl (gTB_t (gIn3 (List.mem_of_getElem? (i := 207) (by decide +kernel))) (by decide +kernel))⟩
theorem ff_Mod_81 : ∀ C T N, classes[11]? = some (C, T, N) → C = R_Mod ∧ Cond.fieldLink R_Mod 81 C (T 32).2.1 (T 32).2.2.1 ∈ gTB := fun C T N h => by cases h; exact ⟨rfl, gTB_t (gIn3 (List.mem_of_getElem? (i := 207) (by decide +kernel))) (by decide +kernel)⟩
theorem f_Mod_170 : gF R_Mod 170 11 33 := ⟨R_Mod, F_Mod, 52, rfl, by decide, rfl, l_Mod, Or.inl (gTB_t (gIn3 (List.mem_of_getElem? (i := 208) (by decide +kernel))) (by decide +kernel))⟩
theorem f_Mod_173 : gF R_Mod 173 11 34 := ⟨R_Mod, F_Mod, 52, rfl, by decide, rfl, l_Mod, Or.inl (gTB_t (gIn3 (List.mem_of_getElem? (i := 209) (by decide +kernel))) (by decide +kernel))⟩
theorem f_Mod_182 : gF R_Mod 182 11 35 := ⟨R_Mod, F_Mod, 52, rfl, by decide, rfl, l_Mod, Or.inl (gTB_t (gIn3 (List.mem_of_getElem? (i := 210) (by decide +kernel))) (by decide +kernel))⟩
theorem f_Mod_179 : gF R_Mod 179 11 36 := ⟨R_Mod, F_Mod, 52, rfl, by decide, rfl, l_Mod, Or.inl (gTB_t (gIn3 (List.mem_of_getElem? (i := 211) (by decide +kernel))) (by decide +kernel))⟩
theorem f_Mod_176 : gF R_Mod 176 11 37 := ⟨R_Mod, F_Mod, 52, rfl, by decide, rfl, l_Mod, Or.inl (gTB_t (gIn3 (List.mem_of_getElem? (i := 212) (by decide +kernel))) (by decide +kernel))⟩
theorem f_Mod_84 : gF R_Mod 84 11 38 := ⟨R_Mod, F_Mod, 52, rfl, by decide, rfl, l_Mod, Or.inl (gTB_t (gIn3 (List.mem_of_getElem? (i := 213) (by decide +kernel))) (by decide +kernel))⟩
theorem ff_Mod_84 : ∀ C T N, classes[11]? = some (C, T, N) → C = R_Mod ∧ Cond.fieldLink R_Mod 84 C (T 38).2.1 (T 38).2.2.1 ∈ gTB := fun C T N h => by cases h; exact ⟨rfl, gTB_t (gIn3 (List.mem_of_getElem? (i := 213) (by decide +kernel))) (by decide +kernel)⟩
theorem f_Mod_87 : gF R_Mod 87 11 39 := ⟨R_Mod, F_Mod, 52, rfl, by decide, rfl, l_Mod, Or.inl (gTB_t (gIn3 (List.mem_of_getElem? (i := 214) (by decide +kernel))) (by decide +kernel))⟩
theorem ff_Mod_87 : ∀ C T N, classes[11]? = some (C, T, N) → C = R_Mod ∧ Cond.fieldLink R_Mod 87 C (T 39).2.1 (T 39).2.2.1 ∈ gTB := fun C T N h => by cases h; exact ⟨rfl, gTB_t (gIn3 (List.mem_of_getElem? (i := 214) (by decide +kernel))) (by decide +kernel)⟩
theorem f_Mod_90 : gF R_Mod 90 11 40 := ⟨R_Mod, F_Mod, 52, rfl, by decide, rfl, l_Mod, Or.inl (gTB_t (gIn3 (List.mem_of_getElem? (i := 215) (by decide +kernel))) (by decide +kernel))⟩
theorem ff_Mod_90 : ∀ C T N, classes[11]? = some (C, T, N) → C = R_Mod ∧ Cond.fieldLink R_Mod 90 C (T 40).2.1 (T 40).2.2.1 ∈ gTB := fun C T N h => by cases h; exact ⟨rfl, gTB_t (gIn3 (List.mem_of_getElem? (i := 215) (by decide +kernel))) (by decide +kernel)⟩
theorem f_Mod_93 : gF R_Mod 93 11 41 := ⟨R_Mod, F_Mod, 52, rfl, by decide, rfl, l_Mod, Or.inl (gTB_t (gIn3 (List.mem_of_getElem? (i := 216) (by decide +kernel))) (by decide +kernel))⟩
theorem ff_Mod_93 : ∀ C T N, classes[11]? = some (C, T, N) → C = R_Mod ∧ Cond.fieldLink R_Mod 93 C (T 41).2.1 (T 41).2.2.1 ∈ gTB := fun C T N h => by cases h; exact ⟨rfl, gTB_t (gIn3 (List.mem_of_getElem? (i := 216) (by decide +kernel))) (by decide +kernel)⟩
theorem f_Mod_96 : gF R_Mod 96 11 42 := ⟨R_Mod, F_Mod, 52, rfl, by decide, rfl, l_Mod, Or.inl (gTB_t (gIn3 (List.mem_of_getElem? (i := 217) (by decide +kernel))) (by decide +kernel))⟩
theorem ff_Mod_96 : ∀ C T N, classes[11]? = some (C, T, N) → C = R_Mod ∧ Cond.fieldLink R_Mod 96 C (T 42).2.1 (T 42).2.2.1 ∈ gTB := fun C T N h => by cases h; exact ⟨rfl, gTB_t (gIn3 (List.mem_of_getElem? (i := 217) (by decide +kernel))) (by decide +kernel)⟩
theorem f_Mod_99 : gF R_Mod 99 11 43 := ⟨R_Mod, F_Mod, 52, rfl, by decide, rfl, l_Mod, Or.inl (gTB_t (gIn3 (List.mem_of_getElem? (i := 218) (by decide +kernel))) (by decide +kernel))⟩
theorem ff_Mod_99 : ∀ C T N, classes[11]? = some (C, T, N) → C = R_Mod ∧ Cond.fieldLink R_Mod 99 C (T 43).2.1 (T 43).2.2.1 ∈ gTB := fun C T N h => by cases h; exact ⟨rfl, gTB_t (gIn3 (List.mem_of_getElem? (i := 218) (by decide +kernel))) (by decide +kernel)⟩
theorem f_Mod_102 : gF R_Mod 102 11 44 := ⟨R_Mod, F_Mod, 52, rfl, by decide, rfl, l_Mod, Or.inl (gTB_t (gIn3 (List.mem_of_getElem? (i := 219) (by decide +kernel))) (by decide +kernel))⟩
theorem ff_Mod_102 : ∀ C T N, classes[11]? = some (C, T, N) → C = R_Mod ∧ Cond.fieldLink R_Mod 102 C (T 44).2.1 (T 44).2.2.1 ∈ gTB := fun C T N h => by cases h; exact ⟨rfl, gTB_t (gIn3 (List.mem_of_getElem? (i := 219) (by decide +kernel))) (by decide +kernel)⟩
theorem f_Mod_105 : gF R_Mod 105 11 45 := ⟨R_Mod, F_Mod, 52, rfl, by decide, rfl, l_Mod, Or.inl (gTB_t (gIn3 (List.mem_of_getElem? (i := 220) (by decide +kernel))) (by decide +kernel))⟩
theorem ff_Mod_105 : ∀ C T N, classes[11]? = some (C, T, N) → C = R_Mod ∧ Cond.fieldLink R_Mod 105 C (T 45).2.1 (T 45).2.2.1 ∈ gTB := fun C T N h => by cases h; exact ⟨rfl, gTB_t (gIn3 (List.mem_of_getElem? (i := 220) (by decide +kernel))) (by decide +kernel)⟩
theorem f_Mod_108 : gF R_Mod 108 11 46 := ⟨R_Mod, F_Mod, 52, rfl, by decide, rfl, l_Mod, Or.inl (gTB_t (gIn3 (List.mem_of_getElem? (i := 221) (by decide +kernel))) (by decide +kernel))⟩
theorem ff_Mod_108 : ∀ C T N, classes[11]? = some (C, T, N) → C = R_Mod ∧ Cond.fieldLink R_Mod 108 C (T 46).2.1 (T 46).2.2.1 ∈ gTB := fun C T N h => by cases h; exact ⟨rfl, gTB_t (gIn3 (List.mem_of_getElem? (i := 221) (by decide +kernel))) (by decide +kernel)⟩
theorem f_Mod_199 : gF R_Mod 199 11 47 := ⟨R_Mod, F_Mod, 52, rfl, by decide, rfl, l_Mod, Or.inl (gTB_t (gIn3 (List.mem_of_getElem? (i := 222) (by decide +kernel))) (by decide +kernel))⟩
theorem f_Mod_205 : gF R_Mod 205 11 48 := ⟨R_Mod, F_Mod, 52, rfl, by decide, rfl, l_Mod, Or.inl (gTB_t (gIn3 (List.mem_of_getElem? (i := 223) (by decide +kernel))) (by decide +kernel))⟩
theorem f_Mod_208 : gF R_Mod 208 11 49 := ⟨R_Mod, F_Mod, 52, rfl, by decide, rfl, l_Mod, Or.inl (gTB_t (gIn3 (List.mem_of_getElem? (i := 224) (by decide +kernel))) (by decide +kernel))⟩
theorem f_Mod_211 : gF R_Mod 211 11 50 := ⟨R_Mod, F_Mod, 52, rfl, by decide, rfl, l_Mod, Or.inl (gTB_t (gIn3 (List.mem_of_getElem? (i := 225) (by decide +kernel))) (by decide +kernel))⟩
theorem f_Mod_214 : gF R_Mod 214 11 51 := ⟨R_Mod, F_Mod, 52, rfl, by decide, rfl, l_Mod, Or.inl (gTB_t (gIn3 (List.mem_of_getElem? (i := 226) (by decide +kernel))) (by decide +kernel))⟩
theorem lk_Law_17 : gLk R_Law 17 m_Mod_type := Or.inl (gTB_t (gIn4 (List.mem_of_getElem? (i := 93) (by decide +kernel))) (by decide +kernel))
theorem lk_Mod_111 : gLk R_Mod 111 m_Mod_letter := Or.inl (gTB_t (gIn4 (List.mem_of_getElem? (i := 97) (by decide +kernel))) (by decide +kernel))
theorem lk_Mod_115 : gLk R_Mod 115 m_Mod_digit := Or.inl (gTB_t (gIn4 (List.mem_of_getElem? (i := 100) (by decide +kernel))) (by decide +kernel))
theorem lk_Law_22 : gLk R_Law 22 m_Mod_wipe := Or.inl (gTB_t (gIn4 (List.mem_of_getElem? (i := 103) (by decide +kernel))) (by decide +kernel))
theorem lk_Law_27 : gLk R_Law 27 m_Mod_width := Or.inl (gTB_t (gIn4 (List.mem_of_getElem? (i := 107) (by decide +kernel))) (by decide +kernel))
theorem lk_Law_31 : gLk R_Law 31 m_Mod_parameter := Or.inl (gTB_t (gIn4 (List.mem_of_getElem? (i := 111) (by decide +kernel))) (by decide +kernel))
theorem lk_Law_35 : gLk R_Law 35 m_Mod_define := Or.inl (gTB_t (gIn4 (List.mem_of_getElem? (i := 115) (by decide +kernel))) (by decide +kernel))
theorem lk_Law_39 : gLk R_Law 39 m_Mod_pattern := Or.inl (gTB_t (gIn4 (List.mem_of_getElem? (i := 119) (by decide +kernel))) (by decide +kernel))
theorem lk_Law_43 : gLk R_Law 43 m_Mod_paragraph := Or.inl (gTB_t (gIn4 (List.mem_of_getElem? (i := 123) (by decide +kernel))) (by decide +kernel))
theorem lk_Mod_218 : gLk R_Mod 218 m_Mod_expand := Or.inl (gTB_t (gIn4 (List.mem_of_getElem? (i := 127) (by decide +kernel))) (by decide +kernel))
theorem lk_Mod_131 : gLk R_Mod 131 m_Mod_take := Or.inl (gTB_t (gIn4 (List.mem_of_getElem? (i := 131) (by decide +kernel))) (by decide +kernel))
theorem lk_Mod_145 : gLk R_Mod 145 m_Mod_call := Or.inl (gTB_t (gIn4 (List.mem_of_getElem? (i := 135) (by decide +kernel))) (by decide +kernel))
theorem lk_Mod_138 : gLk R_Mod 138 m_Mod_takeArgument := Or.inl (gTB_t (gIn4 (List.mem_of_getElem? (i := 139) (by decide +kernel))) (by decide +kernel))
theorem lk_Mod_221 : gLk R_Mod 221 m_Mod_clean := Or.inl (gTB_t (gIn4 (List.mem_of_getElem? (i := 143) (by decide +kernel))) (by decide +kernel))
theorem lk_Mod_149 : gLk R_Mod 149 m_Mod_drop := Or.inl (gTB_t (gIn4 (List.mem_of_getElem? (i := 147) (by decide +kernel))) (by decide +kernel))
theorem lk_Mod_224 : gLk R_Mod 224 m_Mod_hyphenate := Or.inl (gTB_t (gIn4 (List.mem_of_getElem? (i := 151) (by decide +kernel))) (by decide +kernel))
theorem lk_Mod_160 : gLk R_Mod 160 m_Mod_greatest := Or.inl (gTB_t (gIn4 (List.mem_of_getElem? (i := 155) (by decide +kernel))) (by decide +kernel))
theorem lk_Mod_153 : gLk R_Mod 153 m_Mod_signOf := Or.inl (gTB_t (gIn4 (List.mem_of_getElem? (i := 159) (by decide +kernel))) (by decide +kernel))
theorem lk_Mod_227 : gLk R_Mod 227 m_Mod_findBreaks := Or.inl (gTB_t (gIn4 (List.mem_of_getElem? (i := 163) (by decide +kernel))) (by decide +kernel))
theorem lk_Mod_166 : gLk R_Mod 166 m_Mod_addBreak := Or.inl (gTB_t (gIn4 (List.mem_of_getElem? (i := 167) (by decide +kernel))) (by decide +kernel))
theorem lk_Mod_230 : gLk R_Mod 230 m_Mod_solve := Or.inl (gTB_t (gIn4 (List.mem_of_getElem? (i := 171) (by decide +kernel))) (by decide +kernel))
theorem lk_Mod_191 : gLk R_Mod 191 m_Mod_measure := Or.inl (gTB_t (gIn4 (List.mem_of_getElem? (i := 176) (by decide +kernel))) (by decide +kernel))
theorem lk_Mod_195 : gLk R_Mod 195 m_Mod_price := Or.inl (gTB_t (gIn4 (List.mem_of_getElem? (i := 182) (by decide +kernel))) (by decide +kernel))
theorem lk_Mod_233 : gLk R_Mod 233 m_Mod_jot := Or.inl (gTB_t (gIn4 (List.mem_of_getElem? (i := 186) (by decide +kernel))) (by decide +kernel))
theorem lk_Law_48 : gLk R_Law 48 m_Mod_cost := Or.inl (gTB_t (gIn4 (List.mem_of_getElem? (i := 190) (by decide +kernel))) (by decide +kernel))
theorem lk_Law_52 : gLk R_Law 52 m_Mod_line := Or.inl (gTB_t (gIn4 (List.mem_of_getElem? (i := 194) (by decide +kernel))) (by decide +kernel))
theorem lk_Mod_236 : gLk R_Mod 236 m_Mod_isLine := Or.inl (gTB_t (gIn4 (List.mem_of_getElem? (i := 198) (by decide +kernel))) (by decide +kernel))
theorem lk_Law_56 : gLk R_Law 56 m_Mod_character := Or.inl (gTB_t (gIn4 (List.mem_of_getElem? (i := 202) (by decide +kernel))) (by decide +kernel))
theorem lk_Mod_239 : gLk R_Mod 239 m_Mod_characters := Or.inl (gTB_t (gIn4 (List.mem_of_getElem? (i := 206) (by decide +kernel))) (by decide +kernel))
theorem lk_Law_60 : gLk R_Law 60 m_Mod_place := Or.inl (gTB_t (gIn4 (List.mem_of_getElem? (i := 210) (by decide +kernel))) (by decide +kernel))
theorem lk_Law_64 : gLk R_Law 64 m_Mod_count := Or.inl (gTB_t (gIn4 (List.mem_of_getElem? (i := 214) (by decide +kernel))) (by decide +kernel))
theorem ft_Row_0 : gFt 0 0 true (.array .int) := ⟨R_Row, F_Row, 2, t_Row, rfl, t_Row_ok, n_Row, rfl, by decide +kernel⟩
theorem ft_Row_1 : gFt 0 1 false (.int) := ⟨R_Row, F_Row, 2, t_Row, rfl, t_Row_ok, n_Row, rfl, by decide +kernel⟩
theorem ins_Row : Cond.instantiable R_Row 2 ∈ gTB := gTB_t (gIn1 (List.mem_of_getElem? (i := 23) (by decide +kernel))) (by decide +kernel)
theorem ini_Row : Cond.initialized R_Row ∈ gTB := gTB_t (gIn1 (List.mem_of_getElem? (i := 2) (by decide +kernel))) (by decide +kernel)
theorem ft_Mac_0 : gFt 1 0 true (.object "ParagraphSetter$Row") := ⟨R_Mac, F_Mac, 2, t_Mac, rfl, t_Mac_ok, n_Mac, rfl, by decide +kernel⟩
theorem ft_Mac_1 : gFt 1 1 false (.boolean) := ⟨R_Mac, F_Mac, 2, t_Mac, rfl, t_Mac_ok, n_Mac, rfl, by decide +kernel⟩
theorem ins_Mac : Cond.instantiable R_Mac 2 ∈ gTB := gTB_t (gIn1 (List.mem_of_getElem? (i := 53) (by decide +kernel))) (by decide +kernel)
theorem ini_Mac : Cond.initialized R_Mac ∈ gTB := gTB_t (gIn1 (List.mem_of_getElem? (i := 4) (by decide +kernel))) (by decide +kernel)
theorem ft_Exp_0 : gFt 2 0 true (.array (.object "ParagraphSetter$Macro")) := ⟨R_Exp, F_Exp, 8, t_Exp, rfl, t_Exp_ok, n_Exp, rfl, by decide +kernel⟩
theorem ft_Exp_1 : gFt 2 1 true (.array .int) := ⟨R_Exp, F_Exp, 8, t_Exp, rfl, t_Exp_ok, n_Exp, rfl, by decide +kernel⟩
theorem ft_Exp_2 : gFt 2 2 false (.int) := ⟨R_Exp, F_Exp, 8, t_Exp, rfl, t_Exp_ok, n_Exp, rfl, by decide +kernel⟩
theorem ft_Exp_3 : gFt 2 3 true (.object "ParagraphSetter$Row") := ⟨R_Exp, F_Exp, 8, t_Exp, rfl, t_Exp_ok, n_Exp, rfl, by decide +kernel⟩
theorem ft_Exp_4 : gFt 2 4 true (.array .int) := ⟨R_Exp, F_Exp, 8, t_Exp, rfl, t_Exp_ok, n_Exp, rfl, by decide +kernel⟩
theorem ft_Exp_5 : gFt 2 5 false (.int) := ⟨R_Exp, F_Exp, 8, t_Exp, rfl, t_Exp_ok, n_Exp, rfl, by decide +kernel⟩
theorem ft_Exp_6 : gFt 2 6 false (.int) := ⟨R_Exp, F_Exp, 8, t_Exp, rfl, t_Exp_ok, n_Exp, rfl, by decide +kernel⟩
theorem ft_Exp_7 : gFt 2 7 false (.int) := ⟨R_Exp, F_Exp, 8, t_Exp, rfl, t_Exp_ok, n_Exp, rfl, by decide +kernel⟩
theorem ins_Exp : Cond.instantiable R_Exp 8 ∈ gTB := gTB_t (gIn1 (List.mem_of_getElem? (i := 44) (by decide +kernel))) (by decide +kernel)
theorem ini_Exp : Cond.initialized R_Exp ∈ gTB := gTB_t (gIn1 (List.mem_of_getElem? (i := 3) (by decide +kernel))) (by decide +kernel)
theorem ft_Txt_0 : gFt 3 0 true (.array .int) := ⟨R_Txt, F_Txt, 3, t_Txt, rfl, t_Txt_ok, n_Txt, rfl, by decide +kernel⟩
theorem ft_Txt_1 : gFt 3 1 true (.array .int) := ⟨R_Txt, F_Txt, 3, t_Txt, rfl, t_Txt_ok, n_Txt, rfl, by decide +kernel⟩
theorem ft_Txt_2 : gFt 3 2 false (.int) := ⟨R_Txt, F_Txt, 3, t_Txt, rfl, t_Txt_ok, n_Txt, rfl, by decide +kernel⟩
theorem ins_Txt : Cond.instantiable R_Txt 3 ∈ gTB := gTB_t (gIn1 (List.mem_of_getElem? (i := 157) (by decide +kernel))) (by decide +kernel)
theorem ini_Txt : Cond.initialized R_Txt ∈ gTB := gTB_t (gIn1 (List.mem_of_getElem? (i := 9) (by decide +kernel))) (by decide +kernel)
theorem ft_Pat_0 : gFt 4 0 true (.array .int) := ⟨R_Pat, F_Pat, 3, t_Pat, rfl, t_Pat_ok, n_Pat, rfl, by decide +kernel⟩
theorem ft_Pat_1 : gFt 4 1 true (.array .int) := ⟨R_Pat, F_Pat, 3, t_Pat, rfl, t_Pat_ok, n_Pat, rfl, by decide +kernel⟩
theorem ft_Pat_2 : gFt 4 2 false (.int) := ⟨R_Pat, F_Pat, 3, t_Pat, rfl, t_Pat_ok, n_Pat, rfl, by decide +kernel⟩
theorem ins_Pat : Cond.instantiable R_Pat 3 ∈ gTB := gTB_t (gIn1 (List.mem_of_getElem? (i := 104) (by decide +kernel))) (by decide +kernel)
theorem ini_Pat : Cond.initialized R_Pat ∈ gTB := gTB_t (gIn1 (List.mem_of_getElem? (i := 6) (by decide +kernel))) (by decide +kernel)
theorem ft_Hyp_0 : gFt 5 0 true (.array (.object "ParagraphSetter$Pattern")) := ⟨R_Hyp, F_Hyp, 3, t_Hyp, rfl, t_Hyp_ok, n_Hyp, rfl, by decide +kernel⟩
theorem ft_Hyp_1 : gFt 5 1 false (.int) := ⟨R_Hyp, F_Hyp, 3, t_Hyp, rfl, t_Hyp_ok, n_Hyp, rfl, by decide +kernel⟩
theorem ft_Hyp_2 : gFt 5 2 true (.array .int) := ⟨R_Hyp, F_Hyp, 3, t_Hyp, rfl, t_Hyp_ok, n_Hyp, rfl, by decide +kernel⟩
theorem ins_Hyp : Cond.instantiable R_Hyp 3 ∈ gTB := gTB_t (gIn1 (List.mem_of_getElem? (i := 97) (by decide +kernel))) (by decide +kernel)
theorem ini_Hyp : Cond.initialized R_Hyp ∈ gTB := gTB_t (gIn1 (List.mem_of_getElem? (i := 5) (by decide +kernel))) (by decide +kernel)
theorem ft_Brk_0 : gFt 6 0 true (.array .int) := ⟨R_Brk, F_Brk, 4, t_Brk, rfl, t_Brk_ok, n_Brk, rfl, by decide +kernel⟩
theorem ft_Brk_1 : gFt 6 1 true (.array .int) := ⟨R_Brk, F_Brk, 4, t_Brk, rfl, t_Brk_ok, n_Brk, rfl, by decide +kernel⟩
theorem ft_Brk_2 : gFt 6 2 true (.array .int) := ⟨R_Brk, F_Brk, 4, t_Brk, rfl, t_Brk_ok, n_Brk, rfl, by decide +kernel⟩
theorem ft_Brk_3 : gFt 6 3 false (.int) := ⟨R_Brk, F_Brk, 4, t_Brk, rfl, t_Brk_ok, n_Brk, rfl, by decide +kernel⟩
theorem ins_Brk : Cond.instantiable R_Brk 4 ∈ gTB := gTB_t (gIn1 (List.mem_of_getElem? (i := 183) (by decide +kernel))) (by decide +kernel)
theorem ini_Brk : Cond.initialized R_Brk ∈ gTB := gTB_t (gIn1 (List.mem_of_getElem? (i := 10) (by decide +kernel))) (by decide +kernel)
theorem ft_Sum_0 : gFt 7 0 true (.array .int) := ⟨R_Sum, F_Sum, 5, t_Sum, rfl, t_Sum_ok, n_Sum, rfl, by decide +kernel⟩
theorem ft_Sum_1 : gFt 7 1 true (.array .int) := ⟨R_Sum, F_Sum, 5, t_Sum, rfl, t_Sum_ok, n_Sum, rfl, by decide +kernel⟩
theorem ft_Sum_2 : gFt 7 2 true (.array .int) := ⟨R_Sum, F_Sum, 5, t_Sum, rfl, t_Sum_ok, n_Sum, rfl, by decide +kernel⟩
theorem ft_Sum_3 : gFt 7 3 true (.array .int) := ⟨R_Sum, F_Sum, 5, t_Sum, rfl, t_Sum_ok, n_Sum, rfl, by decide +kernel⟩
theorem ft_Sum_4 : gFt 7 4 true (.array .int) := ⟨R_Sum, F_Sum, 5, t_Sum, rfl, t_Sum_ok, n_Sum, rfl, by decide +kernel⟩
theorem ins_Sum : Cond.instantiable R_Sum 5 ∈ gTB := gTB_t (gIn1 (List.mem_of_getElem? (i := 209) (by decide +kernel))) (by decide +kernel)
theorem ini_Sum : Cond.initialized R_Sum ∈ gTB := gTB_t (gIn1 (List.mem_of_getElem? (i := 11) (by decide +kernel))) (by decide +kernel)
theorem ft_Stg_0 : gFt 8 0 true (.object "ParagraphSetter$Text") := ⟨R_Stg, F_Stg, 9, t_Stg, rfl, t_Stg_ok, n_Stg, rfl, by decide +kernel⟩
theorem ft_Stg_1 : gFt 8 1 true (.object "ParagraphSetter$Breaks") := ⟨R_Stg, F_Stg, 9, t_Stg, rfl, t_Stg_ok, n_Stg, rfl, by decide +kernel⟩
theorem ft_Stg_2 : gFt 8 2 true (.object "ParagraphSetter$Sums") := ⟨R_Stg, F_Stg, 9, t_Stg, rfl, t_Stg_ok, n_Stg, rfl, by decide +kernel⟩
theorem ft_Stg_3 : gFt 8 3 true (.array .int) := ⟨R_Stg, F_Stg, 9, t_Stg, rfl, t_Stg_ok, n_Stg, rfl, by decide +kernel⟩
theorem ft_Stg_4 : gFt 8 4 false (.int) := ⟨R_Stg, F_Stg, 9, t_Stg, rfl, t_Stg_ok, n_Stg, rfl, by decide +kernel⟩
theorem ft_Stg_5 : gFt 8 5 false (.int) := ⟨R_Stg, F_Stg, 9, t_Stg, rfl, t_Stg_ok, n_Stg, rfl, by decide +kernel⟩
theorem ft_Stg_6 : gFt 8 6 true (.array .int) := ⟨R_Stg, F_Stg, 9, t_Stg, rfl, t_Stg_ok, n_Stg, rfl, by decide +kernel⟩
theorem ft_Stg_7 : gFt 8 7 false (.int) := ⟨R_Stg, F_Stg, 9, t_Stg, rfl, t_Stg_ok, n_Stg, rfl, by decide +kernel⟩
theorem ft_Stg_8 : gFt 8 8 false (.long) := ⟨R_Stg, F_Stg, 9, t_Stg, rfl, t_Stg_ok, n_Stg, rfl, by decide +kernel⟩
theorem ins_Stg : Cond.instantiable R_Stg 9 ∈ gTB := gTB_t (gIn1 (List.mem_of_getElem? (i := 151) (by decide +kernel))) (by decide +kernel)
theorem ini_Stg : Cond.initialized R_Stg ∈ gTB := gTB_t (gIn1 (List.mem_of_getElem? (i := 8) (by decide +kernel))) (by decide +kernel)
theorem ft_Cho_0 : gFt 9 0 true (.array .long) := ⟨R_Cho, F_Cho, 3, t_Cho, rfl, t_Cho_ok, n_Cho, rfl, by decide +kernel⟩
theorem ft_Cho_1 : gFt 9 1 true (.array .int) := ⟨R_Cho, F_Cho, 3, t_Cho, rfl, t_Cho_ok, n_Cho, rfl, by decide +kernel⟩
theorem ft_Cho_2 : gFt 9 2 true (.array .int) := ⟨R_Cho, F_Cho, 3, t_Cho, rfl, t_Cho_ok, n_Cho, rfl, by decide +kernel⟩
theorem ins_Cho : Cond.instantiable R_Cho 3 ∈ gTB := gTB_t (gIn1 (List.mem_of_getElem? (i := 134) (by decide +kernel))) (by decide +kernel)
theorem ini_Cho : Cond.initialized R_Cho ∈ gTB := gTB_t (gIn1 (List.mem_of_getElem? (i := 7) (by decide +kernel))) (by decide +kernel)
theorem ft_PS_0 : gFt 10 0 true (.object "ParagraphSetter$Row") := ⟨R_PS, F_PS, 8, t_PS, rfl, t_PS_ok, n_PS, rfl, by decide +kernel⟩
theorem ft_PS_1 : gFt 10 1 true (.array .int) := ⟨R_PS, F_PS, 8, t_PS, rfl, t_PS_ok, n_PS, rfl, by decide +kernel⟩
theorem ft_PS_2 : gFt 10 2 true (.array .int) := ⟨R_PS, F_PS, 8, t_PS, rfl, t_PS_ok, n_PS, rfl, by decide +kernel⟩
theorem ft_PS_3 : gFt 10 3 true (.object "ParagraphSetter$Expander") := ⟨R_PS, F_PS, 8, t_PS, rfl, t_PS_ok, n_PS, rfl, by decide +kernel⟩
theorem ft_PS_4 : gFt 10 4 true (.object "ParagraphSetter$Hyphenator") := ⟨R_PS, F_PS, 8, t_PS, rfl, t_PS_ok, n_PS, rfl, by decide +kernel⟩
theorem ft_PS_5 : gFt 10 5 true (.object "ParagraphSetter$Chooser") := ⟨R_PS, F_PS, 8, t_PS, rfl, t_PS_ok, n_PS, rfl, by decide +kernel⟩
theorem ft_PS_6 : gFt 10 6 false (.object "ParagraphSetter$Setting") := ⟨R_PS, F_PS, 8, t_PS, rfl, t_PS_ok, n_PS, rfl, by decide +kernel⟩
theorem ft_PS_7 : gFt 10 7 false (.object "ParagraphSetter$Setting") := ⟨R_PS, F_PS, 8, t_PS, rfl, t_PS_ok, n_PS, rfl, by decide +kernel⟩
theorem ins_PS : Cond.instantiable R_PS 8 ∈ gTB := gTB_t (gIn1 (List.mem_of_getElem? (i := 15) (by decide +kernel))) (by decide +kernel)
theorem ini_PS : Cond.initialized R_PS ∈ gTB := gTB_t (gIn1 (List.mem_of_getElem? (i := 1) (by decide +kernel))) (by decide +kernel)
theorem ft_Mod_0 : gFt 11 0 true (.array .int) := ⟨R_Mod, F_Mod, 52, t_Mod, rfl, t_Mod_ok, n_Mod, rfl, by decide +kernel⟩
theorem ft_Mod_1 : gFt 11 1 false (.int) := ⟨R_Mod, F_Mod, 52, t_Mod, rfl, t_Mod_ok, n_Mod, rfl, by decide +kernel⟩
theorem ft_Mod_2 : gFt 11 2 true (.array .int) := ⟨R_Mod, F_Mod, 52, t_Mod, rfl, t_Mod_ok, n_Mod, rfl, by decide +kernel⟩
theorem ft_Mod_3 : gFt 11 3 true (.array .int) := ⟨R_Mod, F_Mod, 52, t_Mod, rfl, t_Mod_ok, n_Mod, rfl, by decide +kernel⟩
theorem ft_Mod_4 : gFt 11 4 true (.array .int) := ⟨R_Mod, F_Mod, 52, t_Mod, rfl, t_Mod_ok, n_Mod, rfl, by decide +kernel⟩
theorem ft_Mod_5 : gFt 11 5 true (.array .int) := ⟨R_Mod, F_Mod, 52, t_Mod, rfl, t_Mod_ok, n_Mod, rfl, by decide +kernel⟩
theorem ft_Mod_6 : gFt 11 6 true (.array .int) := ⟨R_Mod, F_Mod, 52, t_Mod, rfl, t_Mod_ok, n_Mod, rfl, by decide +kernel⟩
theorem ft_Mod_7 : gFt 11 7 true (.array .int) := ⟨R_Mod, F_Mod, 52, t_Mod, rfl, t_Mod_ok, n_Mod, rfl, by decide +kernel⟩
theorem ft_Mod_8 : gFt 11 8 true (.array .int) := ⟨R_Mod, F_Mod, 52, t_Mod, rfl, t_Mod_ok, n_Mod, rfl, by decide +kernel⟩
theorem ft_Mod_9 : gFt 11 9 false (.int) := ⟨R_Mod, F_Mod, 52, t_Mod, rfl, t_Mod_ok, n_Mod, rfl, by decide +kernel⟩
theorem ft_Mod_10 : gFt 11 10 true (.array .int) := ⟨R_Mod, F_Mod, 52, t_Mod, rfl, t_Mod_ok, n_Mod, rfl, by decide +kernel⟩
theorem ft_Mod_11 : gFt 11 11 true (.array .int) := ⟨R_Mod, F_Mod, 52, t_Mod, rfl, t_Mod_ok, n_Mod, rfl, by decide +kernel⟩
theorem ft_Mod_12 : gFt 11 12 true (.array .int) := ⟨R_Mod, F_Mod, 52, t_Mod, rfl, t_Mod_ok, n_Mod, rfl, by decide +kernel⟩
theorem ft_Mod_13 : gFt 11 13 true (.array .int) := ⟨R_Mod, F_Mod, 52, t_Mod, rfl, t_Mod_ok, n_Mod, rfl, by decide +kernel⟩
theorem ft_Mod_14 : gFt 11 14 false (.int) := ⟨R_Mod, F_Mod, 52, t_Mod, rfl, t_Mod_ok, n_Mod, rfl, by decide +kernel⟩
theorem ft_Mod_15 : gFt 11 15 false (.int) := ⟨R_Mod, F_Mod, 52, t_Mod, rfl, t_Mod_ok, n_Mod, rfl, by decide +kernel⟩
theorem ft_Mod_16 : gFt 11 16 false (.int) := ⟨R_Mod, F_Mod, 52, t_Mod, rfl, t_Mod_ok, n_Mod, rfl, by decide +kernel⟩
theorem ft_Mod_17 : gFt 11 17 true (.array .int) := ⟨R_Mod, F_Mod, 52, t_Mod, rfl, t_Mod_ok, n_Mod, rfl, by decide +kernel⟩
theorem ft_Mod_18 : gFt 11 18 true (.array .int) := ⟨R_Mod, F_Mod, 52, t_Mod, rfl, t_Mod_ok, n_Mod, rfl, by decide +kernel⟩
theorem ft_Mod_19 : gFt 11 19 true (.array .int) := ⟨R_Mod, F_Mod, 52, t_Mod, rfl, t_Mod_ok, n_Mod, rfl, by decide +kernel⟩
theorem ft_Mod_20 : gFt 11 20 true (.array .int) := ⟨R_Mod, F_Mod, 52, t_Mod, rfl, t_Mod_ok, n_Mod, rfl, by decide +kernel⟩
theorem ft_Mod_21 : gFt 11 21 true (.array .int) := ⟨R_Mod, F_Mod, 52, t_Mod, rfl, t_Mod_ok, n_Mod, rfl, by decide +kernel⟩
theorem ft_Mod_22 : gFt 11 22 false (.int) := ⟨R_Mod, F_Mod, 52, t_Mod, rfl, t_Mod_ok, n_Mod, rfl, by decide +kernel⟩
theorem ft_Mod_23 : gFt 11 23 false (.int) := ⟨R_Mod, F_Mod, 52, t_Mod, rfl, t_Mod_ok, n_Mod, rfl, by decide +kernel⟩
theorem ft_Mod_24 : gFt 11 24 true (.array .boolean) := ⟨R_Mod, F_Mod, 52, t_Mod, rfl, t_Mod_ok, n_Mod, rfl, by decide +kernel⟩
theorem ft_Mod_25 : gFt 11 25 true (.array .int) := ⟨R_Mod, F_Mod, 52, t_Mod, rfl, t_Mod_ok, n_Mod, rfl, by decide +kernel⟩
theorem ft_Mod_26 : gFt 11 26 true (.array .int) := ⟨R_Mod, F_Mod, 52, t_Mod, rfl, t_Mod_ok, n_Mod, rfl, by decide +kernel⟩
theorem ft_Mod_27 : gFt 11 27 true (.array .int) := ⟨R_Mod, F_Mod, 52, t_Mod, rfl, t_Mod_ok, n_Mod, rfl, by decide +kernel⟩
theorem ft_Mod_28 : gFt 11 28 false (.int) := ⟨R_Mod, F_Mod, 52, t_Mod, rfl, t_Mod_ok, n_Mod, rfl, by decide +kernel⟩
theorem ft_Mod_29 : gFt 11 29 false (.int) := ⟨R_Mod, F_Mod, 52, t_Mod, rfl, t_Mod_ok, n_Mod, rfl, by decide +kernel⟩
theorem ft_Mod_30 : gFt 11 30 true (.array .long) := ⟨R_Mod, F_Mod, 52, t_Mod, rfl, t_Mod_ok, n_Mod, rfl, by decide +kernel⟩
theorem ft_Mod_31 : gFt 11 31 true (.array .int) := ⟨R_Mod, F_Mod, 52, t_Mod, rfl, t_Mod_ok, n_Mod, rfl, by decide +kernel⟩
theorem ft_Mod_32 : gFt 11 32 true (.array .int) := ⟨R_Mod, F_Mod, 52, t_Mod, rfl, t_Mod_ok, n_Mod, rfl, by decide +kernel⟩
theorem ft_Mod_33 : gFt 11 33 false (.int) := ⟨R_Mod, F_Mod, 52, t_Mod, rfl, t_Mod_ok, n_Mod, rfl, by decide +kernel⟩
theorem ft_Mod_34 : gFt 11 34 false (.int) := ⟨R_Mod, F_Mod, 52, t_Mod, rfl, t_Mod_ok, n_Mod, rfl, by decide +kernel⟩
theorem ft_Mod_35 : gFt 11 35 false (.int) := ⟨R_Mod, F_Mod, 52, t_Mod, rfl, t_Mod_ok, n_Mod, rfl, by decide +kernel⟩
theorem ft_Mod_36 : gFt 11 36 false (.int) := ⟨R_Mod, F_Mod, 52, t_Mod, rfl, t_Mod_ok, n_Mod, rfl, by decide +kernel⟩
theorem ft_Mod_37 : gFt 11 37 false (.int) := ⟨R_Mod, F_Mod, 52, t_Mod, rfl, t_Mod_ok, n_Mod, rfl, by decide +kernel⟩
theorem ft_Mod_38 : gFt 11 38 true (.array .int) := ⟨R_Mod, F_Mod, 52, t_Mod, rfl, t_Mod_ok, n_Mod, rfl, by decide +kernel⟩
theorem ft_Mod_39 : gFt 11 39 true (.array .int) := ⟨R_Mod, F_Mod, 52, t_Mod, rfl, t_Mod_ok, n_Mod, rfl, by decide +kernel⟩
theorem ft_Mod_40 : gFt 11 40 true (.array .int) := ⟨R_Mod, F_Mod, 52, t_Mod, rfl, t_Mod_ok, n_Mod, rfl, by decide +kernel⟩
theorem ft_Mod_41 : gFt 11 41 true (.array .int) := ⟨R_Mod, F_Mod, 52, t_Mod, rfl, t_Mod_ok, n_Mod, rfl, by decide +kernel⟩
theorem ft_Mod_42 : gFt 11 42 true (.array .int) := ⟨R_Mod, F_Mod, 52, t_Mod, rfl, t_Mod_ok, n_Mod, rfl, by decide +kernel⟩
theorem ft_Mod_43 : gFt 11 43 true (.array .int) := ⟨R_Mod, F_Mod, 52, t_Mod, rfl, t_Mod_ok, n_Mod, rfl, by decide +kernel⟩
theorem ft_Mod_44 : gFt 11 44 true (.array .int) := ⟨R_Mod, F_Mod, 52, t_Mod, rfl, t_Mod_ok, n_Mod, rfl, by decide +kernel⟩
theorem ft_Mod_45 : gFt 11 45 true (.array .int) := ⟨R_Mod, F_Mod, 52, t_Mod, rfl, t_Mod_ok, n_Mod, rfl, by decide +kernel⟩
theorem ft_Mod_46 : gFt 11 46 true (.array .int) := ⟨R_Mod, F_Mod, 52, t_Mod, rfl, t_Mod_ok, n_Mod, rfl, by decide +kernel⟩
theorem ft_Mod_47 : gFt 11 47 false (.int) := ⟨R_Mod, F_Mod, 52, t_Mod, rfl, t_Mod_ok, n_Mod, rfl, by decide +kernel⟩
theorem ft_Mod_48 : gFt 11 48 false (.int) := ⟨R_Mod, F_Mod, 52, t_Mod, rfl, t_Mod_ok, n_Mod, rfl, by decide +kernel⟩
theorem ft_Mod_49 : gFt 11 49 false (.int) := ⟨R_Mod, F_Mod, 52, t_Mod, rfl, t_Mod_ok, n_Mod, rfl, by decide +kernel⟩
theorem ft_Mod_50 : gFt 11 50 false (.int) := ⟨R_Mod, F_Mod, 52, t_Mod, rfl, t_Mod_ok, n_Mod, rfl, by decide +kernel⟩
theorem ft_Mod_51 : gFt 11 51 false (.long) := ⟨R_Mod, F_Mod, 52, t_Mod, rfl, t_Mod_ok, n_Mod, rfl, by decide +kernel⟩
theorem ins_Mod : Cond.instantiable R_Mod 52 ∈ gTB := gTB_t (gIn3 (List.mem_of_getElem? (i := 170) (by decide +kernel))) (by decide +kernel)
theorem ini_Mod : Cond.initialized R_Mod ∈ gTB := gTB_t (gIn1 (List.mem_of_getElem? (i := 12) (by decide +kernel))) (by decide +kernel)
theorem ac_int : Cond.arrayClass .int ∈ gTB := gTB_t (gIn1 (List.mem_of_getElem? (i := 40) (by decide +kernel))) (by decide +kernel)
theorem ao_Mac : Cond.arrayOver (.object "ParagraphSetter$Macro") ∈ gNW := gNW_in (gIn1 (List.mem_of_getElem? (i := 50) (by decide +kernel))) rfl
theorem ao_Pat : Cond.arrayOver (.object "ParagraphSetter$Pattern") ∈ gNW := gNW_in (gIn1 (List.mem_of_getElem? (i := 103) (by decide +kernel))) rfl
theorem ac_long : Cond.arrayClass .long ∈ gTB := gTB_t (gIn1 (List.mem_of_getElem? (i := 149) (by decide +kernel))) (by decide +kernel)
theorem ac_boolean : Cond.arrayClass .boolean ∈ gTB := gTB_t (gIn4 (List.mem_of_getElem? (i := 92) (by decide +kernel))) (by decide +kernel)
theorem ob_im : Cond.instanceMethod Lib.objectInit ∈ gTB := gTB_t (gIn1 (List.mem_of_getElem? (i := 20) (by decide +kernel))) (by decide +kernel)
theorem ob_co : Cond.code Lib.objectInit ⟨#[0xb1]⟩ 1 none ∈ gTB := gTB_t (gIn1 (List.mem_of_getElem? (i := 21) (by decide +kernel))) (by decide +kernel)
end
section
theorem d_Row_init_0 : decode b_Row_init 0 = .ok (.aload_n 0, 1) := by decide +kernel
theorem d_Row_init_1 : decode b_Row_init 1 = .ok (.invokespecial 1, 3) := by decide +kernel
theorem d_Row_init_4 : decode b_Row_init 4 = .ok (.aload_n 0, 1) := by decide +kernel
theorem d_Row_init_5 : decode b_Row_init 5 = .ok (.iload_n 1, 1) := by decide +kernel
theorem d_Row_init_6 : decode b_Row_init 6 = .ok (.newarray .int, 2) := by decide +kernel
theorem d_Row_init_8 : decode b_Row_init 8 = .ok (.putfield 7, 3) := by decide +kernel
theorem d_Row_init_11 : decode b_Row_init 11 = .ok (.aload_n 0, 1) := by decide +kernel
theorem d_Row_init_12 : decode b_Row_init 12 = .ok (.iconst 0, 1) := by decide +kernel
theorem d_Row_init_13 : decode b_Row_init 13 = .ok (.putfield 13, 3) := by decide +kernel
theorem d_Row_init_16 : decode b_Row_init 16 = .ok (.return_, 1) := by decide +kernel
theorem d_Exp_init_0 : decode b_Exp_init 0 = .ok (.aload_n 0, 1) := by decide +kernel
theorem d_Exp_init_1 : decode b_Exp_init 1 = .ok (.invokespecial 3, 3) := by decide +kernel
theorem d_Exp_init_4 : decode b_Exp_init 4 = .ok (.aload_n 0, 1) := by decide +kernel
theorem d_Exp_init_5 : decode b_Exp_init 5 = .ok (.iconst 4, 1) := by decide +kernel
theorem d_Exp_init_6 : decode b_Exp_init 6 = .ok (.anewarray 9, 3) := by decide +kernel
theorem d_Exp_init_9 : decode b_Exp_init 9 = .ok (.putfield 11, 3) := by decide +kernel
theorem d_Exp_init_12 : decode b_Exp_init 12 = .ok (.aload_n 0, 1) := by decide +kernel
theorem d_Exp_init_13 : decode b_Exp_init 13 = .ok (.sipush 200, 3) := by decide +kernel
theorem d_Exp_init_16 : decode b_Exp_init 16 = .ok (.newarray .int, 2) := by decide +kernel
theorem d_Exp_init_18 : decode b_Exp_init 18 = .ok (.putfield 17, 3) := by decide +kernel
theorem d_Exp_init_21 : decode b_Exp_init 21 = .ok (.aload_n 0, 1) := by decide +kernel
theorem d_Exp_init_22 : decode b_Exp_init 22 = .ok (.new 21, 3) := by decide +kernel
theorem d_Exp_init_25 : decode b_Exp_init 25 = .ok (.dup, 1) := by decide +kernel
theorem d_Exp_init_26 : decode b_Exp_init 26 = .ok (.sipush 200, 3) := by decide +kernel
theorem d_Exp_init_29 : decode b_Exp_init 29 = .ok (.invokespecial 23, 3) := by decide +kernel
theorem d_Exp_init_32 : decode b_Exp_init 32 = .ok (.putfield 26, 3) := by decide +kernel
theorem d_Exp_init_35 : decode b_Exp_init 35 = .ok (.aload_n 0, 1) := by decide +kernel
theorem d_Exp_init_36 : decode b_Exp_init 36 = .ok (.bipush 8, 2) := by decide +kernel
theorem d_Exp_init_38 : decode b_Exp_init 38 = .ok (.newarray .int, 2) := by decide +kernel
theorem d_Exp_init_40 : decode b_Exp_init 40 = .ok (.putfield 30, 3) := by decide +kernel
theorem d_Exp_init_43 : decode b_Exp_init 43 = .ok (.iconst 0, 1) := by decide +kernel
theorem d_Exp_init_44 : decode b_Exp_init 44 = .ok (.istore_n 1, 1) := by decide +kernel
theorem d_Exp_init_45 : decode b_Exp_init 45 = .ok (.iload_n 1, 1) := by decide +kernel
theorem d_Exp_init_46 : decode b_Exp_init 46 = .ok (.iconst 4, 1) := by decide +kernel
theorem d_Exp_init_47 : decode b_Exp_init 47 = .ok (.if_icmp .ge 22, 3) := by decide +kernel
theorem d_Exp_init_50 : decode b_Exp_init 50 = .ok (.aload_n 0, 1) := by decide +kernel
theorem d_Exp_init_51 : decode b_Exp_init 51 = .ok (.getfield 11, 3) := by decide +kernel
theorem d_Exp_init_54 : decode b_Exp_init 54 = .ok (.iload_n 1, 1) := by decide +kernel
theorem d_Exp_init_55 : decode b_Exp_init 55 = .ok (.new 9, 3) := by decide +kernel
theorem d_Exp_init_58 : decode b_Exp_init 58 = .ok (.dup, 1) := by decide +kernel
theorem d_Exp_init_59 : decode b_Exp_init 59 = .ok (.invokespecial 33, 3) := by decide +kernel
theorem d_Exp_init_62 : decode b_Exp_init 62 = .ok (.aastore, 1) := by decide +kernel
theorem d_Exp_init_63 : decode b_Exp_init 63 = .ok (.iinc 1 1, 3) := by decide +kernel
theorem d_Exp_init_66 : decode b_Exp_init 66 = .ok (.goto (-21), 3) := by decide +kernel
theorem d_Exp_init_69 : decode b_Exp_init 69 = .ok (.return_, 1) := by decide +kernel
theorem d_Mac_init_0 : decode b_Mac_init 0 = .ok (.aload_n 0, 1) := by decide +kernel
theorem d_Mac_init_1 : decode b_Mac_init 1 = .ok (.invokespecial 3, 3) := by decide +kernel
theorem d_Mac_init_4 : decode b_Mac_init 4 = .ok (.aload_n 0, 1) := by decide +kernel
theorem d_Mac_init_5 : decode b_Mac_init 5 = .ok (.new 9, 3) := by decide +kernel
theorem d_Mac_init_8 : decode b_Mac_init 8 = .ok (.dup, 1) := by decide +kernel
theorem d_Mac_init_9 : decode b_Mac_init 9 = .ok (.bipush 24, 2) := by decide +kernel
theorem d_Mac_init_11 : decode b_Mac_init 11 = .ok (.invokespecial 11, 3) := by decide +kernel
theorem d_Mac_init_14 : decode b_Mac_init 14 = .ok (.putfield 14, 3) := by decide +kernel
theorem d_Mac_init_17 : decode b_Mac_init 17 = .ok (.aload_n 0, 1) := by decide +kernel
theorem d_Mac_init_18 : decode b_Mac_init 18 = .ok (.iconst 0, 1) := by decide +kernel
theorem d_Mac_init_19 : decode b_Mac_init 19 = .ok (.putfield 20, 3) := by decide +kernel
theorem d_Mac_init_22 : decode b_Mac_init 22 = .ok (.return_, 1) := by decide +kernel
theorem d_Row_isFull_0 : decode b_Row_isFull 0 = .ok (.aload_n 0, 1) := by decide +kernel
theorem d_Row_isFull_1 : decode b_Row_isFull 1 = .ok (.getfield 13, 3) := by decide +kernel
theorem d_Row_isFull_4 : decode b_Row_isFull 4 = .ok (.aload_n 0, 1) := by decide +kernel
theorem d_Row_isFull_5 : decode b_Row_isFull 5 = .ok (.getfield 7, 3) := by decide +kernel
theorem d_Row_isFull_8 : decode b_Row_isFull 8 = .ok (.arraylength, 1) := by decide +kernel
theorem d_Row_isFull_9 : decode b_Row_isFull 9 = .ok (.if_icmp .ne 7, 3) := by decide +kernel
theorem d_Row_isFull_12 : decode b_Row_isFull 12 = .ok (.iconst 1, 1) := by decide +kernel
theorem d_Row_isFull_13 : decode b_Row_isFull 13 = .ok (.goto 4, 3) := by decide +kernel
theorem d_Row_isFull_16 : decode b_Row_isFull 16 = .ok (.iconst 0, 1) := by decide +kernel
theorem d_Row_isFull_17 : decode b_Row_isFull 17 = .ok (.ireturn, 1) := by decide +kernel
theorem d_Row_add_0 : decode b_Row_add 0 = .ok (.aload_n 0, 1) := by decide +kernel
theorem d_Row_add_1 : decode b_Row_add 1 = .ok (.getfield 13, 3) := by decide +kernel
theorem d_Row_add_4 : decode b_Row_add 4 = .ok (.aload_n 0, 1) := by decide +kernel
theorem d_Row_add_5 : decode b_Row_add 5 = .ok (.getfield 7, 3) := by decide +kernel
theorem d_Row_add_8 : decode b_Row_add 8 = .ok (.arraylength, 1) := by decide +kernel
theorem d_Row_add_9 : decode b_Row_add 9 = .ok (.if_icmp .ge 23, 3) := by decide +kernel
theorem d_Row_add_12 : decode b_Row_add 12 = .ok (.aload_n 0, 1) := by decide +kernel
theorem d_Row_add_13 : decode b_Row_add 13 = .ok (.getfield 7, 3) := by decide +kernel
theorem d_Row_add_16 : decode b_Row_add 16 = .ok (.aload_n 0, 1) := by decide +kernel
theorem d_Row_add_17 : decode b_Row_add 17 = .ok (.getfield 13, 3) := by decide +kernel
theorem d_Row_add_20 : decode b_Row_add 20 = .ok (.iload_n 1, 1) := by decide +kernel
theorem d_Row_add_21 : decode b_Row_add 21 = .ok (.iastore, 1) := by decide +kernel
theorem d_Row_add_22 : decode b_Row_add 22 = .ok (.aload_n 0, 1) := by decide +kernel
theorem d_Row_add_23 : decode b_Row_add 23 = .ok (.dup, 1) := by decide +kernel
theorem d_Row_add_24 : decode b_Row_add 24 = .ok (.getfield 13, 3) := by decide +kernel
theorem d_Row_add_27 : decode b_Row_add 27 = .ok (.iconst 1, 1) := by decide +kernel
theorem d_Row_add_28 : decode b_Row_add 28 = .ok (.iadd, 1) := by decide +kernel
theorem d_Row_add_29 : decode b_Row_add 29 = .ok (.putfield 13, 3) := by decide +kernel
theorem d_Row_add_32 : decode b_Row_add 32 = .ok (.return_, 1) := by decide +kernel
theorem d_Row_clear_0 : decode b_Row_clear 0 = .ok (.aload_n 0, 1) := by decide +kernel
theorem d_Row_clear_1 : decode b_Row_clear 1 = .ok (.iconst 0, 1) := by decide +kernel
theorem d_Row_clear_2 : decode b_Row_clear 2 = .ok (.putfield 13, 3) := by decide +kernel
theorem d_Row_clear_5 : decode b_Row_clear 5 = .ok (.return_, 1) := by decide +kernel
theorem d_Mac_become_0 : decode b_Mac_become 0 = .ok (.aload_n 0, 1) := by decide +kernel
theorem d_Mac_become_1 : decode b_Mac_become 1 = .ok (.getfield 14, 3) := by decide +kernel
theorem d_Mac_become_4 : decode b_Mac_become 4 = .ok (.aload_n 1, 1) := by decide +kernel
theorem d_Mac_become_5 : decode b_Mac_become 5 = .ok (.invokevirtual 24, 3) := by decide +kernel
theorem d_Mac_become_8 : decode b_Mac_become 8 = .ok (.aload_n 0, 1) := by decide +kernel
theorem d_Mac_become_9 : decode b_Mac_become 9 = .ok (.iconst 1, 1) := by decide +kernel
theorem d_Mac_become_10 : decode b_Mac_become 10 = .ok (.putfield 20, 3) := by decide +kernel
theorem d_Mac_become_13 : decode b_Mac_become 13 = .ok (.return_, 1) := by decide +kernel
theorem d_Row_become_0 : decode b_Row_become 0 = .ok (.aload_n 0, 1) := by decide +kernel
theorem d_Row_become_1 : decode b_Row_become 1 = .ok (.invokevirtual 17, 3) := by decide +kernel
theorem d_Row_become_4 : decode b_Row_become 4 = .ok (.iconst 0, 1) := by decide +kernel
theorem d_Row_become_5 : decode b_Row_become 5 = .ok (.istore_n 2, 1) := by decide +kernel
theorem d_Row_become_6 : decode b_Row_become 6 = .ok (.iload_n 2, 1) := by decide +kernel
theorem d_Row_become_7 : decode b_Row_become 7 = .ok (.aload_n 1, 1) := by decide +kernel
theorem d_Row_become_8 : decode b_Row_become 8 = .ok (.getfield 13, 3) := by decide +kernel
theorem d_Row_become_11 : decode b_Row_become 11 = .ok (.if_icmp .ge 19, 3) := by decide +kernel
theorem d_Row_become_14 : decode b_Row_become 14 = .ok (.aload_n 0, 1) := by decide +kernel
theorem d_Row_become_15 : decode b_Row_become 15 = .ok (.aload_n 1, 1) := by decide +kernel
theorem d_Row_become_16 : decode b_Row_become 16 = .ok (.getfield 7, 3) := by decide +kernel
theorem d_Row_become_19 : decode b_Row_become 19 = .ok (.iload_n 2, 1) := by decide +kernel
theorem d_Row_become_20 : decode b_Row_become 20 = .ok (.iaload, 1) := by decide +kernel
theorem d_Row_become_21 : decode b_Row_become 21 = .ok (.invokevirtual 20, 3) := by decide +kernel
theorem d_Row_become_24 : decode b_Row_become 24 = .ok (.iinc 2 1, 3) := by decide +kernel
theorem d_Row_become_27 : decode b_Row_become 27 = .ok (.goto (-21), 3) := by decide +kernel
theorem d_Row_become_30 : decode b_Row_become 30 = .ok (.return_, 1) := by decide +kernel
theorem d_Exp_expand_0 : decode b_Exp_expand 0 = .ok (.aload_n 0, 1) := by decide +kernel
theorem d_Exp_expand_1 : decode b_Exp_expand 1 = .ok (.aload_n 1, 1) := by decide +kernel
theorem d_Exp_expand_2 : decode b_Exp_expand 2 = .ok (.invokevirtual 34, 3) := by decide +kernel
theorem d_Exp_expand_5 : decode b_Exp_expand 5 = .ok (.aload_n 2, 1) := by decide +kernel
theorem d_Exp_expand_6 : decode b_Exp_expand 6 = .ok (.iconst 0, 1) := by decide +kernel
theorem d_Exp_expand_7 : decode b_Exp_expand 7 = .ok (.putfield 38, 3) := by decide +kernel
theorem d_Exp_expand_10 : decode b_Exp_expand 10 = .ok (.iconst 0, 1) := by decide +kernel
theorem d_Exp_expand_11 : decode b_Exp_expand 11 = .ok (.istore_n 3, 1) := by decide +kernel
theorem d_Exp_expand_12 : decode b_Exp_expand 12 = .ok (.iload_n 3, 1) := by decide +kernel
theorem d_Exp_expand_13 : decode b_Exp_expand 13 = .ok (.sipush 8060, 3) := by decide +kernel
theorem d_Exp_expand_16 : decode b_Exp_expand 16 = .ok (.if_icmp .ge 35, 3) := by decide +kernel
theorem d_Exp_expand_19 : decode b_Exp_expand 19 = .ok (.aload_n 0, 1) := by decide +kernel
theorem d_Exp_expand_20 : decode b_Exp_expand 20 = .ok (.invokevirtual 44, 3) := by decide +kernel
theorem d_Exp_expand_23 : decode b_Exp_expand 23 = .ok (.ifCond .ne 28, 3) := by decide +kernel
theorem d_Exp_expand_26 : decode b_Exp_expand 26 = .ok (.aload_n 0, 1) := by decide +kernel
theorem d_Exp_expand_27 : decode b_Exp_expand 27 = .ok (.aload_n 0, 1) := by decide +kernel
theorem d_Exp_expand_28 : decode b_Exp_expand 28 = .ok (.invokevirtual 48, 3) := by decide +kernel
theorem d_Exp_expand_31 : decode b_Exp_expand 31 = .ok (.aload_n 2, 1) := by decide +kernel
theorem d_Exp_expand_32 : decode b_Exp_expand 32 = .ok (.invokevirtual 52, 3) := by decide +kernel
theorem d_Exp_expand_35 : decode b_Exp_expand 35 = .ok (.istore 4, 2) := by decide +kernel
theorem d_Exp_expand_37 : decode b_Exp_expand 37 = .ok (.iload 4, 2) := by decide +kernel
theorem d_Exp_expand_39 : decode b_Exp_expand 39 = .ok (.ifCond .eq 6, 3) := by decide +kernel
theorem d_Exp_expand_42 : decode b_Exp_expand 42 = .ok (.iload 4, 2) := by decide +kernel
theorem d_Exp_expand_44 : decode b_Exp_expand 44 = .ok (.ireturn, 1) := by decide +kernel
theorem d_Exp_expand_45 : decode b_Exp_expand 45 = .ok (.iinc 3 1, 3) := by decide +kernel
theorem d_Exp_expand_48 : decode b_Exp_expand 48 = .ok (.goto (-36), 3) := by decide +kernel
theorem d_Exp_expand_51 : decode b_Exp_expand 51 = .ok (.aload_n 0, 1) := by decide +kernel
theorem d_Exp_expand_52 : decode b_Exp_expand 52 = .ok (.getfield 56, 3) := by decide +kernel
theorem d_Exp_expand_55 : decode b_Exp_expand 55 = .ok (.ifCond .le 8, 3) := by decide +kernel
theorem d_Exp_expand_58 : decode b_Exp_expand 58 = .ok (.bipush (-3), 2) := by decide +kernel
theorem d_Exp_expand_60 : decode b_Exp_expand 60 = .ok (.goto 4, 3) := by decide +kernel
theorem d_Exp_expand_63 : decode b_Exp_expand 63 = .ok (.iconst 0, 1) := by decide +kernel
theorem d_Exp_expand_64 : decode b_Exp_expand 64 = .ok (.ireturn, 1) := by decide +kernel
theorem d_Exp_begin_0 : decode b_Exp_begin 0 = .ok (.aload_n 0, 1) := by decide +kernel
theorem d_Exp_begin_1 : decode b_Exp_begin 1 = .ok (.sipush 200, 3) := by decide +kernel
theorem d_Exp_begin_4 : decode b_Exp_begin 4 = .ok (.aload_n 1, 1) := by decide +kernel
theorem d_Exp_begin_5 : decode b_Exp_begin 5 = .ok (.getfield 59, 3) := by decide +kernel
theorem d_Exp_begin_8 : decode b_Exp_begin 8 = .ok (.isub, 1) := by decide +kernel
theorem d_Exp_begin_9 : decode b_Exp_begin 9 = .ok (.putfield 60, 3) := by decide +kernel
theorem d_Exp_begin_12 : decode b_Exp_begin 12 = .ok (.iconst 0, 1) := by decide +kernel
theorem d_Exp_begin_13 : decode b_Exp_begin 13 = .ok (.istore_n 2, 1) := by decide +kernel
theorem d_Exp_begin_14 : decode b_Exp_begin 14 = .ok (.iload_n 2, 1) := by decide +kernel
theorem d_Exp_begin_15 : decode b_Exp_begin 15 = .ok (.aload_n 1, 1) := by decide +kernel
theorem d_Exp_begin_16 : decode b_Exp_begin 16 = .ok (.getfield 59, 3) := by decide +kernel
theorem d_Exp_begin_19 : decode b_Exp_begin 19 = .ok (.if_icmp .ge 26, 3) := by decide +kernel
theorem d_Exp_begin_22 : decode b_Exp_begin 22 = .ok (.aload_n 0, 1) := by decide +kernel
theorem d_Exp_begin_23 : decode b_Exp_begin 23 = .ok (.getfield 17, 3) := by decide +kernel
theorem d_Exp_begin_26 : decode b_Exp_begin 26 = .ok (.aload_n 0, 1) := by decide +kernel
theorem d_Exp_begin_27 : decode b_Exp_begin 27 = .ok (.getfield 60, 3) := by decide +kernel
theorem d_Exp_begin_30 : decode b_Exp_begin 30 = .ok (.iload_n 2, 1) := by decide +kernel
theorem d_Exp_begin_31 : decode b_Exp_begin 31 = .ok (.iadd, 1) := by decide +kernel
theorem d_Exp_begin_32 : decode b_Exp_begin 32 = .ok (.aload_n 1, 1) := by decide +kernel
theorem d_Exp_begin_33 : decode b_Exp_begin 33 = .ok (.getfield 63, 3) := by decide +kernel
theorem d_Exp_begin_36 : decode b_Exp_begin 36 = .ok (.iload_n 2, 1) := by decide +kernel
theorem d_Exp_begin_37 : decode b_Exp_begin 37 = .ok (.iaload, 1) := by decide +kernel
theorem d_Exp_begin_38 : decode b_Exp_begin 38 = .ok (.iastore, 1) := by decide +kernel
theorem d_Exp_begin_39 : decode b_Exp_begin 39 = .ok (.iinc 2 1, 3) := by decide +kernel
theorem d_Exp_begin_42 : decode b_Exp_begin 42 = .ok (.goto (-28), 3) := by decide +kernel
theorem d_Exp_begin_45 : decode b_Exp_begin 45 = .ok (.aload_n 0, 1) := by decide +kernel
theorem d_Exp_begin_46 : decode b_Exp_begin 46 = .ok (.iconst 0, 1) := by decide +kernel
theorem d_Exp_begin_47 : decode b_Exp_begin 47 = .ok (.putfield 56, 3) := by decide +kernel
theorem d_Exp_begin_50 : decode b_Exp_begin 50 = .ok (.aload_n 0, 1) := by decide +kernel
theorem d_Exp_begin_51 : decode b_Exp_begin 51 = .ok (.iconst 4, 1) := by decide +kernel
theorem d_Exp_begin_52 : decode b_Exp_begin 52 = .ok (.putfield 66, 3) := by decide +kernel
theorem d_Exp_begin_55 : decode b_Exp_begin 55 = .ok (.aload_n 0, 1) := by decide +kernel
theorem d_Exp_begin_56 : decode b_Exp_begin 56 = .ok (.iconst 0, 1) := by decide +kernel
theorem d_Exp_begin_57 : decode b_Exp_begin 57 = .ok (.putfield 69, 3) := by decide +kernel
theorem d_Exp_begin_60 : decode b_Exp_begin 60 = .ok (.return_, 1) := by decide +kernel
theorem d_Exp_isListEmpty_0 : decode b_Exp_isListEmpty 0 = .ok (.aload_n 0, 1) := by decide +kernel
theorem d_Exp_isListEmpty_1 : decode b_Exp_isListEmpty 1 = .ok (.getfield 60, 3) := by decide +kernel
theorem d_Exp_isListEmpty_4 : decode b_Exp_isListEmpty 4 = .ok (.sipush 200, 3) := by decide +kernel
theorem d_Exp_isListEmpty_7 : decode b_Exp_isListEmpty 7 = .ok (.if_icmp .lt 7, 3) := by decide +kernel
theorem d_Exp_isListEmpty_10 : decode b_Exp_isListEmpty 10 = .ok (.iconst 1, 1) := by decide +kernel
theorem d_Exp_isListEmpty_11 : decode b_Exp_isListEmpty 11 = .ok (.goto 4, 3) := by decide +kernel
theorem d_Exp_isListEmpty_14 : decode b_Exp_isListEmpty 14 = .ok (.iconst 0, 1) := by decide +kernel
theorem d_Exp_isListEmpty_15 : decode b_Exp_isListEmpty 15 = .ok (.ireturn, 1) := by decide +kernel
theorem d_Exp_takeOff_0 : decode b_Exp_takeOff 0 = .ok (.aload_n 0, 1) := by decide +kernel
theorem d_Exp_takeOff_1 : decode b_Exp_takeOff 1 = .ok (.getfield 17, 3) := by decide +kernel
theorem d_Exp_takeOff_4 : decode b_Exp_takeOff 4 = .ok (.aload_n 0, 1) := by decide +kernel
theorem d_Exp_takeOff_5 : decode b_Exp_takeOff 5 = .ok (.getfield 60, 3) := by decide +kernel
theorem d_Exp_takeOff_8 : decode b_Exp_takeOff 8 = .ok (.iaload, 1) := by decide +kernel
theorem d_Exp_takeOff_9 : decode b_Exp_takeOff 9 = .ok (.istore_n 1, 1) := by decide +kernel
theorem d_Exp_takeOff_10 : decode b_Exp_takeOff 10 = .ok (.aload_n 0, 1) := by decide +kernel
theorem d_Exp_takeOff_11 : decode b_Exp_takeOff 11 = .ok (.dup, 1) := by decide +kernel
theorem d_Exp_takeOff_12 : decode b_Exp_takeOff 12 = .ok (.getfield 60, 3) := by decide +kernel
theorem d_Exp_takeOff_15 : decode b_Exp_takeOff 15 = .ok (.iconst 1, 1) := by decide +kernel
theorem d_Exp_takeOff_16 : decode b_Exp_takeOff 16 = .ok (.iadd, 1) := by decide +kernel
theorem d_Exp_takeOff_17 : decode b_Exp_takeOff 17 = .ok (.putfield 60, 3) := by decide +kernel
theorem d_Exp_takeOff_20 : decode b_Exp_takeOff 20 = .ok (.iload_n 1, 1) := by decide +kernel
theorem d_Exp_takeOff_21 : decode b_Exp_takeOff 21 = .ok (.ireturn, 1) := by decide +kernel
theorem d_Exp_obey_0 : decode b_Exp_obey 0 = .ok (.iload_n 1, 1) := by decide +kernel
theorem d_Exp_obey_1 : decode b_Exp_obey 1 = .ok (.invokestatic 72, 3) := by decide +kernel
theorem d_Exp_obey_4 : decode b_Exp_obey 4 = .ok (.ifCond .eq 17, 3) := by decide +kernel
theorem d_Exp_obey_7 : decode b_Exp_obey 7 = .ok (.aload_n 0, 1) := by decide +kernel
theorem d_Exp_obey_8 : decode b_Exp_obey 8 = .ok (.aload_n 0, 1) := by decide +kernel
theorem d_Exp_obey_9 : decode b_Exp_obey 9 = .ok (.getfield 11, 3) := by decide +kernel
theorem d_Exp_obey_12 : decode b_Exp_obey 12 = .ok (.iload_n 1, 1) := by decide +kernel
theorem d_Exp_obey_13 : decode b_Exp_obey 13 = .ok (.bipush 65, 2) := by decide +kernel
theorem d_Exp_obey_15 : decode b_Exp_obey 15 = .ok (.isub, 1) := by decide +kernel
theorem d_Exp_obey_16 : decode b_Exp_obey 16 = .ok (.aaload, 1) := by decide +kernel
theorem d_Exp_obey_17 : decode b_Exp_obey 17 = .ok (.invokevirtual 76, 3) := by decide +kernel
theorem d_Exp_obey_20 : decode b_Exp_obey 20 = .ok (.ireturn, 1) := by decide +kernel
theorem d_Exp_obey_21 : decode b_Exp_obey 21 = .ok (.iload_n 1, 1) := by decide +kernel
theorem d_Exp_obey_22 : decode b_Exp_obey 22 = .ok (.bipush 123, 2) := by decide +kernel
theorem d_Exp_obey_24 : decode b_Exp_obey 24 = .ok (.if_icmp .ne 8, 3) := by decide +kernel
theorem d_Exp_obey_27 : decode b_Exp_obey 27 = .ok (.aload_n 0, 1) := by decide +kernel
theorem d_Exp_obey_28 : decode b_Exp_obey 28 = .ok (.invokevirtual 80, 3) := by decide +kernel
theorem d_Exp_obey_31 : decode b_Exp_obey 31 = .ok (.ireturn, 1) := by decide +kernel
theorem d_Exp_obey_32 : decode b_Exp_obey 32 = .ok (.iload_n 1, 1) := by decide +kernel
theorem d_Exp_obey_33 : decode b_Exp_obey 33 = .ok (.bipush 125, 2) := by decide +kernel
theorem d_Exp_obey_35 : decode b_Exp_obey 35 = .ok (.if_icmp .ne 8, 3) := by decide +kernel
theorem d_Exp_obey_38 : decode b_Exp_obey 38 = .ok (.aload_n 0, 1) := by decide +kernel
theorem d_Exp_obey_39 : decode b_Exp_obey 39 = .ok (.invokevirtual 83, 3) := by decide +kernel
theorem d_Exp_obey_42 : decode b_Exp_obey 42 = .ok (.ireturn, 1) := by decide +kernel
theorem d_Exp_obey_43 : decode b_Exp_obey 43 = .ok (.iload_n 1, 1) := by decide +kernel
theorem d_Exp_obey_44 : decode b_Exp_obey 44 = .ok (.bipush 61, 2) := by decide +kernel
theorem d_Exp_obey_46 : decode b_Exp_obey 46 = .ok (.if_icmp .ne 8, 3) := by decide +kernel
theorem d_Exp_obey_49 : decode b_Exp_obey 49 = .ok (.aload_n 0, 1) := by decide +kernel
theorem d_Exp_obey_50 : decode b_Exp_obey 50 = .ok (.invokevirtual 86, 3) := by decide +kernel
theorem d_Exp_obey_53 : decode b_Exp_obey 53 = .ok (.ireturn, 1) := by decide +kernel
theorem d_Exp_obey_54 : decode b_Exp_obey 54 = .ok (.iload_n 1, 1) := by decide +kernel
theorem d_Exp_obey_55 : decode b_Exp_obey 55 = .ok (.invokestatic 89, 3) := by decide +kernel
theorem d_Exp_obey_58 : decode b_Exp_obey 58 = .ok (.ifCond .ne 6, 3) := by decide +kernel
theorem d_Exp_obey_61 : decode b_Exp_obey 61 = .ok (.bipush (-3), 2) := by decide +kernel
theorem d_Exp_obey_63 : decode b_Exp_obey 63 = .ok (.ireturn, 1) := by decide +kernel
theorem d_Exp_obey_64 : decode b_Exp_obey 64 = .ok (.aload_n 2, 1) := by decide +kernel
theorem d_Exp_obey_65 : decode b_Exp_obey 65 = .ok (.iload_n 1, 1) := by decide +kernel
theorem d_Exp_obey_66 : decode b_Exp_obey 66 = .ok (.iload_n 1, 1) := by decide +kernel
theorem d_Exp_obey_67 : decode b_Exp_obey 67 = .ok (.invokestatic 92, 3) := by decide +kernel
theorem d_Exp_obey_70 : decode b_Exp_obey 70 = .ok (.ifCond .eq 10, 3) := by decide +kernel
theorem d_Exp_obey_73 : decode b_Exp_obey 73 = .ok (.aload_n 0, 1) := by decide +kernel
theorem d_Exp_obey_74 : decode b_Exp_obey 74 = .ok (.getfield 66, 3) := by decide +kernel
theorem d_Exp_obey_77 : decode b_Exp_obey 77 = .ok (.goto 4, 3) := by decide +kernel
theorem d_Exp_obey_80 : decode b_Exp_obey 80 = .ok (.iconst 0, 1) := by decide +kernel
theorem d_Exp_obey_81 : decode b_Exp_obey 81 = .ok (.invokevirtual 95, 3) := by decide +kernel
theorem d_Exp_obey_84 : decode b_Exp_obey 84 = .ok (.ifCond .eq 7, 3) := by decide +kernel
theorem d_Exp_obey_87 : decode b_Exp_obey 87 = .ok (.iconst 0, 1) := by decide +kernel
theorem d_Exp_obey_88 : decode b_Exp_obey 88 = .ok (.goto 5, 3) := by decide +kernel
theorem d_Exp_obey_91 : decode b_Exp_obey 91 = .ok (.bipush (-4), 2) := by decide +kernel
theorem d_Exp_obey_93 : decode b_Exp_obey 93 = .ok (.ireturn, 1) := by decide +kernel
theorem d_Exp_callMacro_0 : decode b_Exp_callMacro 0 = .ok (.aload_n 1, 1) := by decide +kernel
theorem d_Exp_callMacro_1 : decode b_Exp_callMacro 1 = .ok (.getfield 99, 3) := by decide +kernel
theorem d_Exp_callMacro_4 : decode b_Exp_callMacro 4 = .ok (.ifCond .ne 6, 3) := by decide +kernel
theorem d_Exp_callMacro_7 : decode b_Exp_callMacro 7 = .ok (.bipush (-3), 2) := by decide +kernel
theorem d_Exp_callMacro_9 : decode b_Exp_callMacro 9 = .ok (.ireturn, 1) := by decide +kernel
theorem d_Exp_callMacro_10 : decode b_Exp_callMacro 10 = .ok (.aload_n 0, 1) := by decide +kernel
theorem d_Exp_callMacro_11 : decode b_Exp_callMacro 11 = .ok (.getfield 69, 3) := by decide +kernel
theorem d_Exp_callMacro_14 : decode b_Exp_callMacro 14 = .ok (.bipush 40, 2) := by decide +kernel
theorem d_Exp_callMacro_16 : decode b_Exp_callMacro 16 = .ok (.if_icmp .ne 6, 3) := by decide +kernel
theorem d_Exp_callMacro_19 : decode b_Exp_callMacro 19 = .ok (.bipush (-4), 2) := by decide +kernel
theorem d_Exp_callMacro_21 : decode b_Exp_callMacro 21 = .ok (.ireturn, 1) := by decide +kernel
theorem d_Exp_callMacro_22 : decode b_Exp_callMacro 22 = .ok (.aload_n 0, 1) := by decide +kernel
theorem d_Exp_callMacro_23 : decode b_Exp_callMacro 23 = .ok (.dup, 1) := by decide +kernel
theorem d_Exp_callMacro_24 : decode b_Exp_callMacro 24 = .ok (.getfield 69, 3) := by decide +kernel
theorem d_Exp_callMacro_27 : decode b_Exp_callMacro 27 = .ok (.iconst 1, 1) := by decide +kernel
theorem d_Exp_callMacro_28 : decode b_Exp_callMacro 28 = .ok (.iadd, 1) := by decide +kernel
theorem d_Exp_callMacro_29 : decode b_Exp_callMacro 29 = .ok (.putfield 69, 3) := by decide +kernel
theorem d_Exp_callMacro_32 : decode b_Exp_callMacro 32 = .ok (.aload_n 1, 1) := by decide +kernel
theorem d_Exp_callMacro_33 : decode b_Exp_callMacro 33 = .ok (.getfield 103, 3) := by decide +kernel
theorem d_Exp_callMacro_36 : decode b_Exp_callMacro 36 = .ok (.bipush 35, 2) := by decide +kernel
theorem d_Exp_callMacro_38 : decode b_Exp_callMacro 38 = .ok (.invokevirtual 106, 3) := by decide +kernel
theorem d_Exp_callMacro_41 : decode b_Exp_callMacro 41 = .ok (.istore_n 2, 1) := by decide +kernel
theorem d_Exp_callMacro_42 : decode b_Exp_callMacro 42 = .ok (.iload_n 2, 1) := by decide +kernel
theorem d_Exp_callMacro_43 : decode b_Exp_callMacro 43 = .ok (.ifCond .le 13, 3) := by decide +kernel
theorem d_Exp_callMacro_46 : decode b_Exp_callMacro 46 = .ok (.aload_n 0, 1) := by decide +kernel
theorem d_Exp_callMacro_47 : decode b_Exp_callMacro 47 = .ok (.invokevirtual 110, 3) := by decide +kernel
theorem d_Exp_callMacro_50 : decode b_Exp_callMacro 50 = .ok (.ifCond .ne 6, 3) := by decide +kernel
theorem d_Exp_callMacro_53 : decode b_Exp_callMacro 53 = .ok (.bipush (-3), 2) := by decide +kernel
theorem d_Exp_callMacro_55 : decode b_Exp_callMacro 55 = .ok (.ireturn, 1) := by decide +kernel
theorem d_Exp_callMacro_56 : decode b_Exp_callMacro 56 = .ok (.aload_n 1, 1) := by decide +kernel
theorem d_Exp_callMacro_57 : decode b_Exp_callMacro 57 = .ok (.getfield 103, 3) := by decide +kernel
theorem d_Exp_callMacro_60 : decode b_Exp_callMacro 60 = .ok (.getfield 59, 3) := by decide +kernel
theorem d_Exp_callMacro_63 : decode b_Exp_callMacro 63 = .ok (.iload_n 2, 1) := by decide +kernel
theorem d_Exp_callMacro_64 : decode b_Exp_callMacro 64 = .ok (.aload_n 0, 1) := by decide +kernel
theorem d_Exp_callMacro_65 : decode b_Exp_callMacro 65 = .ok (.getfield 26, 3) := by decide +kernel
theorem d_Exp_callMacro_68 : decode b_Exp_callMacro 68 = .ok (.getfield 59, 3) := by decide +kernel
theorem d_Exp_callMacro_71 : decode b_Exp_callMacro 71 = .ok (.iconst 1, 1) := by decide +kernel
theorem d_Exp_callMacro_72 : decode b_Exp_callMacro 72 = .ok (.isub, 1) := by decide +kernel
theorem d_Exp_callMacro_73 : decode b_Exp_callMacro 73 = .ok (.imul, 1) := by decide +kernel
theorem d_Exp_callMacro_74 : decode b_Exp_callMacro 74 = .ok (.iadd, 1) := by decide +kernel
theorem d_Exp_callMacro_75 : decode b_Exp_callMacro 75 = .ok (.istore_n 3, 1) := by decide +kernel
theorem d_Exp_callMacro_76 : decode b_Exp_callMacro 76 = .ok (.iload_n 3, 1) := by decide +kernel
theorem d_Exp_callMacro_77 : decode b_Exp_callMacro 77 = .ok (.aload_n 0, 1) := by decide +kernel
theorem d_Exp_callMacro_78 : decode b_Exp_callMacro 78 = .ok (.getfield 60, 3) := by decide +kernel
theorem d_Exp_callMacro_81 : decode b_Exp_callMacro 81 = .ok (.if_icmp .le 6, 3) := by decide +kernel
theorem d_Exp_callMacro_84 : decode b_Exp_callMacro 84 = .ok (.bipush (-4), 2) := by decide +kernel
theorem d_Exp_callMacro_86 : decode b_Exp_callMacro 86 = .ok (.ireturn, 1) := by decide +kernel
theorem d_Exp_callMacro_87 : decode b_Exp_callMacro 87 = .ok (.aload_n 0, 1) := by decide +kernel
theorem d_Exp_callMacro_88 : decode b_Exp_callMacro 88 = .ok (.dup, 1) := by decide +kernel
theorem d_Exp_callMacro_89 : decode b_Exp_callMacro 89 = .ok (.getfield 60, 3) := by decide +kernel
theorem d_Exp_callMacro_92 : decode b_Exp_callMacro 92 = .ok (.iload_n 3, 1) := by decide +kernel
theorem d_Exp_callMacro_93 : decode b_Exp_callMacro 93 = .ok (.isub, 1) := by decide +kernel
theorem d_Exp_callMacro_94 : decode b_Exp_callMacro 94 = .ok (.putfield 60, 3) := by decide +kernel
theorem d_Exp_callMacro_97 : decode b_Exp_callMacro 97 = .ok (.aload_n 0, 1) := by decide +kernel
theorem d_Exp_callMacro_98 : decode b_Exp_callMacro 98 = .ok (.aload_n 1, 1) := by decide +kernel
theorem d_Exp_callMacro_99 : decode b_Exp_callMacro 99 = .ok (.getfield 103, 3) := by decide +kernel
theorem d_Exp_callMacro_102 : decode b_Exp_callMacro 102 = .ok (.invokevirtual 113, 3) := by decide +kernel
theorem d_Exp_callMacro_105 : decode b_Exp_callMacro 105 = .ok (.iconst 0, 1) := by decide +kernel
theorem d_Exp_callMacro_106 : decode b_Exp_callMacro 106 = .ok (.ireturn, 1) := by decide +kernel
theorem d_Row_howMany_0 : decode b_Row_howMany 0 = .ok (.iconst 0, 1) := by decide +kernel
theorem d_Row_howMany_1 : decode b_Row_howMany 1 = .ok (.istore_n 2, 1) := by decide +kernel
theorem d_Row_howMany_2 : decode b_Row_howMany 2 = .ok (.iconst 0, 1) := by decide +kernel
theorem d_Row_howMany_3 : decode b_Row_howMany 3 = .ok (.istore_n 3, 1) := by decide +kernel
theorem d_Row_howMany_4 : decode b_Row_howMany 4 = .ok (.iload_n 3, 1) := by decide +kernel
theorem d_Row_howMany_5 : decode b_Row_howMany 5 = .ok (.aload_n 0, 1) := by decide +kernel
theorem d_Row_howMany_6 : decode b_Row_howMany 6 = .ok (.getfield 13, 3) := by decide +kernel
theorem d_Row_howMany_9 : decode b_Row_howMany 9 = .ok (.if_icmp .ge 22, 3) := by decide +kernel
theorem d_Row_howMany_12 : decode b_Row_howMany 12 = .ok (.aload_n 0, 1) := by decide +kernel
theorem d_Row_howMany_13 : decode b_Row_howMany 13 = .ok (.getfield 7, 3) := by decide +kernel
theorem d_Row_howMany_16 : decode b_Row_howMany 16 = .ok (.iload_n 3, 1) := by decide +kernel
theorem d_Row_howMany_17 : decode b_Row_howMany 17 = .ok (.iaload, 1) := by decide +kernel
theorem d_Row_howMany_18 : decode b_Row_howMany 18 = .ok (.iload_n 1, 1) := by decide +kernel
theorem d_Row_howMany_19 : decode b_Row_howMany 19 = .ok (.if_icmp .ne 6, 3) := by decide +kernel
theorem d_Row_howMany_22 : decode b_Row_howMany 22 = .ok (.iinc 2 1, 3) := by decide +kernel
theorem d_Row_howMany_25 : decode b_Row_howMany 25 = .ok (.iinc 3 1, 3) := by decide +kernel
theorem d_Row_howMany_28 : decode b_Row_howMany 28 = .ok (.goto (-24), 3) := by decide +kernel
theorem d_Row_howMany_31 : decode b_Row_howMany 31 = .ok (.iload_n 2, 1) := by decide +kernel
theorem d_Row_howMany_32 : decode b_Row_howMany 32 = .ok (.ireturn, 1) := by decide +kernel
theorem d_Exp_takeArgument_0 : decode b_Exp_takeArgument 0 = .ok (.aload_n 0, 1) := by decide +kernel
theorem d_Exp_takeArgument_1 : decode b_Exp_takeArgument 1 = .ok (.getfield 26, 3) := by decide +kernel
theorem d_Exp_takeArgument_4 : decode b_Exp_takeArgument 4 = .ok (.invokevirtual 116, 3) := by decide +kernel
theorem d_Exp_takeArgument_7 : decode b_Exp_takeArgument 7 = .ok (.aload_n 0, 1) := by decide +kernel
theorem d_Exp_takeArgument_8 : decode b_Exp_takeArgument 8 = .ok (.invokevirtual 44, 3) := by decide +kernel
theorem d_Exp_takeArgument_11 : decode b_Exp_takeArgument 11 = .ok (.ifCond .ne 17, 3) := by decide +kernel
theorem d_Exp_takeArgument_14 : decode b_Exp_takeArgument 14 = .ok (.aload_n 0, 1) := by decide +kernel
theorem d_Exp_takeArgument_15 : decode b_Exp_takeArgument 15 = .ok (.getfield 17, 3) := by decide +kernel
theorem d_Exp_takeArgument_18 : decode b_Exp_takeArgument 18 = .ok (.aload_n 0, 1) := by decide +kernel
theorem d_Exp_takeArgument_19 : decode b_Exp_takeArgument 19 = .ok (.getfield 60, 3) := by decide +kernel
theorem d_Exp_takeArgument_22 : decode b_Exp_takeArgument 22 = .ok (.iaload, 1) := by decide +kernel
theorem d_Exp_takeArgument_23 : decode b_Exp_takeArgument 23 = .ok (.bipush 125, 2) := by decide +kernel
theorem d_Exp_takeArgument_25 : decode b_Exp_takeArgument 25 = .ok (.if_icmp .ne 5, 3) := by decide +kernel
theorem d_Exp_takeArgument_28 : decode b_Exp_takeArgument 28 = .ok (.iconst 0, 1) := by decide +kernel
theorem d_Exp_takeArgument_29 : decode b_Exp_takeArgument 29 = .ok (.ireturn, 1) := by decide +kernel
theorem d_Exp_takeArgument_30 : decode b_Exp_takeArgument 30 = .ok (.aload_n 0, 1) := by decide +kernel
theorem d_Exp_takeArgument_31 : decode b_Exp_takeArgument 31 = .ok (.invokevirtual 48, 3) := by decide +kernel
theorem d_Exp_takeArgument_34 : decode b_Exp_takeArgument 34 = .ok (.istore_n 1, 1) := by decide +kernel
theorem d_Exp_takeArgument_35 : decode b_Exp_takeArgument 35 = .ok (.iload_n 1, 1) := by decide +kernel
theorem d_Exp_takeArgument_36 : decode b_Exp_takeArgument 36 = .ok (.bipush 123, 2) := by decide +kernel
theorem d_Exp_takeArgument_38 : decode b_Exp_takeArgument 38 = .ok (.if_icmp .ne 8, 3) := by decide +kernel
theorem d_Exp_takeArgument_41 : decode b_Exp_takeArgument 41 = .ok (.aload_n 0, 1) := by decide +kernel
theorem d_Exp_takeArgument_42 : decode b_Exp_takeArgument 42 = .ok (.invokevirtual 119, 3) := by decide +kernel
theorem d_Exp_takeArgument_45 : decode b_Exp_takeArgument 45 = .ok (.ireturn, 1) := by decide +kernel
theorem d_Exp_takeArgument_46 : decode b_Exp_takeArgument 46 = .ok (.aload_n 0, 1) := by decide +kernel
theorem d_Exp_takeArgument_47 : decode b_Exp_takeArgument 47 = .ok (.getfield 26, 3) := by decide +kernel
theorem d_Exp_takeArgument_50 : decode b_Exp_takeArgument 50 = .ok (.iload_n 1, 1) := by decide +kernel
theorem d_Exp_takeArgument_51 : decode b_Exp_takeArgument 51 = .ok (.invokevirtual 122, 3) := by decide +kernel
theorem d_Exp_takeArgument_54 : decode b_Exp_takeArgument 54 = .ok (.iconst 1, 1) := by decide +kernel
theorem d_Exp_takeArgument_55 : decode b_Exp_takeArgument 55 = .ok (.ireturn, 1) := by decide +kernel
theorem d_Exp_takeGroup_0 : decode b_Exp_takeGroup 0 = .ok (.iconst 1, 1) := by decide +kernel
theorem d_Exp_takeGroup_1 : decode b_Exp_takeGroup 1 = .ok (.istore_n 1, 1) := by decide +kernel
theorem d_Exp_takeGroup_2 : decode b_Exp_takeGroup 2 = .ok (.aload_n 0, 1) := by decide +kernel
theorem d_Exp_takeGroup_3 : decode b_Exp_takeGroup 3 = .ok (.getfield 60, 3) := by decide +kernel
theorem d_Exp_takeGroup_6 : decode b_Exp_takeGroup 6 = .ok (.istore_n 2, 1) := by decide +kernel
theorem d_Exp_takeGroup_7 : decode b_Exp_takeGroup 7 = .ok (.iload_n 2, 1) := by decide +kernel
theorem d_Exp_takeGroup_8 : decode b_Exp_takeGroup 8 = .ok (.sipush 200, 3) := by decide +kernel
theorem d_Exp_takeGroup_11 : decode b_Exp_takeGroup 11 = .ok (.if_icmp .ge 66, 3) := by decide +kernel
theorem d_Exp_takeGroup_14 : decode b_Exp_takeGroup 14 = .ok (.aload_n 0, 1) := by decide +kernel
theorem d_Exp_takeGroup_15 : decode b_Exp_takeGroup 15 = .ok (.getfield 17, 3) := by decide +kernel
theorem d_Exp_takeGroup_18 : decode b_Exp_takeGroup 18 = .ok (.iload_n 2, 1) := by decide +kernel
theorem d_Exp_takeGroup_19 : decode b_Exp_takeGroup 19 = .ok (.iaload, 1) := by decide +kernel
theorem d_Exp_takeGroup_20 : decode b_Exp_takeGroup 20 = .ok (.bipush 123, 2) := by decide +kernel
theorem d_Exp_takeGroup_22 : decode b_Exp_takeGroup 22 = .ok (.if_icmp .ne 9, 3) := by decide +kernel
theorem d_Exp_takeGroup_25 : decode b_Exp_takeGroup 25 = .ok (.iinc 1 1, 3) := by decide +kernel
theorem d_Exp_takeGroup_28 : decode b_Exp_takeGroup 28 = .ok (.goto 17, 3) := by decide +kernel
theorem d_Exp_takeGroup_31 : decode b_Exp_takeGroup 31 = .ok (.aload_n 0, 1) := by decide +kernel
theorem d_Exp_takeGroup_32 : decode b_Exp_takeGroup 32 = .ok (.getfield 17, 3) := by decide +kernel
theorem d_Exp_takeGroup_35 : decode b_Exp_takeGroup 35 = .ok (.iload_n 2, 1) := by decide +kernel
theorem d_Exp_takeGroup_36 : decode b_Exp_takeGroup 36 = .ok (.iaload, 1) := by decide +kernel
theorem d_Exp_takeGroup_37 : decode b_Exp_takeGroup 37 = .ok (.bipush 125, 2) := by decide +kernel
theorem d_Exp_takeGroup_39 : decode b_Exp_takeGroup 39 = .ok (.if_icmp .ne 6, 3) := by decide +kernel
theorem d_Exp_takeGroup_42 : decode b_Exp_takeGroup 42 = .ok (.iinc 1 (-1), 3) := by decide +kernel
theorem d_Exp_takeGroup_45 : decode b_Exp_takeGroup 45 = .ok (.iload_n 1, 1) := by decide +kernel
theorem d_Exp_takeGroup_46 : decode b_Exp_takeGroup 46 = .ok (.ifCond .ne 12, 3) := by decide +kernel
theorem d_Exp_takeGroup_49 : decode b_Exp_takeGroup 49 = .ok (.aload_n 0, 1) := by decide +kernel
theorem d_Exp_takeGroup_50 : decode b_Exp_takeGroup 50 = .ok (.iload_n 2, 1) := by decide +kernel
theorem d_Exp_takeGroup_51 : decode b_Exp_takeGroup 51 = .ok (.iconst 1, 1) := by decide +kernel
theorem d_Exp_takeGroup_52 : decode b_Exp_takeGroup 52 = .ok (.iadd, 1) := by decide +kernel
theorem d_Exp_takeGroup_53 : decode b_Exp_takeGroup 53 = .ok (.putfield 60, 3) := by decide +kernel
theorem d_Exp_takeGroup_56 : decode b_Exp_takeGroup 56 = .ok (.iconst 1, 1) := by decide +kernel
theorem d_Exp_takeGroup_57 : decode b_Exp_takeGroup 57 = .ok (.ireturn, 1) := by decide +kernel
theorem d_Exp_takeGroup_58 : decode b_Exp_takeGroup 58 = .ok (.aload_n 0, 1) := by decide +kernel
theorem d_Exp_takeGroup_59 : decode b_Exp_takeGroup 59 = .ok (.getfield 26, 3) := by decide +kernel
theorem d_Exp_takeGroup_62 : decode b_Exp_takeGroup 62 = .ok (.aload_n 0, 1) := by decide +kernel
theorem d_Exp_takeGroup_63 : decode b_Exp_takeGroup 63 = .ok (.getfield 17, 3) := by decide +kernel
theorem d_Exp_takeGroup_66 : decode b_Exp_takeGroup 66 = .ok (.iload_n 2, 1) := by decide +kernel
theorem d_Exp_takeGroup_67 : decode b_Exp_takeGroup 67 = .ok (.iaload, 1) := by decide +kernel
theorem d_Exp_takeGroup_68 : decode b_Exp_takeGroup 68 = .ok (.invokevirtual 122, 3) := by decide +kernel
theorem d_Exp_takeGroup_71 : decode b_Exp_takeGroup 71 = .ok (.iinc 2 1, 3) := by decide +kernel
theorem d_Exp_takeGroup_74 : decode b_Exp_takeGroup 74 = .ok (.goto (-67), 3) := by decide +kernel
theorem d_Exp_takeGroup_77 : decode b_Exp_takeGroup 77 = .ok (.iconst 0, 1) := by decide +kernel
theorem d_Exp_takeGroup_78 : decode b_Exp_takeGroup 78 = .ok (.ireturn, 1) := by decide +kernel
theorem d_Exp_putInFront_0 : decode b_Exp_putInFront 0 = .ok (.aload_n 0, 1) := by decide +kernel
theorem d_Exp_putInFront_1 : decode b_Exp_putInFront 1 = .ok (.getfield 60, 3) := by decide +kernel
theorem d_Exp_putInFront_4 : decode b_Exp_putInFront 4 = .ok (.istore_n 2, 1) := by decide +kernel
theorem d_Exp_putInFront_5 : decode b_Exp_putInFront 5 = .ok (.iconst 0, 1) := by decide +kernel
theorem d_Exp_putInFront_6 : decode b_Exp_putInFront 6 = .ok (.istore_n 3, 1) := by decide +kernel
theorem d_Exp_putInFront_7 : decode b_Exp_putInFront 7 = .ok (.iload_n 3, 1) := by decide +kernel
theorem d_Exp_putInFront_8 : decode b_Exp_putInFront 8 = .ok (.aload_n 1, 1) := by decide +kernel
theorem d_Exp_putInFront_9 : decode b_Exp_putInFront 9 = .ok (.getfield 59, 3) := by decide +kernel
theorem d_Exp_putInFront_12 : decode b_Exp_putInFront 12 = .ok (.if_icmp .ge 88, 3) := by decide +kernel
theorem d_Exp_putInFront_15 : decode b_Exp_putInFront 15 = .ok (.aload_n 1, 1) := by decide +kernel
theorem d_Exp_putInFront_16 : decode b_Exp_putInFront 16 = .ok (.getfield 63, 3) := by decide +kernel
theorem d_Exp_putInFront_19 : decode b_Exp_putInFront 19 = .ok (.iload_n 3, 1) := by decide +kernel
theorem d_Exp_putInFront_20 : decode b_Exp_putInFront 20 = .ok (.iaload, 1) := by decide +kernel
theorem d_Exp_putInFront_21 : decode b_Exp_putInFront 21 = .ok (.bipush 35, 2) := by decide +kernel
theorem d_Exp_putInFront_23 : decode b_Exp_putInFront 23 = .ok (.if_icmp .ne 56, 3) := by decide +kernel
theorem d_Exp_putInFront_26 : decode b_Exp_putInFront 26 = .ok (.iconst 0, 1) := by decide +kernel
theorem d_Exp_putInFront_27 : decode b_Exp_putInFront 27 = .ok (.istore 4, 2) := by decide +kernel
theorem d_Exp_putInFront_29 : decode b_Exp_putInFront 29 = .ok (.iload 4, 2) := by decide +kernel
theorem d_Exp_putInFront_31 : decode b_Exp_putInFront 31 = .ok (.aload_n 0, 1) := by decide +kernel
theorem d_Exp_putInFront_32 : decode b_Exp_putInFront 32 = .ok (.getfield 26, 3) := by decide +kernel
theorem d_Exp_putInFront_35 : decode b_Exp_putInFront 35 = .ok (.getfield 59, 3) := by decide +kernel
theorem d_Exp_putInFront_38 : decode b_Exp_putInFront 38 = .ok (.if_icmp .ge 28, 3) := by decide +kernel
theorem d_Exp_putInFront_41 : decode b_Exp_putInFront 41 = .ok (.aload_n 0, 1) := by decide +kernel
theorem d_Exp_putInFront_42 : decode b_Exp_putInFront 42 = .ok (.getfield 17, 3) := by decide +kernel
theorem d_Exp_putInFront_45 : decode b_Exp_putInFront 45 = .ok (.iload_n 2, 1) := by decide +kernel
theorem d_Exp_putInFront_46 : decode b_Exp_putInFront 46 = .ok (.iload 4, 2) := by decide +kernel
theorem d_Exp_putInFront_48 : decode b_Exp_putInFront 48 = .ok (.iadd, 1) := by decide +kernel
theorem d_Exp_putInFront_49 : decode b_Exp_putInFront 49 = .ok (.aload_n 0, 1) := by decide +kernel
theorem d_Exp_putInFront_50 : decode b_Exp_putInFront 50 = .ok (.getfield 26, 3) := by decide +kernel
theorem d_Exp_putInFront_53 : decode b_Exp_putInFront 53 = .ok (.getfield 63, 3) := by decide +kernel
theorem d_Exp_putInFront_56 : decode b_Exp_putInFront 56 = .ok (.iload 4, 2) := by decide +kernel
theorem d_Exp_putInFront_58 : decode b_Exp_putInFront 58 = .ok (.iaload, 1) := by decide +kernel
theorem d_Exp_putInFront_59 : decode b_Exp_putInFront 59 = .ok (.iastore, 1) := by decide +kernel
theorem d_Exp_putInFront_60 : decode b_Exp_putInFront 60 = .ok (.iinc 4 1, 3) := by decide +kernel
theorem d_Exp_putInFront_63 : decode b_Exp_putInFront 63 = .ok (.goto (-34), 3) := by decide +kernel
theorem d_Exp_putInFront_66 : decode b_Exp_putInFront 66 = .ok (.iload_n 2, 1) := by decide +kernel
theorem d_Exp_putInFront_67 : decode b_Exp_putInFront 67 = .ok (.aload_n 0, 1) := by decide +kernel
theorem d_Exp_putInFront_68 : decode b_Exp_putInFront 68 = .ok (.getfield 26, 3) := by decide +kernel
theorem d_Exp_putInFront_71 : decode b_Exp_putInFront 71 = .ok (.getfield 59, 3) := by decide +kernel
theorem d_Exp_putInFront_74 : decode b_Exp_putInFront 74 = .ok (.iadd, 1) := by decide +kernel
theorem d_Exp_putInFront_75 : decode b_Exp_putInFront 75 = .ok (.istore_n 2, 1) := by decide +kernel
theorem d_Exp_putInFront_76 : decode b_Exp_putInFront 76 = .ok (.goto 18, 3) := by decide +kernel
theorem d_Exp_putInFront_79 : decode b_Exp_putInFront 79 = .ok (.aload_n 0, 1) := by decide +kernel
theorem d_Exp_putInFront_80 : decode b_Exp_putInFront 80 = .ok (.getfield 17, 3) := by decide +kernel
theorem d_Exp_putInFront_83 : decode b_Exp_putInFront 83 = .ok (.iload_n 2, 1) := by decide +kernel
theorem d_Exp_putInFront_84 : decode b_Exp_putInFront 84 = .ok (.aload_n 1, 1) := by decide +kernel
theorem d_Exp_putInFront_85 : decode b_Exp_putInFront 85 = .ok (.getfield 63, 3) := by decide +kernel
theorem d_Exp_putInFront_88 : decode b_Exp_putInFront 88 = .ok (.iload_n 3, 1) := by decide +kernel
theorem d_Exp_putInFront_89 : decode b_Exp_putInFront 89 = .ok (.iaload, 1) := by decide +kernel
theorem d_Exp_putInFront_90 : decode b_Exp_putInFront 90 = .ok (.iastore, 1) := by decide +kernel
theorem d_Exp_putInFront_91 : decode b_Exp_putInFront 91 = .ok (.iinc 2 1, 3) := by decide +kernel
theorem d_Exp_putInFront_94 : decode b_Exp_putInFront 94 = .ok (.iinc 3 1, 3) := by decide +kernel
theorem d_Exp_putInFront_97 : decode b_Exp_putInFront 97 = .ok (.goto (-90), 3) := by decide +kernel
theorem d_Exp_putInFront_100 : decode b_Exp_putInFront 100 = .ok (.return_, 1) := by decide +kernel
theorem d_Exp_openGroup_0 : decode b_Exp_openGroup 0 = .ok (.aload_n 0, 1) := by decide +kernel
theorem d_Exp_openGroup_1 : decode b_Exp_openGroup 1 = .ok (.getfield 56, 3) := by decide +kernel
theorem d_Exp_openGroup_4 : decode b_Exp_openGroup 4 = .ok (.bipush 8, 2) := by decide +kernel
theorem d_Exp_openGroup_6 : decode b_Exp_openGroup 6 = .ok (.if_icmp .ne 6, 3) := by decide +kernel
theorem d_Exp_openGroup_9 : decode b_Exp_openGroup 9 = .ok (.bipush (-4), 2) := by decide +kernel
theorem d_Exp_openGroup_11 : decode b_Exp_openGroup 11 = .ok (.ireturn, 1) := by decide +kernel
theorem d_Exp_openGroup_12 : decode b_Exp_openGroup 12 = .ok (.aload_n 0, 1) := by decide +kernel
theorem d_Exp_openGroup_13 : decode b_Exp_openGroup 13 = .ok (.getfield 30, 3) := by decide +kernel
theorem d_Exp_openGroup_16 : decode b_Exp_openGroup 16 = .ok (.aload_n 0, 1) := by decide +kernel
theorem d_Exp_openGroup_17 : decode b_Exp_openGroup 17 = .ok (.getfield 56, 3) := by decide +kernel
theorem d_Exp_openGroup_20 : decode b_Exp_openGroup 20 = .ok (.aload_n 0, 1) := by decide +kernel
theorem d_Exp_openGroup_21 : decode b_Exp_openGroup 21 = .ok (.getfield 66, 3) := by decide +kernel
theorem d_Exp_openGroup_24 : decode b_Exp_openGroup 24 = .ok (.iastore, 1) := by decide +kernel
theorem d_Exp_openGroup_25 : decode b_Exp_openGroup 25 = .ok (.aload_n 0, 1) := by decide +kernel
theorem d_Exp_openGroup_26 : decode b_Exp_openGroup 26 = .ok (.dup, 1) := by decide +kernel
theorem d_Exp_openGroup_27 : decode b_Exp_openGroup 27 = .ok (.getfield 56, 3) := by decide +kernel
theorem d_Exp_openGroup_30 : decode b_Exp_openGroup 30 = .ok (.iconst 1, 1) := by decide +kernel
theorem d_Exp_openGroup_31 : decode b_Exp_openGroup 31 = .ok (.iadd, 1) := by decide +kernel
theorem d_Exp_openGroup_32 : decode b_Exp_openGroup 32 = .ok (.putfield 56, 3) := by decide +kernel
theorem d_Exp_openGroup_35 : decode b_Exp_openGroup 35 = .ok (.iconst 0, 1) := by decide +kernel
theorem d_Exp_openGroup_36 : decode b_Exp_openGroup 36 = .ok (.ireturn, 1) := by decide +kernel
theorem d_Exp_closeGroup_0 : decode b_Exp_closeGroup 0 = .ok (.aload_n 0, 1) := by decide +kernel
theorem d_Exp_closeGroup_1 : decode b_Exp_closeGroup 1 = .ok (.getfield 56, 3) := by decide +kernel
theorem d_Exp_closeGroup_4 : decode b_Exp_closeGroup 4 = .ok (.ifCond .ne 6, 3) := by decide +kernel
theorem d_Exp_closeGroup_7 : decode b_Exp_closeGroup 7 = .ok (.bipush (-3), 2) := by decide +kernel
theorem d_Exp_closeGroup_9 : decode b_Exp_closeGroup 9 = .ok (.ireturn, 1) := by decide +kernel
theorem d_Exp_closeGroup_10 : decode b_Exp_closeGroup 10 = .ok (.aload_n 0, 1) := by decide +kernel
theorem d_Exp_closeGroup_11 : decode b_Exp_closeGroup 11 = .ok (.dup, 1) := by decide +kernel
theorem d_Exp_closeGroup_12 : decode b_Exp_closeGroup 12 = .ok (.getfield 56, 3) := by decide +kernel
theorem d_Exp_closeGroup_15 : decode b_Exp_closeGroup 15 = .ok (.iconst 1, 1) := by decide +kernel
theorem d_Exp_closeGroup_16 : decode b_Exp_closeGroup 16 = .ok (.isub, 1) := by decide +kernel
theorem d_Exp_closeGroup_17 : decode b_Exp_closeGroup 17 = .ok (.putfield 56, 3) := by decide +kernel
theorem d_Exp_closeGroup_20 : decode b_Exp_closeGroup 20 = .ok (.aload_n 0, 1) := by decide +kernel
theorem d_Exp_closeGroup_21 : decode b_Exp_closeGroup 21 = .ok (.aload_n 0, 1) := by decide +kernel
theorem d_Exp_closeGroup_22 : decode b_Exp_closeGroup 22 = .ok (.getfield 30, 3) := by decide +kernel
theorem d_Exp_closeGroup_25 : decode b_Exp_closeGroup 25 = .ok (.aload_n 0, 1) := by decide +kernel
theorem d_Exp_closeGroup_26 : decode b_Exp_closeGroup 26 = .ok (.getfield 56, 3) := by decide +kernel
theorem d_Exp_closeGroup_29 : decode b_Exp_closeGroup 29 = .ok (.iaload, 1) := by decide +kernel
theorem d_Exp_closeGroup_30 : decode b_Exp_closeGroup 30 = .ok (.putfield 66, 3) := by decide +kernel
theorem d_Exp_closeGroup_33 : decode b_Exp_closeGroup 33 = .ok (.iconst 0, 1) := by decide +kernel
theorem d_Exp_closeGroup_34 : decode b_Exp_closeGroup 34 = .ok (.ireturn, 1) := by decide +kernel
theorem d_Exp_changeSpace_0 : decode b_Exp_changeSpace 0 = .ok (.aload_n 0, 1) := by decide +kernel
theorem d_Exp_changeSpace_1 : decode b_Exp_changeSpace 1 = .ok (.invokevirtual 44, 3) := by decide +kernel
theorem d_Exp_changeSpace_4 : decode b_Exp_changeSpace 4 = .ok (.ifCond .eq 6, 3) := by decide +kernel
theorem d_Exp_changeSpace_7 : decode b_Exp_changeSpace 7 = .ok (.bipush (-3), 2) := by decide +kernel
theorem d_Exp_changeSpace_9 : decode b_Exp_changeSpace 9 = .ok (.ireturn, 1) := by decide +kernel
theorem d_Exp_changeSpace_10 : decode b_Exp_changeSpace 10 = .ok (.aload_n 0, 1) := by decide +kernel
theorem d_Exp_changeSpace_11 : decode b_Exp_changeSpace 11 = .ok (.invokevirtual 48, 3) := by decide +kernel
theorem d_Exp_changeSpace_14 : decode b_Exp_changeSpace 14 = .ok (.istore_n 1, 1) := by decide +kernel
theorem d_Exp_changeSpace_15 : decode b_Exp_changeSpace 15 = .ok (.iload_n 1, 1) := by decide +kernel
theorem d_Exp_changeSpace_16 : decode b_Exp_changeSpace 16 = .ok (.invokestatic 124, 3) := by decide +kernel
theorem d_Exp_changeSpace_19 : decode b_Exp_changeSpace 19 = .ok (.ifCond .eq 9, 3) := by decide +kernel
theorem d_Exp_changeSpace_22 : decode b_Exp_changeSpace 22 = .ok (.iload_n 1, 1) := by decide +kernel
theorem d_Exp_changeSpace_23 : decode b_Exp_changeSpace 23 = .ok (.bipush 48, 2) := by decide +kernel
theorem d_Exp_changeSpace_25 : decode b_Exp_changeSpace 25 = .ok (.if_icmp .ne 6, 3) := by decide +kernel
theorem d_Exp_changeSpace_28 : decode b_Exp_changeSpace 28 = .ok (.bipush (-3), 2) := by decide +kernel
theorem d_Exp_changeSpace_30 : decode b_Exp_changeSpace 30 = .ok (.ireturn, 1) := by decide +kernel
theorem d_Exp_changeSpace_31 : decode b_Exp_changeSpace 31 = .ok (.aload_n 0, 1) := by decide +kernel
theorem d_Exp_changeSpace_32 : decode b_Exp_changeSpace 32 = .ok (.iload_n 1, 1) := by decide +kernel
theorem d_Exp_changeSpace_33 : decode b_Exp_changeSpace 33 = .ok (.bipush 48, 2) := by decide +kernel
theorem d_Exp_changeSpace_35 : decode b_Exp_changeSpace 35 = .ok (.isub, 1) := by decide +kernel
theorem d_Exp_changeSpace_36 : decode b_Exp_changeSpace 36 = .ok (.putfield 66, 3) := by decide +kernel
theorem d_Exp_changeSpace_39 : decode b_Exp_changeSpace 39 = .ok (.iconst 0, 1) := by decide +kernel
theorem d_Exp_changeSpace_40 : decode b_Exp_changeSpace 40 = .ok (.ireturn, 1) := by decide +kernel
theorem d_Math_max_0 : decode b_Math_max 0 = .ok (.iload_n 0, 1) := by decide +kernel
theorem d_Math_max_1 : decode b_Math_max 1 = .ok (.iload_n 1, 1) := by decide +kernel
theorem d_Math_max_2 : decode b_Math_max 2 = .ok (.if_icmp .lt 7, 3) := by decide +kernel
theorem d_Math_max_5 : decode b_Math_max 5 = .ok (.iload_n 0, 1) := by decide +kernel
theorem d_Math_max_6 : decode b_Math_max 6 = .ok (.goto 4, 3) := by decide +kernel
theorem d_Math_max_9 : decode b_Math_max 9 = .ok (.iload_n 1, 1) := by decide +kernel
theorem d_Math_max_10 : decode b_Math_max 10 = .ok (.ireturn, 1) := by decide +kernel
theorem d_Math_abs_0 : decode b_Math_abs 0 = .ok (.iload_n 0, 1) := by decide +kernel
theorem d_Math_abs_1 : decode b_Math_abs 1 = .ok (.ifCond .ge 8, 3) := by decide +kernel
theorem d_Math_abs_4 : decode b_Math_abs 4 = .ok (.iload_n 0, 1) := by decide +kernel
theorem d_Math_abs_5 : decode b_Math_abs 5 = .ok (.ineg, 1) := by decide +kernel
theorem d_Math_abs_6 : decode b_Math_abs 6 = .ok (.goto 4, 3) := by decide +kernel
theorem d_Math_abs_9 : decode b_Math_abs 9 = .ok (.iload_n 0, 1) := by decide +kernel
theorem d_Math_abs_10 : decode b_Math_abs 10 = .ok (.ireturn, 1) := by decide +kernel
theorem d_Math_floorDiv_0 : decode b_Math_floorDiv 0 = .ok (.iload_n 0, 1) := by decide +kernel
theorem d_Math_floorDiv_1 : decode b_Math_floorDiv 1 = .ok (.iload_n 1, 1) := by decide +kernel
theorem d_Math_floorDiv_2 : decode b_Math_floorDiv 2 = .ok (.idiv, 1) := by decide +kernel
theorem d_Math_floorDiv_3 : decode b_Math_floorDiv 3 = .ok (.istore_n 2, 1) := by decide +kernel
theorem d_Math_floorDiv_4 : decode b_Math_floorDiv 4 = .ok (.iload_n 0, 1) := by decide +kernel
theorem d_Math_floorDiv_5 : decode b_Math_floorDiv 5 = .ok (.iload_n 1, 1) := by decide +kernel
theorem d_Math_floorDiv_6 : decode b_Math_floorDiv 6 = .ok (.ixor, 1) := by decide +kernel
theorem d_Math_floorDiv_7 : decode b_Math_floorDiv 7 = .ok (.ifCond .ge 14, 3) := by decide +kernel
theorem d_Math_floorDiv_10 : decode b_Math_floorDiv 10 = .ok (.iload_n 2, 1) := by decide +kernel
theorem d_Math_floorDiv_11 : decode b_Math_floorDiv 11 = .ok (.iload_n 1, 1) := by decide +kernel
theorem d_Math_floorDiv_12 : decode b_Math_floorDiv 12 = .ok (.imul, 1) := by decide +kernel
theorem d_Math_floorDiv_13 : decode b_Math_floorDiv 13 = .ok (.iload_n 0, 1) := by decide +kernel
theorem d_Math_floorDiv_14 : decode b_Math_floorDiv 14 = .ok (.if_icmp .eq 7, 3) := by decide +kernel
theorem d_Math_floorDiv_17 : decode b_Math_floorDiv 17 = .ok (.iload_n 2, 1) := by decide +kernel
theorem d_Math_floorDiv_18 : decode b_Math_floorDiv 18 = .ok (.iconst 1, 1) := by decide +kernel
theorem d_Math_floorDiv_19 : decode b_Math_floorDiv 19 = .ok (.isub, 1) := by decide +kernel
theorem d_Math_floorDiv_20 : decode b_Math_floorDiv 20 = .ok (.ireturn, 1) := by decide +kernel
theorem d_Math_floorDiv_21 : decode b_Math_floorDiv 21 = .ok (.iload_n 2, 1) := by decide +kernel
theorem d_Math_floorDiv_22 : decode b_Math_floorDiv 22 = .ok (.ireturn, 1) := by decide +kernel
end
section
theorem d_Hyp_init_0 : decode b_Hyp_init 0 = .ok (.aload_n 0, 1) := by decide +kernel
theorem d_Hyp_init_1 : decode b_Hyp_init 1 = .ok (.invokespecial 3, 3) := by decide +kernel
theorem d_Hyp_init_4 : decode b_Hyp_init 4 = .ok (.aload_n 0, 1) := by decide +kernel
theorem d_Hyp_init_5 : decode b_Hyp_init 5 = .ok (.bipush 20, 2) := by decide +kernel
theorem d_Hyp_init_7 : decode b_Hyp_init 7 = .ok (.anewarray 9, 3) := by decide +kernel
theorem d_Hyp_init_10 : decode b_Hyp_init 10 = .ok (.putfield 11, 3) := by decide +kernel
theorem d_Hyp_init_13 : decode b_Hyp_init 13 = .ok (.aload_n 0, 1) := by decide +kernel
theorem d_Hyp_init_14 : decode b_Hyp_init 14 = .ok (.iconst 0, 1) := by decide +kernel
theorem d_Hyp_init_15 : decode b_Hyp_init 15 = .ok (.putfield 17, 3) := by decide +kernel
theorem d_Hyp_init_18 : decode b_Hyp_init 18 = .ok (.aload_n 0, 1) := by decide +kernel
theorem d_Hyp_init_19 : decode b_Hyp_init 19 = .ok (.bipush 121, 2) := by decide +kernel
theorem d_Hyp_init_21 : decode b_Hyp_init 21 = .ok (.newarray .int, 2) := by decide +kernel
theorem d_Hyp_init_23 : decode b_Hyp_init 23 = .ok (.putfield 21, 3) := by decide +kernel
theorem d_Hyp_init_26 : decode b_Hyp_init 26 = .ok (.iconst 0, 1) := by decide +kernel
theorem d_Hyp_init_27 : decode b_Hyp_init 27 = .ok (.istore_n 1, 1) := by decide +kernel
theorem d_Hyp_init_28 : decode b_Hyp_init 28 = .ok (.iload_n 1, 1) := by decide +kernel
theorem d_Hyp_init_29 : decode b_Hyp_init 29 = .ok (.bipush 20, 2) := by decide +kernel
theorem d_Hyp_init_31 : decode b_Hyp_init 31 = .ok (.if_icmp .ge 22, 3) := by decide +kernel
theorem d_Hyp_init_34 : decode b_Hyp_init 34 = .ok (.aload_n 0, 1) := by decide +kernel
theorem d_Hyp_init_35 : decode b_Hyp_init 35 = .ok (.getfield 11, 3) := by decide +kernel
theorem d_Hyp_init_38 : decode b_Hyp_init 38 = .ok (.iload_n 1, 1) := by decide +kernel
theorem d_Hyp_init_39 : decode b_Hyp_init 39 = .ok (.new 9, 3) := by decide +kernel
theorem d_Hyp_init_42 : decode b_Hyp_init 42 = .ok (.dup, 1) := by decide +kernel
theorem d_Hyp_init_43 : decode b_Hyp_init 43 = .ok (.invokespecial 25, 3) := by decide +kernel
theorem d_Hyp_init_46 : decode b_Hyp_init 46 = .ok (.aastore, 1) := by decide +kernel
theorem d_Hyp_init_47 : decode b_Hyp_init 47 = .ok (.iinc 1 1, 3) := by decide +kernel
theorem d_Hyp_init_50 : decode b_Hyp_init 50 = .ok (.goto (-22), 3) := by decide +kernel
theorem d_Hyp_init_53 : decode b_Hyp_init 53 = .ok (.return_, 1) := by decide +kernel
theorem d_Pat_init_0 : decode b_Pat_init 0 = .ok (.aload_n 0, 1) := by decide +kernel
theorem d_Pat_init_1 : decode b_Pat_init 1 = .ok (.invokespecial 3, 3) := by decide +kernel
theorem d_Pat_init_4 : decode b_Pat_init 4 = .ok (.aload_n 0, 1) := by decide +kernel
theorem d_Pat_init_5 : decode b_Pat_init 5 = .ok (.iconst 5, 1) := by decide +kernel
theorem d_Pat_init_6 : decode b_Pat_init 6 = .ok (.newarray .int, 2) := by decide +kernel
theorem d_Pat_init_8 : decode b_Pat_init 8 = .ok (.putfield 9, 3) := by decide +kernel
theorem d_Pat_init_11 : decode b_Pat_init 11 = .ok (.aload_n 0, 1) := by decide +kernel
theorem d_Pat_init_12 : decode b_Pat_init 12 = .ok (.bipush 6, 2) := by decide +kernel
theorem d_Pat_init_14 : decode b_Pat_init 14 = .ok (.newarray .int, 2) := by decide +kernel
theorem d_Pat_init_16 : decode b_Pat_init 16 = .ok (.putfield 15, 3) := by decide +kernel
theorem d_Pat_init_19 : decode b_Pat_init 19 = .ok (.aload_n 0, 1) := by decide +kernel
theorem d_Pat_init_20 : decode b_Pat_init 20 = .ok (.iconst 0, 1) := by decide +kernel
theorem d_Pat_init_21 : decode b_Pat_init 21 = .ok (.putfield 18, 3) := by decide +kernel
theorem d_Pat_init_24 : decode b_Pat_init 24 = .ok (.return_, 1) := by decide +kernel
theorem d_Txt_init_0 : decode b_Txt_init 0 = .ok (.aload_n 0, 1) := by decide +kernel
theorem d_Txt_init_1 : decode b_Txt_init 1 = .ok (.invokespecial 3, 3) := by decide +kernel
theorem d_Txt_init_4 : decode b_Txt_init 4 = .ok (.aload_n 0, 1) := by decide +kernel
theorem d_Txt_init_5 : decode b_Txt_init 5 = .ok (.bipush 120, 2) := by decide +kernel
theorem d_Txt_init_7 : decode b_Txt_init 7 = .ok (.newarray .int, 2) := by decide +kernel
theorem d_Txt_init_9 : decode b_Txt_init 9 = .ok (.putfield 9, 3) := by decide +kernel
theorem d_Txt_init_12 : decode b_Txt_init 12 = .ok (.aload_n 0, 1) := by decide +kernel
theorem d_Txt_init_13 : decode b_Txt_init 13 = .ok (.bipush 120, 2) := by decide +kernel
theorem d_Txt_init_15 : decode b_Txt_init 15 = .ok (.newarray .int, 2) := by decide +kernel
theorem d_Txt_init_17 : decode b_Txt_init 17 = .ok (.putfield 15, 3) := by decide +kernel
theorem d_Txt_init_20 : decode b_Txt_init 20 = .ok (.aload_n 0, 1) := by decide +kernel
theorem d_Txt_init_21 : decode b_Txt_init 21 = .ok (.iconst 0, 1) := by decide +kernel
theorem d_Txt_init_22 : decode b_Txt_init 22 = .ok (.putfield 18, 3) := by decide +kernel
theorem d_Txt_init_25 : decode b_Txt_init 25 = .ok (.return_, 1) := by decide +kernel
theorem d_Brk_init_0 : decode b_Brk_init 0 = .ok (.aload_n 0, 1) := by decide +kernel
theorem d_Brk_init_1 : decode b_Brk_init 1 = .ok (.invokespecial 3, 3) := by decide +kernel
theorem d_Brk_init_4 : decode b_Brk_init 4 = .ok (.aload_n 0, 1) := by decide +kernel
theorem d_Brk_init_5 : decode b_Brk_init 5 = .ok (.bipush 25, 2) := by decide +kernel
theorem d_Brk_init_7 : decode b_Brk_init 7 = .ok (.newarray .int, 2) := by decide +kernel
theorem d_Brk_init_9 : decode b_Brk_init 9 = .ok (.putfield 9, 3) := by decide +kernel
theorem d_Brk_init_12 : decode b_Brk_init 12 = .ok (.aload_n 0, 1) := by decide +kernel
theorem d_Brk_init_13 : decode b_Brk_init 13 = .ok (.bipush 25, 2) := by decide +kernel
theorem d_Brk_init_15 : decode b_Brk_init 15 = .ok (.newarray .int, 2) := by decide +kernel
theorem d_Brk_init_17 : decode b_Brk_init 17 = .ok (.putfield 15, 3) := by decide +kernel
theorem d_Brk_init_20 : decode b_Brk_init 20 = .ok (.aload_n 0, 1) := by decide +kernel
theorem d_Brk_init_21 : decode b_Brk_init 21 = .ok (.bipush 25, 2) := by decide +kernel
theorem d_Brk_init_23 : decode b_Brk_init 23 = .ok (.newarray .int, 2) := by decide +kernel
theorem d_Brk_init_25 : decode b_Brk_init 25 = .ok (.putfield 18, 3) := by decide +kernel
theorem d_Brk_init_28 : decode b_Brk_init 28 = .ok (.aload_n 0, 1) := by decide +kernel
theorem d_Brk_init_29 : decode b_Brk_init 29 = .ok (.iconst 0, 1) := by decide +kernel
theorem d_Brk_init_30 : decode b_Brk_init 30 = .ok (.putfield 21, 3) := by decide +kernel
theorem d_Brk_init_33 : decode b_Brk_init 33 = .ok (.return_, 1) := by decide +kernel
theorem d_Sum_init_0 : decode b_Sum_init 0 = .ok (.aload_n 0, 1) := by decide +kernel
theorem d_Sum_init_1 : decode b_Sum_init 1 = .ok (.invokespecial 3, 3) := by decide +kernel
theorem d_Sum_init_4 : decode b_Sum_init 4 = .ok (.aload_n 0, 1) := by decide +kernel
theorem d_Sum_init_5 : decode b_Sum_init 5 = .ok (.bipush 121, 2) := by decide +kernel
theorem d_Sum_init_7 : decode b_Sum_init 7 = .ok (.newarray .int, 2) := by decide +kernel
theorem d_Sum_init_9 : decode b_Sum_init 9 = .ok (.putfield 9, 3) := by decide +kernel
theorem d_Sum_init_12 : decode b_Sum_init 12 = .ok (.aload_n 0, 1) := by decide +kernel
theorem d_Sum_init_13 : decode b_Sum_init 13 = .ok (.bipush 121, 2) := by decide +kernel
theorem d_Sum_init_15 : decode b_Sum_init 15 = .ok (.newarray .int, 2) := by decide +kernel
theorem d_Sum_init_17 : decode b_Sum_init 17 = .ok (.putfield 15, 3) := by decide +kernel
theorem d_Sum_init_20 : decode b_Sum_init 20 = .ok (.aload_n 0, 1) := by decide +kernel
theorem d_Sum_init_21 : decode b_Sum_init 21 = .ok (.bipush 121, 2) := by decide +kernel
theorem d_Sum_init_23 : decode b_Sum_init 23 = .ok (.newarray .int, 2) := by decide +kernel
theorem d_Sum_init_25 : decode b_Sum_init 25 = .ok (.putfield 18, 3) := by decide +kernel
theorem d_Sum_init_28 : decode b_Sum_init 28 = .ok (.aload_n 0, 1) := by decide +kernel
theorem d_Sum_init_29 : decode b_Sum_init 29 = .ok (.bipush 121, 2) := by decide +kernel
theorem d_Sum_init_31 : decode b_Sum_init 31 = .ok (.newarray .int, 2) := by decide +kernel
theorem d_Sum_init_33 : decode b_Sum_init 33 = .ok (.putfield 21, 3) := by decide +kernel
theorem d_Sum_init_36 : decode b_Sum_init 36 = .ok (.aload_n 0, 1) := by decide +kernel
theorem d_Sum_init_37 : decode b_Sum_init 37 = .ok (.bipush 121, 2) := by decide +kernel
theorem d_Sum_init_39 : decode b_Sum_init 39 = .ok (.newarray .int, 2) := by decide +kernel
theorem d_Sum_init_41 : decode b_Sum_init 41 = .ok (.putfield 24, 3) := by decide +kernel
theorem d_Sum_init_44 : decode b_Sum_init 44 = .ok (.return_, 1) := by decide +kernel
theorem d_Hyp_isFull_0 : decode b_Hyp_isFull 0 = .ok (.aload_n 0, 1) := by decide +kernel
theorem d_Hyp_isFull_1 : decode b_Hyp_isFull 1 = .ok (.getfield 17, 3) := by decide +kernel
theorem d_Hyp_isFull_4 : decode b_Hyp_isFull 4 = .ok (.bipush 20, 2) := by decide +kernel
theorem d_Hyp_isFull_6 : decode b_Hyp_isFull 6 = .ok (.if_icmp .ne 7, 3) := by decide +kernel
theorem d_Hyp_isFull_9 : decode b_Hyp_isFull 9 = .ok (.iconst 1, 1) := by decide +kernel
theorem d_Hyp_isFull_10 : decode b_Hyp_isFull 10 = .ok (.goto 4, 3) := by decide +kernel
theorem d_Hyp_isFull_13 : decode b_Hyp_isFull 13 = .ok (.iconst 0, 1) := by decide +kernel
theorem d_Hyp_isFull_14 : decode b_Hyp_isFull 14 = .ok (.ireturn, 1) := by decide +kernel
theorem d_Hyp_learn_0 : decode b_Hyp_learn 0 = .ok (.aload_n 0, 1) := by decide +kernel
theorem d_Hyp_learn_1 : decode b_Hyp_learn 1 = .ok (.invokevirtual 26, 3) := by decide +kernel
theorem d_Hyp_learn_4 : decode b_Hyp_learn 4 = .ok (.ifCond .ne 19, 3) := by decide +kernel
theorem d_Hyp_learn_7 : decode b_Hyp_learn 7 = .ok (.aload_n 0, 1) := by decide +kernel
theorem d_Hyp_learn_8 : decode b_Hyp_learn 8 = .ok (.getfield 11, 3) := by decide +kernel
theorem d_Hyp_learn_11 : decode b_Hyp_learn 11 = .ok (.aload_n 0, 1) := by decide +kernel
theorem d_Hyp_learn_12 : decode b_Hyp_learn 12 = .ok (.getfield 17, 3) := by decide +kernel
theorem d_Hyp_learn_15 : decode b_Hyp_learn 15 = .ok (.aaload, 1) := by decide +kernel
theorem d_Hyp_learn_16 : decode b_Hyp_learn 16 = .ok (.aload_n 1, 1) := by decide +kernel
theorem d_Hyp_learn_17 : decode b_Hyp_learn 17 = .ok (.invokevirtual 30, 3) := by decide +kernel
theorem d_Hyp_learn_20 : decode b_Hyp_learn 20 = .ok (.ifCond .ne 5, 3) := by decide +kernel
theorem d_Hyp_learn_23 : decode b_Hyp_learn 23 = .ok (.iconst 0, 1) := by decide +kernel
theorem d_Hyp_learn_24 : decode b_Hyp_learn 24 = .ok (.ireturn, 1) := by decide +kernel
theorem d_Hyp_learn_25 : decode b_Hyp_learn 25 = .ok (.aload_n 0, 1) := by decide +kernel
theorem d_Hyp_learn_26 : decode b_Hyp_learn 26 = .ok (.dup, 1) := by decide +kernel
theorem d_Hyp_learn_27 : decode b_Hyp_learn 27 = .ok (.getfield 17, 3) := by decide +kernel
theorem d_Hyp_learn_30 : decode b_Hyp_learn 30 = .ok (.iconst 1, 1) := by decide +kernel
theorem d_Hyp_learn_31 : decode b_Hyp_learn 31 = .ok (.iadd, 1) := by decide +kernel
theorem d_Hyp_learn_32 : decode b_Hyp_learn 32 = .ok (.putfield 17, 3) := by decide +kernel
theorem d_Hyp_learn_35 : decode b_Hyp_learn 35 = .ok (.iconst 1, 1) := by decide +kernel
theorem d_Hyp_learn_36 : decode b_Hyp_learn 36 = .ok (.ireturn, 1) := by decide +kernel
theorem d_Pat_read_0 : decode b_Pat_read 0 = .ok (.aload_n 0, 1) := by decide +kernel
theorem d_Pat_read_1 : decode b_Pat_read 1 = .ok (.iconst 0, 1) := by decide +kernel
theorem d_Pat_read_2 : decode b_Pat_read 2 = .ok (.putfield 18, 3) := by decide +kernel
theorem d_Pat_read_5 : decode b_Pat_read 5 = .ok (.aload_n 0, 1) := by decide +kernel
theorem d_Pat_read_6 : decode b_Pat_read 6 = .ok (.getfield 15, 3) := by decide +kernel
theorem d_Pat_read_9 : decode b_Pat_read 9 = .ok (.iconst 0, 1) := by decide +kernel
theorem d_Pat_read_10 : decode b_Pat_read 10 = .ok (.iconst 0, 1) := by decide +kernel
theorem d_Pat_read_11 : decode b_Pat_read 11 = .ok (.iastore, 1) := by decide +kernel
theorem d_Pat_read_12 : decode b_Pat_read 12 = .ok (.iconst 0, 1) := by decide +kernel
theorem d_Pat_read_13 : decode b_Pat_read 13 = .ok (.istore_n 2, 1) := by decide +kernel
theorem d_Pat_read_14 : decode b_Pat_read 14 = .ok (.iconst 0, 1) := by decide +kernel
theorem d_Pat_read_15 : decode b_Pat_read 15 = .ok (.istore_n 3, 1) := by decide +kernel
theorem d_Pat_read_16 : decode b_Pat_read 16 = .ok (.iload_n 3, 1) := by decide +kernel
theorem d_Pat_read_17 : decode b_Pat_read 17 = .ok (.aload_n 1, 1) := by decide +kernel
theorem d_Pat_read_18 : decode b_Pat_read 18 = .ok (.getfield 22, 3) := by decide +kernel
theorem d_Pat_read_21 : decode b_Pat_read 21 = .ok (.if_icmp .ge 63, 3) := by decide +kernel
theorem d_Pat_read_24 : decode b_Pat_read 24 = .ok (.aload_n 1, 1) := by decide +kernel
theorem d_Pat_read_25 : decode b_Pat_read 25 = .ok (.getfield 25, 3) := by decide +kernel
theorem d_Pat_read_28 : decode b_Pat_read 28 = .ok (.iload_n 3, 1) := by decide +kernel
theorem d_Pat_read_29 : decode b_Pat_read 29 = .ok (.iaload, 1) := by decide +kernel
theorem d_Pat_read_30 : decode b_Pat_read 30 = .ok (.istore 4, 2) := by decide +kernel
theorem d_Pat_read_32 : decode b_Pat_read 32 = .ok (.iload 4, 2) := by decide +kernel
theorem d_Pat_read_34 : decode b_Pat_read 34 = .ok (.invokestatic 28, 3) := by decide +kernel
theorem d_Pat_read_37 : decode b_Pat_read 37 = .ok (.ifCond .eq 28, 3) := by decide +kernel
theorem d_Pat_read_40 : decode b_Pat_read 40 = .ok (.iload_n 2, 1) := by decide +kernel
theorem d_Pat_read_41 : decode b_Pat_read 41 = .ok (.ifCond .eq 5, 3) := by decide +kernel
theorem d_Pat_read_44 : decode b_Pat_read 44 = .ok (.iconst 0, 1) := by decide +kernel
theorem d_Pat_read_45 : decode b_Pat_read 45 = .ok (.ireturn, 1) := by decide +kernel
theorem d_Pat_read_46 : decode b_Pat_read 46 = .ok (.aload_n 0, 1) := by decide +kernel
theorem d_Pat_read_47 : decode b_Pat_read 47 = .ok (.getfield 15, 3) := by decide +kernel
theorem d_Pat_read_50 : decode b_Pat_read 50 = .ok (.aload_n 0, 1) := by decide +kernel
theorem d_Pat_read_51 : decode b_Pat_read 51 = .ok (.getfield 18, 3) := by decide +kernel
theorem d_Pat_read_54 : decode b_Pat_read 54 = .ok (.iload 4, 2) := by decide +kernel
theorem d_Pat_read_56 : decode b_Pat_read 56 = .ok (.bipush 48, 2) := by decide +kernel
theorem d_Pat_read_58 : decode b_Pat_read 58 = .ok (.isub, 1) := by decide +kernel
theorem d_Pat_read_59 : decode b_Pat_read 59 = .ok (.iastore, 1) := by decide +kernel
theorem d_Pat_read_60 : decode b_Pat_read 60 = .ok (.iconst 1, 1) := by decide +kernel
theorem d_Pat_read_61 : decode b_Pat_read 61 = .ok (.istore_n 2, 1) := by decide +kernel
theorem d_Pat_read_62 : decode b_Pat_read 62 = .ok (.goto 16, 3) := by decide +kernel
theorem d_Pat_read_65 : decode b_Pat_read 65 = .ok (.aload_n 0, 1) := by decide +kernel
theorem d_Pat_read_66 : decode b_Pat_read 66 = .ok (.iload 4, 2) := by decide +kernel
theorem d_Pat_read_68 : decode b_Pat_read 68 = .ok (.invokevirtual 32, 3) := by decide +kernel
theorem d_Pat_read_71 : decode b_Pat_read 71 = .ok (.ifCond .ne 5, 3) := by decide +kernel
theorem d_Pat_read_74 : decode b_Pat_read 74 = .ok (.iconst 0, 1) := by decide +kernel
theorem d_Pat_read_75 : decode b_Pat_read 75 = .ok (.ireturn, 1) := by decide +kernel
theorem d_Pat_read_76 : decode b_Pat_read 76 = .ok (.iconst 0, 1) := by decide +kernel
theorem d_Pat_read_77 : decode b_Pat_read 77 = .ok (.istore_n 2, 1) := by decide +kernel
theorem d_Pat_read_78 : decode b_Pat_read 78 = .ok (.iinc 3 1, 3) := by decide +kernel
theorem d_Pat_read_81 : decode b_Pat_read 81 = .ok (.goto (-65), 3) := by decide +kernel
theorem d_Pat_read_84 : decode b_Pat_read 84 = .ok (.aload_n 0, 1) := by decide +kernel
theorem d_Pat_read_85 : decode b_Pat_read 85 = .ok (.getfield 18, 3) := by decide +kernel
theorem d_Pat_read_88 : decode b_Pat_read 88 = .ok (.ifCond .le 14, 3) := by decide +kernel
theorem d_Pat_read_91 : decode b_Pat_read 91 = .ok (.aload_n 0, 1) := by decide +kernel
theorem d_Pat_read_92 : decode b_Pat_read 92 = .ok (.invokevirtual 35, 3) := by decide +kernel
theorem d_Pat_read_95 : decode b_Pat_read 95 = .ok (.ifCond .eq 7, 3) := by decide +kernel
theorem d_Pat_read_98 : decode b_Pat_read 98 = .ok (.iconst 1, 1) := by decide +kernel
theorem d_Pat_read_99 : decode b_Pat_read 99 = .ok (.goto 4, 3) := by decide +kernel
theorem d_Pat_read_102 : decode b_Pat_read 102 = .ok (.iconst 0, 1) := by decide +kernel
theorem d_Pat_read_103 : decode b_Pat_read 103 = .ok (.ireturn, 1) := by decide +kernel
theorem d_Pat_addSign_0 : decode b_Pat_addSign 0 = .ok (.aload_n 0, 1) := by decide +kernel
theorem d_Pat_addSign_1 : decode b_Pat_addSign 1 = .ok (.getfield 18, 3) := by decide +kernel
theorem d_Pat_addSign_4 : decode b_Pat_addSign 4 = .ok (.iconst 5, 1) := by decide +kernel
theorem d_Pat_addSign_5 : decode b_Pat_addSign 5 = .ok (.if_icmp .eq 16, 3) := by decide +kernel
theorem d_Pat_addSign_8 : decode b_Pat_addSign 8 = .ok (.iload_n 1, 1) := by decide +kernel
theorem d_Pat_addSign_9 : decode b_Pat_addSign 9 = .ok (.invokestatic 39, 3) := by decide +kernel
theorem d_Pat_addSign_12 : decode b_Pat_addSign 12 = .ok (.ifCond .ne 11, 3) := by decide +kernel
theorem d_Pat_addSign_15 : decode b_Pat_addSign 15 = .ok (.iload_n 1, 1) := by decide +kernel
theorem d_Pat_addSign_16 : decode b_Pat_addSign 16 = .ok (.bipush 46, 2) := by decide +kernel
theorem d_Pat_addSign_18 : decode b_Pat_addSign 18 = .ok (.if_icmp .eq 5, 3) := by decide +kernel
theorem d_Pat_addSign_21 : decode b_Pat_addSign 21 = .ok (.iconst 0, 1) := by decide +kernel
theorem d_Pat_addSign_22 : decode b_Pat_addSign 22 = .ok (.ireturn, 1) := by decide +kernel
theorem d_Pat_addSign_23 : decode b_Pat_addSign 23 = .ok (.aload_n 0, 1) := by decide +kernel
theorem d_Pat_addSign_24 : decode b_Pat_addSign 24 = .ok (.getfield 9, 3) := by decide +kernel
theorem d_Pat_addSign_27 : decode b_Pat_addSign 27 = .ok (.aload_n 0, 1) := by decide +kernel
theorem d_Pat_addSign_28 : decode b_Pat_addSign 28 = .ok (.getfield 18, 3) := by decide +kernel
theorem d_Pat_addSign_31 : decode b_Pat_addSign 31 = .ok (.iload_n 1, 1) := by decide +kernel
theorem d_Pat_addSign_32 : decode b_Pat_addSign 32 = .ok (.iastore, 1) := by decide +kernel
theorem d_Pat_addSign_33 : decode b_Pat_addSign 33 = .ok (.aload_n 0, 1) := by decide +kernel
theorem d_Pat_addSign_34 : decode b_Pat_addSign 34 = .ok (.dup, 1) := by decide +kernel
theorem d_Pat_addSign_35 : decode b_Pat_addSign 35 = .ok (.getfield 18, 3) := by decide +kernel
theorem d_Pat_addSign_38 : decode b_Pat_addSign 38 = .ok (.iconst 1, 1) := by decide +kernel
theorem d_Pat_addSign_39 : decode b_Pat_addSign 39 = .ok (.iadd, 1) := by decide +kernel
theorem d_Pat_addSign_40 : decode b_Pat_addSign 40 = .ok (.putfield 18, 3) := by decide +kernel
theorem d_Pat_addSign_43 : decode b_Pat_addSign 43 = .ok (.aload_n 0, 1) := by decide +kernel
theorem d_Pat_addSign_44 : decode b_Pat_addSign 44 = .ok (.getfield 15, 3) := by decide +kernel
theorem d_Pat_addSign_47 : decode b_Pat_addSign 47 = .ok (.aload_n 0, 1) := by decide +kernel
theorem d_Pat_addSign_48 : decode b_Pat_addSign 48 = .ok (.getfield 18, 3) := by decide +kernel
theorem d_Pat_addSign_51 : decode b_Pat_addSign 51 = .ok (.iconst 0, 1) := by decide +kernel
theorem d_Pat_addSign_52 : decode b_Pat_addSign 52 = .ok (.iastore, 1) := by decide +kernel
theorem d_Pat_addSign_53 : decode b_Pat_addSign 53 = .ok (.iconst 1, 1) := by decide +kernel
theorem d_Pat_addSign_54 : decode b_Pat_addSign 54 = .ok (.ireturn, 1) := by decide +kernel
theorem d_Pat_hasPointsAtEdgesOnly_0 : decode b_Pat_hasPointsAtEdgesOnly 0 = .ok (.iconst 1, 1) := by decide +kernel
theorem d_Pat_hasPointsAtEdgesOnly_1 : decode b_Pat_hasPointsAtEdgesOnly 1 = .ok (.istore_n 1, 1) := by decide +kernel
theorem d_Pat_hasPointsAtEdgesOnly_2 : decode b_Pat_hasPointsAtEdgesOnly 2 = .ok (.iload_n 1, 1) := by decide +kernel
theorem d_Pat_hasPointsAtEdgesOnly_3 : decode b_Pat_hasPointsAtEdgesOnly 3 = .ok (.aload_n 0, 1) := by decide +kernel
theorem d_Pat_hasPointsAtEdgesOnly_4 : decode b_Pat_hasPointsAtEdgesOnly 4 = .ok (.getfield 18, 3) := by decide +kernel
theorem d_Pat_hasPointsAtEdgesOnly_7 : decode b_Pat_hasPointsAtEdgesOnly 7 = .ok (.iconst 1, 1) := by decide +kernel
theorem d_Pat_hasPointsAtEdgesOnly_8 : decode b_Pat_hasPointsAtEdgesOnly 8 = .ok (.isub, 1) := by decide +kernel
theorem d_Pat_hasPointsAtEdgesOnly_9 : decode b_Pat_hasPointsAtEdgesOnly 9 = .ok (.if_icmp .ge 22, 3) := by decide +kernel
theorem d_Pat_hasPointsAtEdgesOnly_12 : decode b_Pat_hasPointsAtEdgesOnly 12 = .ok (.aload_n 0, 1) := by decide +kernel
theorem d_Pat_hasPointsAtEdgesOnly_13 : decode b_Pat_hasPointsAtEdgesOnly 13 = .ok (.getfield 9, 3) := by decide +kernel
theorem d_Pat_hasPointsAtEdgesOnly_16 : decode b_Pat_hasPointsAtEdgesOnly 16 = .ok (.iload_n 1, 1) := by decide +kernel
theorem d_Pat_hasPointsAtEdgesOnly_17 : decode b_Pat_hasPointsAtEdgesOnly 17 = .ok (.iaload, 1) := by decide +kernel
theorem d_Pat_hasPointsAtEdgesOnly_18 : decode b_Pat_hasPointsAtEdgesOnly 18 = .ok (.bipush 46, 2) := by decide +kernel
theorem d_Pat_hasPointsAtEdgesOnly_20 : decode b_Pat_hasPointsAtEdgesOnly 20 = .ok (.if_icmp .ne 5, 3) := by decide +kernel
theorem d_Pat_hasPointsAtEdgesOnly_23 : decode b_Pat_hasPointsAtEdgesOnly 23 = .ok (.iconst 0, 1) := by decide +kernel
theorem d_Pat_hasPointsAtEdgesOnly_24 : decode b_Pat_hasPointsAtEdgesOnly 24 = .ok (.ireturn, 1) := by decide +kernel
theorem d_Pat_hasPointsAtEdgesOnly_25 : decode b_Pat_hasPointsAtEdgesOnly 25 = .ok (.iinc 1 1, 3) := by decide +kernel
theorem d_Pat_hasPointsAtEdgesOnly_28 : decode b_Pat_hasPointsAtEdgesOnly 28 = .ok (.goto (-26), 3) := by decide +kernel
theorem d_Pat_hasPointsAtEdgesOnly_31 : decode b_Pat_hasPointsAtEdgesOnly 31 = .ok (.iconst 1, 1) := by decide +kernel
theorem d_Pat_hasPointsAtEdgesOnly_32 : decode b_Pat_hasPointsAtEdgesOnly 32 = .ok (.ireturn, 1) := by decide +kernel
theorem d_Txt_add_0 : decode b_Txt_add 0 = .ok (.aload_n 0, 1) := by decide +kernel
theorem d_Txt_add_1 : decode b_Txt_add 1 = .ok (.getfield 18, 3) := by decide +kernel
theorem d_Txt_add_4 : decode b_Txt_add 4 = .ok (.bipush 120, 2) := by decide +kernel
theorem d_Txt_add_6 : decode b_Txt_add 6 = .ok (.if_icmp .ne 5, 3) := by decide +kernel
theorem d_Txt_add_9 : decode b_Txt_add 9 = .ok (.iconst 0, 1) := by decide +kernel
theorem d_Txt_add_10 : decode b_Txt_add 10 = .ok (.ireturn, 1) := by decide +kernel
theorem d_Txt_add_11 : decode b_Txt_add 11 = .ok (.aload_n 0, 1) := by decide +kernel
theorem d_Txt_add_12 : decode b_Txt_add 12 = .ok (.getfield 9, 3) := by decide +kernel
theorem d_Txt_add_15 : decode b_Txt_add 15 = .ok (.aload_n 0, 1) := by decide +kernel
theorem d_Txt_add_16 : decode b_Txt_add 16 = .ok (.getfield 18, 3) := by decide +kernel
theorem d_Txt_add_19 : decode b_Txt_add 19 = .ok (.iload_n 1, 1) := by decide +kernel
theorem d_Txt_add_20 : decode b_Txt_add 20 = .ok (.iastore, 1) := by decide +kernel
theorem d_Txt_add_21 : decode b_Txt_add 21 = .ok (.aload_n 0, 1) := by decide +kernel
theorem d_Txt_add_22 : decode b_Txt_add 22 = .ok (.getfield 15, 3) := by decide +kernel
theorem d_Txt_add_25 : decode b_Txt_add 25 = .ok (.aload_n 0, 1) := by decide +kernel
theorem d_Txt_add_26 : decode b_Txt_add 26 = .ok (.getfield 18, 3) := by decide +kernel
theorem d_Txt_add_29 : decode b_Txt_add 29 = .ok (.iload_n 2, 1) := by decide +kernel
theorem d_Txt_add_30 : decode b_Txt_add 30 = .ok (.iastore, 1) := by decide +kernel
theorem d_Txt_add_31 : decode b_Txt_add 31 = .ok (.aload_n 0, 1) := by decide +kernel
theorem d_Txt_add_32 : decode b_Txt_add 32 = .ok (.dup, 1) := by decide +kernel
theorem d_Txt_add_33 : decode b_Txt_add 33 = .ok (.getfield 18, 3) := by decide +kernel
theorem d_Txt_add_36 : decode b_Txt_add 36 = .ok (.iconst 1, 1) := by decide +kernel
theorem d_Txt_add_37 : decode b_Txt_add 37 = .ok (.iadd, 1) := by decide +kernel
theorem d_Txt_add_38 : decode b_Txt_add 38 = .ok (.putfield 18, 3) := by decide +kernel
theorem d_Txt_add_41 : decode b_Txt_add 41 = .ok (.iconst 1, 1) := by decide +kernel
theorem d_Txt_add_42 : decode b_Txt_add 42 = .ok (.ireturn, 1) := by decide +kernel
theorem d_Txt_tidy_0 : decode b_Txt_tidy 0 = .ok (.aload_n 0, 1) := by decide +kernel
theorem d_Txt_tidy_1 : decode b_Txt_tidy 1 = .ok (.invokevirtual 26, 3) := by decide +kernel
theorem d_Txt_tidy_4 : decode b_Txt_tidy 4 = .ok (.aload_n 0, 1) := by decide +kernel
theorem d_Txt_tidy_5 : decode b_Txt_tidy 5 = .ok (.invokevirtual 29, 3) := by decide +kernel
theorem d_Txt_tidy_8 : decode b_Txt_tidy 8 = .ok (.aload_n 0, 1) := by decide +kernel
theorem d_Txt_tidy_9 : decode b_Txt_tidy 9 = .ok (.invokevirtual 32, 3) := by decide +kernel
theorem d_Txt_tidy_12 : decode b_Txt_tidy 12 = .ok (.aload_n 0, 1) := by decide +kernel
theorem d_Txt_tidy_13 : decode b_Txt_tidy 13 = .ok (.getfield 18, 3) := by decide +kernel
theorem d_Txt_tidy_16 : decode b_Txt_tidy 16 = .ok (.ifCond .le 29, 3) := by decide +kernel
theorem d_Txt_tidy_19 : decode b_Txt_tidy 19 = .ok (.aload_n 0, 1) := by decide +kernel
theorem d_Txt_tidy_20 : decode b_Txt_tidy 20 = .ok (.getfield 9, 3) := by decide +kernel
theorem d_Txt_tidy_23 : decode b_Txt_tidy 23 = .ok (.aload_n 0, 1) := by decide +kernel
theorem d_Txt_tidy_24 : decode b_Txt_tidy 24 = .ok (.getfield 18, 3) := by decide +kernel
theorem d_Txt_tidy_27 : decode b_Txt_tidy 27 = .ok (.iconst 1, 1) := by decide +kernel
theorem d_Txt_tidy_28 : decode b_Txt_tidy 28 = .ok (.isub, 1) := by decide +kernel
theorem d_Txt_tidy_29 : decode b_Txt_tidy 29 = .ok (.iaload, 1) := by decide +kernel
theorem d_Txt_tidy_30 : decode b_Txt_tidy 30 = .ok (.bipush 124, 2) := by decide +kernel
theorem d_Txt_tidy_32 : decode b_Txt_tidy 32 = .ok (.if_icmp .ne 13, 3) := by decide +kernel
theorem d_Txt_tidy_35 : decode b_Txt_tidy 35 = .ok (.aload_n 0, 1) := by decide +kernel
theorem d_Txt_tidy_36 : decode b_Txt_tidy 36 = .ok (.dup, 1) := by decide +kernel
theorem d_Txt_tidy_37 : decode b_Txt_tidy 37 = .ok (.getfield 18, 3) := by decide +kernel
theorem d_Txt_tidy_40 : decode b_Txt_tidy 40 = .ok (.iconst 1, 1) := by decide +kernel
theorem d_Txt_tidy_41 : decode b_Txt_tidy 41 = .ok (.isub, 1) := by decide +kernel
theorem d_Txt_tidy_42 : decode b_Txt_tidy 42 = .ok (.putfield 18, 3) := by decide +kernel
theorem d_Txt_tidy_45 : decode b_Txt_tidy 45 = .ok (.return_, 1) := by decide +kernel
theorem d_Txt_dropBlanksBehind_0 : decode b_Txt_dropBlanksBehind 0 = .ok (.iconst 0, 1) := by decide +kernel
theorem d_Txt_dropBlanksBehind_1 : decode b_Txt_dropBlanksBehind 1 = .ok (.istore_n 1, 1) := by decide +kernel
theorem d_Txt_dropBlanksBehind_2 : decode b_Txt_dropBlanksBehind 2 = .ok (.iconst 0, 1) := by decide +kernel
theorem d_Txt_dropBlanksBehind_3 : decode b_Txt_dropBlanksBehind 3 = .ok (.istore_n 2, 1) := by decide +kernel
theorem d_Txt_dropBlanksBehind_4 : decode b_Txt_dropBlanksBehind 4 = .ok (.iload_n 2, 1) := by decide +kernel
theorem d_Txt_dropBlanksBehind_5 : decode b_Txt_dropBlanksBehind 5 = .ok (.aload_n 0, 1) := by decide +kernel
theorem d_Txt_dropBlanksBehind_6 : decode b_Txt_dropBlanksBehind 6 = .ok (.getfield 18, 3) := by decide +kernel
theorem d_Txt_dropBlanksBehind_9 : decode b_Txt_dropBlanksBehind 9 = .ok (.if_icmp .ge 69, 3) := by decide +kernel
theorem d_Txt_dropBlanksBehind_12 : decode b_Txt_dropBlanksBehind 12 = .ok (.aload_n 0, 1) := by decide +kernel
theorem d_Txt_dropBlanksBehind_13 : decode b_Txt_dropBlanksBehind 13 = .ok (.getfield 9, 3) := by decide +kernel
theorem d_Txt_dropBlanksBehind_16 : decode b_Txt_dropBlanksBehind 16 = .ok (.iload_n 2, 1) := by decide +kernel
theorem d_Txt_dropBlanksBehind_17 : decode b_Txt_dropBlanksBehind 17 = .ok (.iaload, 1) := by decide +kernel
theorem d_Txt_dropBlanksBehind_18 : decode b_Txt_dropBlanksBehind 18 = .ok (.bipush 32, 2) := by decide +kernel
theorem d_Txt_dropBlanksBehind_20 : decode b_Txt_dropBlanksBehind 20 = .ok (.if_icmp .ne 37, 3) := by decide +kernel
theorem d_Txt_dropBlanksBehind_23 : decode b_Txt_dropBlanksBehind 23 = .ok (.iload_n 1, 1) := by decide +kernel
theorem d_Txt_dropBlanksBehind_24 : decode b_Txt_dropBlanksBehind 24 = .ok (.ifCond .eq 29, 3) := by decide +kernel
theorem d_Txt_dropBlanksBehind_27 : decode b_Txt_dropBlanksBehind 27 = .ok (.aload_n 0, 1) := by decide +kernel
theorem d_Txt_dropBlanksBehind_28 : decode b_Txt_dropBlanksBehind 28 = .ok (.getfield 9, 3) := by decide +kernel
theorem d_Txt_dropBlanksBehind_31 : decode b_Txt_dropBlanksBehind 31 = .ok (.iload_n 1, 1) := by decide +kernel
theorem d_Txt_dropBlanksBehind_32 : decode b_Txt_dropBlanksBehind 32 = .ok (.iconst 1, 1) := by decide +kernel
theorem d_Txt_dropBlanksBehind_33 : decode b_Txt_dropBlanksBehind 33 = .ok (.isub, 1) := by decide +kernel
theorem d_Txt_dropBlanksBehind_34 : decode b_Txt_dropBlanksBehind 34 = .ok (.iaload, 1) := by decide +kernel
theorem d_Txt_dropBlanksBehind_35 : decode b_Txt_dropBlanksBehind 35 = .ok (.bipush 32, 2) := by decide +kernel
theorem d_Txt_dropBlanksBehind_37 : decode b_Txt_dropBlanksBehind 37 = .ok (.if_icmp .eq 16, 3) := by decide +kernel
theorem d_Txt_dropBlanksBehind_40 : decode b_Txt_dropBlanksBehind 40 = .ok (.aload_n 0, 1) := by decide +kernel
theorem d_Txt_dropBlanksBehind_41 : decode b_Txt_dropBlanksBehind 41 = .ok (.getfield 9, 3) := by decide +kernel
theorem d_Txt_dropBlanksBehind_44 : decode b_Txt_dropBlanksBehind 44 = .ok (.iload_n 1, 1) := by decide +kernel
theorem d_Txt_dropBlanksBehind_45 : decode b_Txt_dropBlanksBehind 45 = .ok (.iconst 1, 1) := by decide +kernel
theorem d_Txt_dropBlanksBehind_46 : decode b_Txt_dropBlanksBehind 46 = .ok (.isub, 1) := by decide +kernel
theorem d_Txt_dropBlanksBehind_47 : decode b_Txt_dropBlanksBehind 47 = .ok (.iaload, 1) := by decide +kernel
theorem d_Txt_dropBlanksBehind_48 : decode b_Txt_dropBlanksBehind 48 = .ok (.bipush 124, 2) := by decide +kernel
theorem d_Txt_dropBlanksBehind_50 : decode b_Txt_dropBlanksBehind 50 = .ok (.if_icmp .ne 7, 3) := by decide +kernel
theorem d_Txt_dropBlanksBehind_53 : decode b_Txt_dropBlanksBehind 53 = .ok (.iconst 1, 1) := by decide +kernel
theorem d_Txt_dropBlanksBehind_54 : decode b_Txt_dropBlanksBehind 54 = .ok (.goto 4, 3) := by decide +kernel
theorem d_Txt_dropBlanksBehind_57 : decode b_Txt_dropBlanksBehind 57 = .ok (.iconst 0, 1) := by decide +kernel
theorem d_Txt_dropBlanksBehind_58 : decode b_Txt_dropBlanksBehind 58 = .ok (.istore_n 3, 1) := by decide +kernel
theorem d_Txt_dropBlanksBehind_59 : decode b_Txt_dropBlanksBehind 59 = .ok (.iload_n 3, 1) := by decide +kernel
theorem d_Txt_dropBlanksBehind_60 : decode b_Txt_dropBlanksBehind 60 = .ok (.ifCond .ne 12, 3) := by decide +kernel
theorem d_Txt_dropBlanksBehind_63 : decode b_Txt_dropBlanksBehind 63 = .ok (.aload_n 0, 1) := by decide +kernel
theorem d_Txt_dropBlanksBehind_64 : decode b_Txt_dropBlanksBehind 64 = .ok (.iload_n 2, 1) := by decide +kernel
theorem d_Txt_dropBlanksBehind_65 : decode b_Txt_dropBlanksBehind 65 = .ok (.iload_n 1, 1) := by decide +kernel
theorem d_Txt_dropBlanksBehind_66 : decode b_Txt_dropBlanksBehind 66 = .ok (.invokevirtual 35, 3) := by decide +kernel
theorem d_Txt_dropBlanksBehind_69 : decode b_Txt_dropBlanksBehind 69 = .ok (.iinc 1 1, 3) := by decide +kernel
theorem d_Txt_dropBlanksBehind_72 : decode b_Txt_dropBlanksBehind 72 = .ok (.iinc 2 1, 3) := by decide +kernel
theorem d_Txt_dropBlanksBehind_75 : decode b_Txt_dropBlanksBehind 75 = .ok (.goto (-71), 3) := by decide +kernel
theorem d_Txt_dropBlanksBehind_78 : decode b_Txt_dropBlanksBehind 78 = .ok (.aload_n 0, 1) := by decide +kernel
theorem d_Txt_dropBlanksBehind_79 : decode b_Txt_dropBlanksBehind 79 = .ok (.iload_n 1, 1) := by decide +kernel
theorem d_Txt_dropBlanksBehind_80 : decode b_Txt_dropBlanksBehind 80 = .ok (.putfield 18, 3) := by decide +kernel
theorem d_Txt_dropBlanksBehind_83 : decode b_Txt_dropBlanksBehind 83 = .ok (.return_, 1) := by decide +kernel
theorem d_Txt_move_0 : decode b_Txt_move 0 = .ok (.aload_n 0, 1) := by decide +kernel
theorem d_Txt_move_1 : decode b_Txt_move 1 = .ok (.getfield 9, 3) := by decide +kernel
theorem d_Txt_move_4 : decode b_Txt_move 4 = .ok (.iload_n 2, 1) := by decide +kernel
theorem d_Txt_move_5 : decode b_Txt_move 5 = .ok (.aload_n 0, 1) := by decide +kernel
theorem d_Txt_move_6 : decode b_Txt_move 6 = .ok (.getfield 9, 3) := by decide +kernel
theorem d_Txt_move_9 : decode b_Txt_move 9 = .ok (.iload_n 1, 1) := by decide +kernel
theorem d_Txt_move_10 : decode b_Txt_move 10 = .ok (.iaload, 1) := by decide +kernel
theorem d_Txt_move_11 : decode b_Txt_move 11 = .ok (.iastore, 1) := by decide +kernel
theorem d_Txt_move_12 : decode b_Txt_move 12 = .ok (.aload_n 0, 1) := by decide +kernel
theorem d_Txt_move_13 : decode b_Txt_move 13 = .ok (.getfield 15, 3) := by decide +kernel
theorem d_Txt_move_16 : decode b_Txt_move 16 = .ok (.iload_n 2, 1) := by decide +kernel
theorem d_Txt_move_17 : decode b_Txt_move 17 = .ok (.aload_n 0, 1) := by decide +kernel
theorem d_Txt_move_18 : decode b_Txt_move 18 = .ok (.getfield 15, 3) := by decide +kernel
theorem d_Txt_move_21 : decode b_Txt_move 21 = .ok (.iload_n 1, 1) := by decide +kernel
theorem d_Txt_move_22 : decode b_Txt_move 22 = .ok (.iaload, 1) := by decide +kernel
theorem d_Txt_move_23 : decode b_Txt_move 23 = .ok (.iastore, 1) := by decide +kernel
theorem d_Txt_move_24 : decode b_Txt_move 24 = .ok (.return_, 1) := by decide +kernel
theorem d_Txt_dropBlanksBefore_0 : decode b_Txt_dropBlanksBefore 0 = .ok (.iconst 0, 1) := by decide +kernel
theorem d_Txt_dropBlanksBefore_1 : decode b_Txt_dropBlanksBefore 1 = .ok (.istore_n 1, 1) := by decide +kernel
theorem d_Txt_dropBlanksBefore_2 : decode b_Txt_dropBlanksBefore 2 = .ok (.iconst 0, 1) := by decide +kernel
theorem d_Txt_dropBlanksBefore_3 : decode b_Txt_dropBlanksBefore 3 = .ok (.istore_n 2, 1) := by decide +kernel
theorem d_Txt_dropBlanksBefore_4 : decode b_Txt_dropBlanksBefore 4 = .ok (.iload_n 2, 1) := by decide +kernel
theorem d_Txt_dropBlanksBefore_5 : decode b_Txt_dropBlanksBefore 5 = .ok (.aload_n 0, 1) := by decide +kernel
theorem d_Txt_dropBlanksBefore_6 : decode b_Txt_dropBlanksBefore 6 = .ok (.getfield 18, 3) := by decide +kernel
theorem d_Txt_dropBlanksBefore_9 : decode b_Txt_dropBlanksBefore 9 = .ok (.if_icmp .ge 62, 3) := by decide +kernel
theorem d_Txt_dropBlanksBefore_12 : decode b_Txt_dropBlanksBefore 12 = .ok (.aload_n 0, 1) := by decide +kernel
theorem d_Txt_dropBlanksBefore_13 : decode b_Txt_dropBlanksBefore 13 = .ok (.getfield 9, 3) := by decide +kernel
theorem d_Txt_dropBlanksBefore_16 : decode b_Txt_dropBlanksBefore 16 = .ok (.iload_n 2, 1) := by decide +kernel
theorem d_Txt_dropBlanksBefore_17 : decode b_Txt_dropBlanksBefore 17 = .ok (.iaload, 1) := by decide +kernel
theorem d_Txt_dropBlanksBefore_18 : decode b_Txt_dropBlanksBefore 18 = .ok (.bipush 32, 2) := by decide +kernel
theorem d_Txt_dropBlanksBefore_20 : decode b_Txt_dropBlanksBefore 20 = .ok (.if_icmp .ne 30, 3) := by decide +kernel
theorem d_Txt_dropBlanksBefore_23 : decode b_Txt_dropBlanksBefore 23 = .ok (.iload_n 2, 1) := by decide +kernel
theorem d_Txt_dropBlanksBefore_24 : decode b_Txt_dropBlanksBefore 24 = .ok (.iconst 1, 1) := by decide +kernel
theorem d_Txt_dropBlanksBefore_25 : decode b_Txt_dropBlanksBefore 25 = .ok (.iadd, 1) := by decide +kernel
theorem d_Txt_dropBlanksBefore_26 : decode b_Txt_dropBlanksBefore 26 = .ok (.aload_n 0, 1) := by decide +kernel
theorem d_Txt_dropBlanksBefore_27 : decode b_Txt_dropBlanksBefore 27 = .ok (.getfield 18, 3) := by decide +kernel
theorem d_Txt_dropBlanksBefore_30 : decode b_Txt_dropBlanksBefore 30 = .ok (.if_icmp .eq 16, 3) := by decide +kernel
theorem d_Txt_dropBlanksBefore_33 : decode b_Txt_dropBlanksBefore 33 = .ok (.aload_n 0, 1) := by decide +kernel
theorem d_Txt_dropBlanksBefore_34 : decode b_Txt_dropBlanksBefore 34 = .ok (.getfield 9, 3) := by decide +kernel
theorem d_Txt_dropBlanksBefore_37 : decode b_Txt_dropBlanksBefore 37 = .ok (.iload_n 2, 1) := by decide +kernel
theorem d_Txt_dropBlanksBefore_38 : decode b_Txt_dropBlanksBefore 38 = .ok (.iconst 1, 1) := by decide +kernel
theorem d_Txt_dropBlanksBefore_39 : decode b_Txt_dropBlanksBefore 39 = .ok (.iadd, 1) := by decide +kernel
theorem d_Txt_dropBlanksBefore_40 : decode b_Txt_dropBlanksBefore 40 = .ok (.iaload, 1) := by decide +kernel
theorem d_Txt_dropBlanksBefore_41 : decode b_Txt_dropBlanksBefore 41 = .ok (.bipush 124, 2) := by decide +kernel
theorem d_Txt_dropBlanksBefore_43 : decode b_Txt_dropBlanksBefore 43 = .ok (.if_icmp .ne 7, 3) := by decide +kernel
theorem d_Txt_dropBlanksBefore_46 : decode b_Txt_dropBlanksBefore 46 = .ok (.iconst 1, 1) := by decide +kernel
theorem d_Txt_dropBlanksBefore_47 : decode b_Txt_dropBlanksBefore 47 = .ok (.goto 4, 3) := by decide +kernel
theorem d_Txt_dropBlanksBefore_50 : decode b_Txt_dropBlanksBefore 50 = .ok (.iconst 0, 1) := by decide +kernel
theorem d_Txt_dropBlanksBefore_51 : decode b_Txt_dropBlanksBefore 51 = .ok (.istore_n 3, 1) := by decide +kernel
theorem d_Txt_dropBlanksBefore_52 : decode b_Txt_dropBlanksBefore 52 = .ok (.iload_n 3, 1) := by decide +kernel
theorem d_Txt_dropBlanksBefore_53 : decode b_Txt_dropBlanksBefore 53 = .ok (.ifCond .ne 12, 3) := by decide +kernel
theorem d_Txt_dropBlanksBefore_56 : decode b_Txt_dropBlanksBefore 56 = .ok (.aload_n 0, 1) := by decide +kernel
theorem d_Txt_dropBlanksBefore_57 : decode b_Txt_dropBlanksBefore 57 = .ok (.iload_n 2, 1) := by decide +kernel
theorem d_Txt_dropBlanksBefore_58 : decode b_Txt_dropBlanksBefore 58 = .ok (.iload_n 1, 1) := by decide +kernel
theorem d_Txt_dropBlanksBefore_59 : decode b_Txt_dropBlanksBefore 59 = .ok (.invokevirtual 35, 3) := by decide +kernel
theorem d_Txt_dropBlanksBefore_62 : decode b_Txt_dropBlanksBefore 62 = .ok (.iinc 1 1, 3) := by decide +kernel
theorem d_Txt_dropBlanksBefore_65 : decode b_Txt_dropBlanksBefore 65 = .ok (.iinc 2 1, 3) := by decide +kernel
theorem d_Txt_dropBlanksBefore_68 : decode b_Txt_dropBlanksBefore 68 = .ok (.goto (-64), 3) := by decide +kernel
theorem d_Txt_dropBlanksBefore_71 : decode b_Txt_dropBlanksBefore 71 = .ok (.aload_n 0, 1) := by decide +kernel
theorem d_Txt_dropBlanksBefore_72 : decode b_Txt_dropBlanksBefore 72 = .ok (.iload_n 1, 1) := by decide +kernel
theorem d_Txt_dropBlanksBefore_73 : decode b_Txt_dropBlanksBefore 73 = .ok (.putfield 18, 3) := by decide +kernel
theorem d_Txt_dropBlanksBefore_76 : decode b_Txt_dropBlanksBefore 76 = .ok (.return_, 1) := by decide +kernel
theorem d_Txt_dropBarsBehind_0 : decode b_Txt_dropBarsBehind 0 = .ok (.iconst 0, 1) := by decide +kernel
theorem d_Txt_dropBarsBehind_1 : decode b_Txt_dropBarsBehind 1 = .ok (.istore_n 1, 1) := by decide +kernel
theorem d_Txt_dropBarsBehind_2 : decode b_Txt_dropBarsBehind 2 = .ok (.iconst 0, 1) := by decide +kernel
theorem d_Txt_dropBarsBehind_3 : decode b_Txt_dropBarsBehind 3 = .ok (.istore_n 2, 1) := by decide +kernel
theorem d_Txt_dropBarsBehind_4 : decode b_Txt_dropBarsBehind 4 = .ok (.iload_n 2, 1) := by decide +kernel
theorem d_Txt_dropBarsBehind_5 : decode b_Txt_dropBarsBehind 5 = .ok (.aload_n 0, 1) := by decide +kernel
theorem d_Txt_dropBarsBehind_6 : decode b_Txt_dropBarsBehind 6 = .ok (.getfield 18, 3) := by decide +kernel
theorem d_Txt_dropBarsBehind_9 : decode b_Txt_dropBarsBehind 9 = .ok (.if_icmp .ge 56, 3) := by decide +kernel
theorem d_Txt_dropBarsBehind_12 : decode b_Txt_dropBarsBehind 12 = .ok (.aload_n 0, 1) := by decide +kernel
theorem d_Txt_dropBarsBehind_13 : decode b_Txt_dropBarsBehind 13 = .ok (.getfield 9, 3) := by decide +kernel
theorem d_Txt_dropBarsBehind_16 : decode b_Txt_dropBarsBehind 16 = .ok (.iload_n 2, 1) := by decide +kernel
theorem d_Txt_dropBarsBehind_17 : decode b_Txt_dropBarsBehind 17 = .ok (.iaload, 1) := by decide +kernel
theorem d_Txt_dropBarsBehind_18 : decode b_Txt_dropBarsBehind 18 = .ok (.bipush 124, 2) := by decide +kernel
theorem d_Txt_dropBarsBehind_20 : decode b_Txt_dropBarsBehind 20 = .ok (.if_icmp .ne 24, 3) := by decide +kernel
theorem d_Txt_dropBarsBehind_23 : decode b_Txt_dropBarsBehind 23 = .ok (.iload_n 1, 1) := by decide +kernel
theorem d_Txt_dropBarsBehind_24 : decode b_Txt_dropBarsBehind 24 = .ok (.ifCond .eq 16, 3) := by decide +kernel
theorem d_Txt_dropBarsBehind_27 : decode b_Txt_dropBarsBehind 27 = .ok (.aload_n 0, 1) := by decide +kernel
theorem d_Txt_dropBarsBehind_28 : decode b_Txt_dropBarsBehind 28 = .ok (.getfield 9, 3) := by decide +kernel
theorem d_Txt_dropBarsBehind_31 : decode b_Txt_dropBarsBehind 31 = .ok (.iload_n 1, 1) := by decide +kernel
theorem d_Txt_dropBarsBehind_32 : decode b_Txt_dropBarsBehind 32 = .ok (.iconst 1, 1) := by decide +kernel
theorem d_Txt_dropBarsBehind_33 : decode b_Txt_dropBarsBehind 33 = .ok (.isub, 1) := by decide +kernel
theorem d_Txt_dropBarsBehind_34 : decode b_Txt_dropBarsBehind 34 = .ok (.iaload, 1) := by decide +kernel
theorem d_Txt_dropBarsBehind_35 : decode b_Txt_dropBarsBehind 35 = .ok (.bipush 124, 2) := by decide +kernel
theorem d_Txt_dropBarsBehind_37 : decode b_Txt_dropBarsBehind 37 = .ok (.if_icmp .ne 7, 3) := by decide +kernel
theorem d_Txt_dropBarsBehind_40 : decode b_Txt_dropBarsBehind 40 = .ok (.iconst 1, 1) := by decide +kernel
theorem d_Txt_dropBarsBehind_41 : decode b_Txt_dropBarsBehind 41 = .ok (.goto 4, 3) := by decide +kernel
theorem d_Txt_dropBarsBehind_44 : decode b_Txt_dropBarsBehind 44 = .ok (.iconst 0, 1) := by decide +kernel
theorem d_Txt_dropBarsBehind_45 : decode b_Txt_dropBarsBehind 45 = .ok (.istore_n 3, 1) := by decide +kernel
theorem d_Txt_dropBarsBehind_46 : decode b_Txt_dropBarsBehind 46 = .ok (.iload_n 3, 1) := by decide +kernel
theorem d_Txt_dropBarsBehind_47 : decode b_Txt_dropBarsBehind 47 = .ok (.ifCond .ne 12, 3) := by decide +kernel
theorem d_Txt_dropBarsBehind_50 : decode b_Txt_dropBarsBehind 50 = .ok (.aload_n 0, 1) := by decide +kernel
theorem d_Txt_dropBarsBehind_51 : decode b_Txt_dropBarsBehind 51 = .ok (.iload_n 2, 1) := by decide +kernel
theorem d_Txt_dropBarsBehind_52 : decode b_Txt_dropBarsBehind 52 = .ok (.iload_n 1, 1) := by decide +kernel
theorem d_Txt_dropBarsBehind_53 : decode b_Txt_dropBarsBehind 53 = .ok (.invokevirtual 35, 3) := by decide +kernel
theorem d_Txt_dropBarsBehind_56 : decode b_Txt_dropBarsBehind 56 = .ok (.iinc 1 1, 3) := by decide +kernel
theorem d_Txt_dropBarsBehind_59 : decode b_Txt_dropBarsBehind 59 = .ok (.iinc 2 1, 3) := by decide +kernel
theorem d_Txt_dropBarsBehind_62 : decode b_Txt_dropBarsBehind 62 = .ok (.goto (-58), 3) := by decide +kernel
theorem d_Txt_dropBarsBehind_65 : decode b_Txt_dropBarsBehind 65 = .ok (.aload_n 0, 1) := by decide +kernel
theorem d_Txt_dropBarsBehind_66 : decode b_Txt_dropBarsBehind 66 = .ok (.iload_n 1, 1) := by decide +kernel
theorem d_Txt_dropBarsBehind_67 : decode b_Txt_dropBarsBehind 67 = .ok (.putfield 18, 3) := by decide +kernel
theorem d_Txt_dropBarsBehind_70 : decode b_Txt_dropBarsBehind 70 = .ok (.return_, 1) := by decide +kernel
theorem d_Hyp_weigh_0 : decode b_Hyp_weigh 0 = .ok (.iconst 0, 1) := by decide +kernel
theorem d_Hyp_weigh_1 : decode b_Hyp_weigh 1 = .ok (.istore_n 2, 1) := by decide +kernel
theorem d_Hyp_weigh_2 : decode b_Hyp_weigh 2 = .ok (.iload_n 2, 1) := by decide +kernel
theorem d_Hyp_weigh_3 : decode b_Hyp_weigh 3 = .ok (.bipush 120, 2) := by decide +kernel
theorem d_Hyp_weigh_5 : decode b_Hyp_weigh 5 = .ok (.if_icmp .gt 16, 3) := by decide +kernel
theorem d_Hyp_weigh_8 : decode b_Hyp_weigh 8 = .ok (.aload_n 0, 1) := by decide +kernel
theorem d_Hyp_weigh_9 : decode b_Hyp_weigh 9 = .ok (.getfield 21, 3) := by decide +kernel
theorem d_Hyp_weigh_12 : decode b_Hyp_weigh 12 = .ok (.iload_n 2, 1) := by decide +kernel
theorem d_Hyp_weigh_13 : decode b_Hyp_weigh 13 = .ok (.iconst 0, 1) := by decide +kernel
theorem d_Hyp_weigh_14 : decode b_Hyp_weigh 14 = .ok (.iastore, 1) := by decide +kernel
theorem d_Hyp_weigh_15 : decode b_Hyp_weigh 15 = .ok (.iinc 2 1, 3) := by decide +kernel
theorem d_Hyp_weigh_18 : decode b_Hyp_weigh 18 = .ok (.goto (-16), 3) := by decide +kernel
theorem d_Hyp_weigh_21 : decode b_Hyp_weigh 21 = .ok (.iconst 0, 1) := by decide +kernel
theorem d_Hyp_weigh_22 : decode b_Hyp_weigh 22 = .ok (.istore_n 2, 1) := by decide +kernel
theorem d_Hyp_weigh_23 : decode b_Hyp_weigh 23 = .ok (.iconst 0, 1) := by decide +kernel
theorem d_Hyp_weigh_24 : decode b_Hyp_weigh 24 = .ok (.istore_n 3, 1) := by decide +kernel
theorem d_Hyp_weigh_25 : decode b_Hyp_weigh 25 = .ok (.iload_n 3, 1) := by decide +kernel
theorem d_Hyp_weigh_26 : decode b_Hyp_weigh 26 = .ok (.aload_n 1, 1) := by decide +kernel
theorem d_Hyp_weigh_27 : decode b_Hyp_weigh 27 = .ok (.getfield 34, 3) := by decide +kernel
theorem d_Hyp_weigh_30 : decode b_Hyp_weigh 30 = .ok (.if_icmp .gt 28, 3) := by decide +kernel
theorem d_Hyp_weigh_33 : decode b_Hyp_weigh 33 = .ok (.aload_n 1, 1) := by decide +kernel
theorem d_Hyp_weigh_34 : decode b_Hyp_weigh 34 = .ok (.iload_n 3, 1) := by decide +kernel
theorem d_Hyp_weigh_35 : decode b_Hyp_weigh 35 = .ok (.invokevirtual 37, 3) := by decide +kernel
theorem d_Hyp_weigh_38 : decode b_Hyp_weigh 38 = .ok (.ifCond .ne 14, 3) := by decide +kernel
theorem d_Hyp_weigh_41 : decode b_Hyp_weigh 41 = .ok (.aload_n 0, 1) := by decide +kernel
theorem d_Hyp_weigh_42 : decode b_Hyp_weigh 42 = .ok (.aload_n 1, 1) := by decide +kernel
theorem d_Hyp_weigh_43 : decode b_Hyp_weigh 43 = .ok (.iload_n 2, 1) := by decide +kernel
theorem d_Hyp_weigh_44 : decode b_Hyp_weigh 44 = .ok (.iload_n 3, 1) := by decide +kernel
theorem d_Hyp_weigh_45 : decode b_Hyp_weigh 45 = .ok (.invokevirtual 41, 3) := by decide +kernel
theorem d_Hyp_weigh_48 : decode b_Hyp_weigh 48 = .ok (.iload_n 3, 1) := by decide +kernel
theorem d_Hyp_weigh_49 : decode b_Hyp_weigh 49 = .ok (.iconst 1, 1) := by decide +kernel
theorem d_Hyp_weigh_50 : decode b_Hyp_weigh 50 = .ok (.iadd, 1) := by decide +kernel
theorem d_Hyp_weigh_51 : decode b_Hyp_weigh 51 = .ok (.istore_n 2, 1) := by decide +kernel
theorem d_Hyp_weigh_52 : decode b_Hyp_weigh 52 = .ok (.iinc 3 1, 3) := by decide +kernel
theorem d_Hyp_weigh_55 : decode b_Hyp_weigh 55 = .ok (.goto (-30), 3) := by decide +kernel
theorem d_Hyp_weigh_58 : decode b_Hyp_weigh 58 = .ok (.return_, 1) := by decide +kernel
theorem d_Txt_isLetterAt_0 : decode b_Txt_isLetterAt 0 = .ok (.iload_n 1, 1) := by decide +kernel
theorem d_Txt_isLetterAt_1 : decode b_Txt_isLetterAt 1 = .ok (.ifCond .lt 27, 3) := by decide +kernel
theorem d_Txt_isLetterAt_4 : decode b_Txt_isLetterAt 4 = .ok (.iload_n 1, 1) := by decide +kernel
theorem d_Txt_isLetterAt_5 : decode b_Txt_isLetterAt 5 = .ok (.aload_n 0, 1) := by decide +kernel
theorem d_Txt_isLetterAt_6 : decode b_Txt_isLetterAt 6 = .ok (.getfield 18, 3) := by decide +kernel
theorem d_Txt_isLetterAt_9 : decode b_Txt_isLetterAt 9 = .ok (.if_icmp .ge 19, 3) := by decide +kernel
theorem d_Txt_isLetterAt_12 : decode b_Txt_isLetterAt 12 = .ok (.aload_n 0, 1) := by decide +kernel
theorem d_Txt_isLetterAt_13 : decode b_Txt_isLetterAt 13 = .ok (.getfield 9, 3) := by decide +kernel
theorem d_Txt_isLetterAt_16 : decode b_Txt_isLetterAt 16 = .ok (.iload_n 1, 1) := by decide +kernel
theorem d_Txt_isLetterAt_17 : decode b_Txt_isLetterAt 17 = .ok (.iaload, 1) := by decide +kernel
theorem d_Txt_isLetterAt_18 : decode b_Txt_isLetterAt 18 = .ok (.invokestatic 22, 3) := by decide +kernel
theorem d_Txt_isLetterAt_21 : decode b_Txt_isLetterAt 21 = .ok (.ifCond .eq 7, 3) := by decide +kernel
theorem d_Txt_isLetterAt_24 : decode b_Txt_isLetterAt 24 = .ok (.iconst 1, 1) := by decide +kernel
theorem d_Txt_isLetterAt_25 : decode b_Txt_isLetterAt 25 = .ok (.goto 4, 3) := by decide +kernel
theorem d_Txt_isLetterAt_28 : decode b_Txt_isLetterAt 28 = .ok (.iconst 0, 1) := by decide +kernel
theorem d_Txt_isLetterAt_29 : decode b_Txt_isLetterAt 29 = .ok (.ireturn, 1) := by decide +kernel
theorem d_Hyp_weighWord_0 : decode b_Hyp_weighWord 0 = .ok (.iconst 0, 1) := by decide +kernel
theorem d_Hyp_weighWord_1 : decode b_Hyp_weighWord 1 = .ok (.istore 4, 2) := by decide +kernel
theorem d_Hyp_weighWord_3 : decode b_Hyp_weighWord 3 = .ok (.iload 4, 2) := by decide +kernel
theorem d_Hyp_weighWord_5 : decode b_Hyp_weighWord 5 = .ok (.aload_n 0, 1) := by decide +kernel
theorem d_Hyp_weighWord_6 : decode b_Hyp_weighWord 6 = .ok (.getfield 17, 3) := by decide +kernel
theorem d_Hyp_weighWord_9 : decode b_Hyp_weighWord 9 = .ok (.if_icmp .ge 66, 3) := by decide +kernel
theorem d_Hyp_weighWord_12 : decode b_Hyp_weighWord 12 = .ok (.aload_n 0, 1) := by decide +kernel
theorem d_Hyp_weighWord_13 : decode b_Hyp_weighWord 13 = .ok (.getfield 11, 3) := by decide +kernel
theorem d_Hyp_weighWord_16 : decode b_Hyp_weighWord 16 = .ok (.iload 4, 2) := by decide +kernel
theorem d_Hyp_weighWord_18 : decode b_Hyp_weighWord 18 = .ok (.aaload, 1) := by decide +kernel
theorem d_Hyp_weighWord_19 : decode b_Hyp_weighWord 19 = .ok (.astore 5, 2) := by decide +kernel
theorem d_Hyp_weighWord_21 : decode b_Hyp_weighWord 21 = .ok (.iload_n 2, 1) := by decide +kernel
theorem d_Hyp_weighWord_22 : decode b_Hyp_weighWord 22 = .ok (.iconst 1, 1) := by decide +kernel
theorem d_Hyp_weighWord_23 : decode b_Hyp_weighWord 23 = .ok (.isub, 1) := by decide +kernel
theorem d_Hyp_weighWord_24 : decode b_Hyp_weighWord 24 = .ok (.istore 6, 2) := by decide +kernel
theorem d_Hyp_weighWord_26 : decode b_Hyp_weighWord 26 = .ok (.iload 6, 2) := by decide +kernel
theorem d_Hyp_weighWord_28 : decode b_Hyp_weighWord 28 = .ok (.aload 5, 2) := by decide +kernel
theorem d_Hyp_weighWord_30 : decode b_Hyp_weighWord 30 = .ok (.getfield 45, 3) := by decide +kernel
theorem d_Hyp_weighWord_33 : decode b_Hyp_weighWord 33 = .ok (.iadd, 1) := by decide +kernel
theorem d_Hyp_weighWord_34 : decode b_Hyp_weighWord 34 = .ok (.iconst 1, 1) := by decide +kernel
theorem d_Hyp_weighWord_35 : decode b_Hyp_weighWord 35 = .ok (.isub, 1) := by decide +kernel
theorem d_Hyp_weighWord_36 : decode b_Hyp_weighWord 36 = .ok (.iload_n 3, 1) := by decide +kernel
theorem d_Hyp_weighWord_37 : decode b_Hyp_weighWord 37 = .ok (.if_icmp .gt 32, 3) := by decide +kernel
theorem d_Hyp_weighWord_40 : decode b_Hyp_weighWord 40 = .ok (.aload 5, 2) := by decide +kernel
theorem d_Hyp_weighWord_42 : decode b_Hyp_weighWord 42 = .ok (.aload_n 1, 1) := by decide +kernel
theorem d_Hyp_weighWord_43 : decode b_Hyp_weighWord 43 = .ok (.iload 6, 2) := by decide +kernel
theorem d_Hyp_weighWord_45 : decode b_Hyp_weighWord 45 = .ok (.iload_n 2, 1) := by decide +kernel
theorem d_Hyp_weighWord_46 : decode b_Hyp_weighWord 46 = .ok (.iload_n 3, 1) := by decide +kernel
theorem d_Hyp_weighWord_47 : decode b_Hyp_weighWord 47 = .ok (.invokestatic 46, 3) := by decide +kernel
theorem d_Hyp_weighWord_50 : decode b_Hyp_weighWord 50 = .ok (.ifCond .eq 13, 3) := by decide +kernel
theorem d_Hyp_weighWord_53 : decode b_Hyp_weighWord 53 = .ok (.aload_n 0, 1) := by decide +kernel
theorem d_Hyp_weighWord_54 : decode b_Hyp_weighWord 54 = .ok (.aload 5, 2) := by decide +kernel
theorem d_Hyp_weighWord_56 : decode b_Hyp_weighWord 56 = .ok (.iload 6, 2) := by decide +kernel
theorem d_Hyp_weighWord_58 : decode b_Hyp_weighWord 58 = .ok (.iload_n 2, 1) := by decide +kernel
theorem d_Hyp_weighWord_59 : decode b_Hyp_weighWord 59 = .ok (.iload_n 3, 1) := by decide +kernel
theorem d_Hyp_weighWord_60 : decode b_Hyp_weighWord 60 = .ok (.invokevirtual 50, 3) := by decide +kernel
theorem d_Hyp_weighWord_63 : decode b_Hyp_weighWord 63 = .ok (.iinc 6 1, 3) := by decide +kernel
theorem d_Hyp_weighWord_66 : decode b_Hyp_weighWord 66 = .ok (.goto (-40), 3) := by decide +kernel
theorem d_Hyp_weighWord_69 : decode b_Hyp_weighWord 69 = .ok (.iinc 4 1, 3) := by decide +kernel
theorem d_Hyp_weighWord_72 : decode b_Hyp_weighWord 72 = .ok (.goto (-69), 3) := by decide +kernel
theorem d_Hyp_weighWord_75 : decode b_Hyp_weighWord 75 = .ok (.return_, 1) := by decide +kernel
theorem d_Hyp_stands_0 : decode b_Hyp_stands 0 = .ok (.iconst 0, 1) := by decide +kernel
theorem d_Hyp_stands_1 : decode b_Hyp_stands 1 = .ok (.istore 5, 2) := by decide +kernel
theorem d_Hyp_stands_3 : decode b_Hyp_stands 3 = .ok (.iload 5, 2) := by decide +kernel
theorem d_Hyp_stands_5 : decode b_Hyp_stands 5 = .ok (.aload_n 0, 1) := by decide +kernel
theorem d_Hyp_stands_6 : decode b_Hyp_stands 6 = .ok (.getfield 45, 3) := by decide +kernel
theorem d_Hyp_stands_9 : decode b_Hyp_stands 9 = .ok (.if_icmp .ge 68, 3) := by decide +kernel
theorem d_Hyp_stands_12 : decode b_Hyp_stands 12 = .ok (.iload_n 2, 1) := by decide +kernel
theorem d_Hyp_stands_13 : decode b_Hyp_stands 13 = .ok (.iload 5, 2) := by decide +kernel
theorem d_Hyp_stands_15 : decode b_Hyp_stands 15 = .ok (.iadd, 1) := by decide +kernel
theorem d_Hyp_stands_16 : decode b_Hyp_stands 16 = .ok (.iload_n 3, 1) := by decide +kernel
theorem d_Hyp_stands_17 : decode b_Hyp_stands 17 = .ok (.if_icmp .lt 16, 3) := by decide +kernel
theorem d_Hyp_stands_20 : decode b_Hyp_stands 20 = .ok (.iload_n 2, 1) := by decide +kernel
theorem d_Hyp_stands_21 : decode b_Hyp_stands 21 = .ok (.iload 5, 2) := by decide +kernel
theorem d_Hyp_stands_23 : decode b_Hyp_stands 23 = .ok (.iadd, 1) := by decide +kernel
theorem d_Hyp_stands_24 : decode b_Hyp_stands 24 = .ok (.iload 4, 2) := by decide +kernel
theorem d_Hyp_stands_26 : decode b_Hyp_stands 26 = .ok (.if_icmp .ge 7, 3) := by decide +kernel
theorem d_Hyp_stands_29 : decode b_Hyp_stands 29 = .ok (.iconst 1, 1) := by decide +kernel
theorem d_Hyp_stands_30 : decode b_Hyp_stands 30 = .ok (.goto 4, 3) := by decide +kernel
theorem d_Hyp_stands_33 : decode b_Hyp_stands 33 = .ok (.iconst 0, 1) := by decide +kernel
theorem d_Hyp_stands_34 : decode b_Hyp_stands 34 = .ok (.istore 6, 2) := by decide +kernel
theorem d_Hyp_stands_36 : decode b_Hyp_stands 36 = .ok (.iload 6, 2) := by decide +kernel
theorem d_Hyp_stands_38 : decode b_Hyp_stands 38 = .ok (.ifCond .eq 15, 3) := by decide +kernel
theorem d_Hyp_stands_41 : decode b_Hyp_stands 41 = .ok (.aload_n 1, 1) := by decide +kernel
theorem d_Hyp_stands_42 : decode b_Hyp_stands 42 = .ok (.getfield 54, 3) := by decide +kernel
theorem d_Hyp_stands_45 : decode b_Hyp_stands 45 = .ok (.iload_n 2, 1) := by decide +kernel
theorem d_Hyp_stands_46 : decode b_Hyp_stands 46 = .ok (.iload 5, 2) := by decide +kernel
theorem d_Hyp_stands_48 : decode b_Hyp_stands 48 = .ok (.iadd, 1) := by decide +kernel
theorem d_Hyp_stands_49 : decode b_Hyp_stands 49 = .ok (.iaload, 1) := by decide +kernel
theorem d_Hyp_stands_50 : decode b_Hyp_stands 50 = .ok (.goto 5, 3) := by decide +kernel
theorem d_Hyp_stands_53 : decode b_Hyp_stands 53 = .ok (.bipush 46, 2) := by decide +kernel
theorem d_Hyp_stands_55 : decode b_Hyp_stands 55 = .ok (.istore 7, 2) := by decide +kernel
theorem d_Hyp_stands_57 : decode b_Hyp_stands 57 = .ok (.iload 7, 2) := by decide +kernel
theorem d_Hyp_stands_59 : decode b_Hyp_stands 59 = .ok (.aload_n 0, 1) := by decide +kernel
theorem d_Hyp_stands_60 : decode b_Hyp_stands 60 = .ok (.getfield 57, 3) := by decide +kernel
theorem d_Hyp_stands_63 : decode b_Hyp_stands 63 = .ok (.iload 5, 2) := by decide +kernel
theorem d_Hyp_stands_65 : decode b_Hyp_stands 65 = .ok (.iaload, 1) := by decide +kernel
theorem d_Hyp_stands_66 : decode b_Hyp_stands 66 = .ok (.if_icmp .eq 5, 3) := by decide +kernel
theorem d_Hyp_stands_69 : decode b_Hyp_stands 69 = .ok (.iconst 0, 1) := by decide +kernel
theorem d_Hyp_stands_70 : decode b_Hyp_stands 70 = .ok (.ireturn, 1) := by decide +kernel
theorem d_Hyp_stands_71 : decode b_Hyp_stands 71 = .ok (.iinc 5 1, 3) := by decide +kernel
theorem d_Hyp_stands_74 : decode b_Hyp_stands 74 = .ok (.goto (-71), 3) := by decide +kernel
theorem d_Hyp_stands_77 : decode b_Hyp_stands 77 = .ok (.iconst 1, 1) := by decide +kernel
theorem d_Hyp_stands_78 : decode b_Hyp_stands 78 = .ok (.ireturn, 1) := by decide +kernel
theorem d_Hyp_raise_0 : decode b_Hyp_raise 0 = .ok (.iconst 0, 1) := by decide +kernel
theorem d_Hyp_raise_1 : decode b_Hyp_raise 1 = .ok (.istore 5, 2) := by decide +kernel
theorem d_Hyp_raise_3 : decode b_Hyp_raise 3 = .ok (.iload 5, 2) := by decide +kernel
theorem d_Hyp_raise_5 : decode b_Hyp_raise 5 = .ok (.aload_n 1, 1) := by decide +kernel
theorem d_Hyp_raise_6 : decode b_Hyp_raise 6 = .ok (.getfield 45, 3) := by decide +kernel
theorem d_Hyp_raise_9 : decode b_Hyp_raise 9 = .ok (.if_icmp .gt 56, 3) := by decide +kernel
theorem d_Hyp_raise_12 : decode b_Hyp_raise 12 = .ok (.iload_n 2, 1) := by decide +kernel
theorem d_Hyp_raise_13 : decode b_Hyp_raise 13 = .ok (.iload 5, 2) := by decide +kernel
theorem d_Hyp_raise_15 : decode b_Hyp_raise 15 = .ok (.iadd, 1) := by decide +kernel
theorem d_Hyp_raise_16 : decode b_Hyp_raise 16 = .ok (.istore 6, 2) := by decide +kernel
theorem d_Hyp_raise_18 : decode b_Hyp_raise 18 = .ok (.iload 6, 2) := by decide +kernel
theorem d_Hyp_raise_20 : decode b_Hyp_raise 20 = .ok (.iload_n 3, 1) := by decide +kernel
theorem d_Hyp_raise_21 : decode b_Hyp_raise 21 = .ok (.iconst 2, 1) := by decide +kernel
theorem d_Hyp_raise_22 : decode b_Hyp_raise 22 = .ok (.iadd, 1) := by decide +kernel
theorem d_Hyp_raise_23 : decode b_Hyp_raise 23 = .ok (.if_icmp .lt 36, 3) := by decide +kernel
theorem d_Hyp_raise_26 : decode b_Hyp_raise 26 = .ok (.iload 6, 2) := by decide +kernel
theorem d_Hyp_raise_28 : decode b_Hyp_raise 28 = .ok (.iload 4, 2) := by decide +kernel
theorem d_Hyp_raise_30 : decode b_Hyp_raise 30 = .ok (.iconst 2, 1) := by decide +kernel
theorem d_Hyp_raise_31 : decode b_Hyp_raise 31 = .ok (.isub, 1) := by decide +kernel
theorem d_Hyp_raise_32 : decode b_Hyp_raise 32 = .ok (.if_icmp .gt 27, 3) := by decide +kernel
theorem d_Hyp_raise_35 : decode b_Hyp_raise 35 = .ok (.aload_n 0, 1) := by decide +kernel
theorem d_Hyp_raise_36 : decode b_Hyp_raise 36 = .ok (.getfield 21, 3) := by decide +kernel
theorem d_Hyp_raise_39 : decode b_Hyp_raise 39 = .ok (.iload 6, 2) := by decide +kernel
theorem d_Hyp_raise_41 : decode b_Hyp_raise 41 = .ok (.aload_n 0, 1) := by decide +kernel
theorem d_Hyp_raise_42 : decode b_Hyp_raise 42 = .ok (.getfield 21, 3) := by decide +kernel
theorem d_Hyp_raise_45 : decode b_Hyp_raise 45 = .ok (.iload 6, 2) := by decide +kernel
theorem d_Hyp_raise_47 : decode b_Hyp_raise 47 = .ok (.iaload, 1) := by decide +kernel
theorem d_Hyp_raise_48 : decode b_Hyp_raise 48 = .ok (.aload_n 1, 1) := by decide +kernel
theorem d_Hyp_raise_49 : decode b_Hyp_raise 49 = .ok (.getfield 60, 3) := by decide +kernel
theorem d_Hyp_raise_52 : decode b_Hyp_raise 52 = .ok (.iload 5, 2) := by decide +kernel
theorem d_Hyp_raise_54 : decode b_Hyp_raise 54 = .ok (.iaload, 1) := by decide +kernel
theorem d_Hyp_raise_55 : decode b_Hyp_raise 55 = .ok (.invokestatic 61, 3) := by decide +kernel
theorem d_Hyp_raise_58 : decode b_Hyp_raise 58 = .ok (.iastore, 1) := by decide +kernel
theorem d_Hyp_raise_59 : decode b_Hyp_raise 59 = .ok (.iinc 5 1, 3) := by decide +kernel
theorem d_Hyp_raise_62 : decode b_Hyp_raise 62 = .ok (.goto (-59), 3) := by decide +kernel
theorem d_Hyp_raise_65 : decode b_Hyp_raise 65 = .ok (.return_, 1) := by decide +kernel
theorem d_Brk_find_0 : decode b_Brk_find 0 = .ok (.aload_n 0, 1) := by decide +kernel
theorem d_Brk_find_1 : decode b_Brk_find 1 = .ok (.iconst 0, 1) := by decide +kernel
theorem d_Brk_find_2 : decode b_Brk_find 2 = .ok (.putfield 21, 3) := by decide +kernel
theorem d_Brk_find_5 : decode b_Brk_find 5 = .ok (.aload_n 0, 1) := by decide +kernel
theorem d_Brk_find_6 : decode b_Brk_find 6 = .ok (.getfield 9, 3) := by decide +kernel
theorem d_Brk_find_9 : decode b_Brk_find 9 = .ok (.iconst 0, 1) := by decide +kernel
theorem d_Brk_find_10 : decode b_Brk_find 10 = .ok (.iconst (-1), 1) := by decide +kernel
theorem d_Brk_find_11 : decode b_Brk_find 11 = .ok (.iastore, 1) := by decide +kernel
theorem d_Brk_find_12 : decode b_Brk_find 12 = .ok (.aload_n 0, 1) := by decide +kernel
theorem d_Brk_find_13 : decode b_Brk_find 13 = .ok (.getfield 15, 3) := by decide +kernel
theorem d_Brk_find_16 : decode b_Brk_find 16 = .ok (.iconst 0, 1) := by decide +kernel
theorem d_Brk_find_17 : decode b_Brk_find 17 = .ok (.iconst 0, 1) := by decide +kernel
theorem d_Brk_find_18 : decode b_Brk_find 18 = .ok (.iastore, 1) := by decide +kernel
theorem d_Brk_find_19 : decode b_Brk_find 19 = .ok (.aload_n 0, 1) := by decide +kernel
theorem d_Brk_find_20 : decode b_Brk_find 20 = .ok (.getfield 18, 3) := by decide +kernel
theorem d_Brk_find_23 : decode b_Brk_find 23 = .ok (.iconst 0, 1) := by decide +kernel
theorem d_Brk_find_24 : decode b_Brk_find 24 = .ok (.iconst 0, 1) := by decide +kernel
theorem d_Brk_find_25 : decode b_Brk_find 25 = .ok (.iastore, 1) := by decide +kernel
theorem d_Brk_find_26 : decode b_Brk_find 26 = .ok (.iconst 0, 1) := by decide +kernel
theorem d_Brk_find_27 : decode b_Brk_find 27 = .ok (.istore_n 3, 1) := by decide +kernel
theorem d_Brk_find_28 : decode b_Brk_find 28 = .ok (.iload_n 3, 1) := by decide +kernel
theorem d_Brk_find_29 : decode b_Brk_find 29 = .ok (.aload_n 1, 1) := by decide +kernel
theorem d_Brk_find_30 : decode b_Brk_find 30 = .ok (.getfield 25, 3) := by decide +kernel
theorem d_Brk_find_33 : decode b_Brk_find 33 = .ok (.if_icmp .ge 38, 3) := by decide +kernel
theorem d_Brk_find_36 : decode b_Brk_find 36 = .ok (.aload_n 2, 1) := by decide +kernel
theorem d_Brk_find_37 : decode b_Brk_find 37 = .ok (.iload_n 3, 1) := by decide +kernel
theorem d_Brk_find_38 : decode b_Brk_find 38 = .ok (.invokevirtual 28, 3) := by decide +kernel
theorem d_Brk_find_41 : decode b_Brk_find 41 = .ok (.ifCond .eq 13, 3) := by decide +kernel
theorem d_Brk_find_44 : decode b_Brk_find 44 = .ok (.aload_n 0, 1) := by decide +kernel
theorem d_Brk_find_45 : decode b_Brk_find 45 = .ok (.iconst 2, 1) := by decide +kernel
theorem d_Brk_find_46 : decode b_Brk_find 46 = .ok (.iload_n 3, 1) := by decide +kernel
theorem d_Brk_find_47 : decode b_Brk_find 47 = .ok (.iload_n 3, 1) := by decide +kernel
theorem d_Brk_find_48 : decode b_Brk_find 48 = .ok (.invokevirtual 34, 3) := by decide +kernel
theorem d_Brk_find_51 : decode b_Brk_find 51 = .ok (.ifCond .eq 12, 3) := by decide +kernel
theorem d_Brk_find_54 : decode b_Brk_find 54 = .ok (.aload_n 0, 1) := by decide +kernel
theorem d_Brk_find_55 : decode b_Brk_find 55 = .ok (.aload_n 1, 1) := by decide +kernel
theorem d_Brk_find_56 : decode b_Brk_find 56 = .ok (.iload_n 3, 1) := by decide +kernel
theorem d_Brk_find_57 : decode b_Brk_find 57 = .ok (.invokevirtual 38, 3) := by decide +kernel
theorem d_Brk_find_60 : decode b_Brk_find 60 = .ok (.ifCond .ne 5, 3) := by decide +kernel
theorem d_Brk_find_63 : decode b_Brk_find 63 = .ok (.iconst 0, 1) := by decide +kernel
theorem d_Brk_find_64 : decode b_Brk_find 64 = .ok (.ireturn, 1) := by decide +kernel
theorem d_Brk_find_65 : decode b_Brk_find 65 = .ok (.iinc 3 1, 3) := by decide +kernel
theorem d_Brk_find_68 : decode b_Brk_find 68 = .ok (.goto (-40), 3) := by decide +kernel
theorem d_Brk_find_71 : decode b_Brk_find 71 = .ok (.aload_n 1, 1) := by decide +kernel
theorem d_Brk_find_72 : decode b_Brk_find 72 = .ok (.getfield 25, 3) := by decide +kernel
theorem d_Brk_find_75 : decode b_Brk_find 75 = .ok (.ifCond .eq 19, 3) := by decide +kernel
theorem d_Brk_find_78 : decode b_Brk_find 78 = .ok (.aload_n 0, 1) := by decide +kernel
theorem d_Brk_find_79 : decode b_Brk_find 79 = .ok (.iconst 4, 1) := by decide +kernel
theorem d_Brk_find_80 : decode b_Brk_find 80 = .ok (.aload_n 1, 1) := by decide +kernel
theorem d_Brk_find_81 : decode b_Brk_find 81 = .ok (.getfield 25, 3) := by decide +kernel
theorem d_Brk_find_84 : decode b_Brk_find 84 = .ok (.aload_n 1, 1) := by decide +kernel
theorem d_Brk_find_85 : decode b_Brk_find 85 = .ok (.getfield 25, 3) := by decide +kernel
theorem d_Brk_find_88 : decode b_Brk_find 88 = .ok (.invokevirtual 34, 3) := by decide +kernel
theorem d_Brk_find_91 : decode b_Brk_find 91 = .ok (.ifCond .eq 7, 3) := by decide +kernel
theorem d_Brk_find_94 : decode b_Brk_find 94 = .ok (.iconst 1, 1) := by decide +kernel
theorem d_Brk_find_95 : decode b_Brk_find 95 = .ok (.goto 4, 3) := by decide +kernel
theorem d_Brk_find_98 : decode b_Brk_find 98 = .ok (.iconst 0, 1) := by decide +kernel
theorem d_Brk_find_99 : decode b_Brk_find 99 = .ok (.ireturn, 1) := by decide +kernel
theorem d_Hyp_isPoint_0 : decode b_Hyp_isPoint 0 = .ok (.aload_n 0, 1) := by decide +kernel
theorem d_Hyp_isPoint_1 : decode b_Hyp_isPoint 1 = .ok (.getfield 21, 3) := by decide +kernel
theorem d_Hyp_isPoint_4 : decode b_Hyp_isPoint 4 = .ok (.iload_n 1, 1) := by decide +kernel
theorem d_Hyp_isPoint_5 : decode b_Hyp_isPoint 5 = .ok (.iaload, 1) := by decide +kernel
theorem d_Hyp_isPoint_6 : decode b_Hyp_isPoint 6 = .ok (.iconst 2, 1) := by decide +kernel
theorem d_Hyp_isPoint_7 : decode b_Hyp_isPoint 7 = .ok (.irem, 1) := by decide +kernel
theorem d_Hyp_isPoint_8 : decode b_Hyp_isPoint 8 = .ok (.iconst 1, 1) := by decide +kernel
theorem d_Hyp_isPoint_9 : decode b_Hyp_isPoint 9 = .ok (.if_icmp .ne 7, 3) := by decide +kernel
theorem d_Hyp_isPoint_12 : decode b_Hyp_isPoint 12 = .ok (.iconst 1, 1) := by decide +kernel
theorem d_Hyp_isPoint_13 : decode b_Hyp_isPoint 13 = .ok (.goto 4, 3) := by decide +kernel
theorem d_Hyp_isPoint_16 : decode b_Hyp_isPoint 16 = .ok (.iconst 0, 1) := by decide +kernel
theorem d_Hyp_isPoint_17 : decode b_Hyp_isPoint 17 = .ok (.ireturn, 1) := by decide +kernel
theorem d_Brk_add_0 : decode b_Brk_add 0 = .ok (.aload_n 0, 1) := by decide +kernel
theorem d_Brk_add_1 : decode b_Brk_add 1 = .ok (.getfield 21, 3) := by decide +kernel
theorem d_Brk_add_4 : decode b_Brk_add 4 = .ok (.bipush 24, 2) := by decide +kernel
theorem d_Brk_add_6 : decode b_Brk_add 6 = .ok (.if_icmp .ne 5, 3) := by decide +kernel
theorem d_Brk_add_9 : decode b_Brk_add 9 = .ok (.iconst 0, 1) := by decide +kernel
theorem d_Brk_add_10 : decode b_Brk_add 10 = .ok (.ireturn, 1) := by decide +kernel
theorem d_Brk_add_11 : decode b_Brk_add 11 = .ok (.aload_n 0, 1) := by decide +kernel
theorem d_Brk_add_12 : decode b_Brk_add 12 = .ok (.dup, 1) := by decide +kernel
theorem d_Brk_add_13 : decode b_Brk_add 13 = .ok (.getfield 21, 3) := by decide +kernel
theorem d_Brk_add_16 : decode b_Brk_add 16 = .ok (.iconst 1, 1) := by decide +kernel
theorem d_Brk_add_17 : decode b_Brk_add 17 = .ok (.iadd, 1) := by decide +kernel
theorem d_Brk_add_18 : decode b_Brk_add 18 = .ok (.putfield 21, 3) := by decide +kernel
theorem d_Brk_add_21 : decode b_Brk_add 21 = .ok (.aload_n 0, 1) := by decide +kernel
theorem d_Brk_add_22 : decode b_Brk_add 22 = .ok (.getfield 9, 3) := by decide +kernel
theorem d_Brk_add_25 : decode b_Brk_add 25 = .ok (.aload_n 0, 1) := by decide +kernel
theorem d_Brk_add_26 : decode b_Brk_add 26 = .ok (.getfield 21, 3) := by decide +kernel
theorem d_Brk_add_29 : decode b_Brk_add 29 = .ok (.iload_n 1, 1) := by decide +kernel
theorem d_Brk_add_30 : decode b_Brk_add 30 = .ok (.iastore, 1) := by decide +kernel
theorem d_Brk_add_31 : decode b_Brk_add 31 = .ok (.aload_n 0, 1) := by decide +kernel
theorem d_Brk_add_32 : decode b_Brk_add 32 = .ok (.getfield 15, 3) := by decide +kernel
theorem d_Brk_add_35 : decode b_Brk_add 35 = .ok (.aload_n 0, 1) := by decide +kernel
theorem d_Brk_add_36 : decode b_Brk_add 36 = .ok (.getfield 21, 3) := by decide +kernel
theorem d_Brk_add_39 : decode b_Brk_add 39 = .ok (.iload_n 2, 1) := by decide +kernel
theorem d_Brk_add_40 : decode b_Brk_add 40 = .ok (.iastore, 1) := by decide +kernel
theorem d_Brk_add_41 : decode b_Brk_add 41 = .ok (.aload_n 0, 1) := by decide +kernel
theorem d_Brk_add_42 : decode b_Brk_add 42 = .ok (.getfield 18, 3) := by decide +kernel
theorem d_Brk_add_45 : decode b_Brk_add 45 = .ok (.aload_n 0, 1) := by decide +kernel
theorem d_Brk_add_46 : decode b_Brk_add 46 = .ok (.getfield 21, 3) := by decide +kernel
theorem d_Brk_add_49 : decode b_Brk_add 49 = .ok (.iload_n 3, 1) := by decide +kernel
theorem d_Brk_add_50 : decode b_Brk_add 50 = .ok (.iastore, 1) := by decide +kernel
theorem d_Brk_add_51 : decode b_Brk_add 51 = .ok (.iconst 1, 1) := by decide +kernel
theorem d_Brk_add_52 : decode b_Brk_add 52 = .ok (.ireturn, 1) := by decide +kernel
theorem d_Brk_addAt_0 : decode b_Brk_addAt 0 = .ok (.aload_n 1, 1) := by decide +kernel
theorem d_Brk_addAt_1 : decode b_Brk_addAt 1 = .ok (.getfield 42, 3) := by decide +kernel
theorem d_Brk_addAt_4 : decode b_Brk_addAt 4 = .ok (.iload_n 2, 1) := by decide +kernel
theorem d_Brk_addAt_5 : decode b_Brk_addAt 5 = .ok (.iaload, 1) := by decide +kernel
theorem d_Brk_addAt_6 : decode b_Brk_addAt 6 = .ok (.istore_n 3, 1) := by decide +kernel
theorem d_Brk_addAt_7 : decode b_Brk_addAt 7 = .ok (.iload_n 3, 1) := by decide +kernel
theorem d_Brk_addAt_8 : decode b_Brk_addAt 8 = .ok (.bipush 32, 2) := by decide +kernel
theorem d_Brk_addAt_10 : decode b_Brk_addAt 10 = .ok (.if_icmp .ne 13, 3) := by decide +kernel
theorem d_Brk_addAt_13 : decode b_Brk_addAt 13 = .ok (.aload_n 0, 1) := by decide +kernel
theorem d_Brk_addAt_14 : decode b_Brk_addAt 14 = .ok (.iconst 0, 1) := by decide +kernel
theorem d_Brk_addAt_15 : decode b_Brk_addAt 15 = .ok (.iload_n 2, 1) := by decide +kernel
theorem d_Brk_addAt_16 : decode b_Brk_addAt 16 = .ok (.iload_n 2, 1) := by decide +kernel
theorem d_Brk_addAt_17 : decode b_Brk_addAt 17 = .ok (.iconst 1, 1) := by decide +kernel
theorem d_Brk_addAt_18 : decode b_Brk_addAt 18 = .ok (.iadd, 1) := by decide +kernel
theorem d_Brk_addAt_19 : decode b_Brk_addAt 19 = .ok (.invokevirtual 34, 3) := by decide +kernel
theorem d_Brk_addAt_22 : decode b_Brk_addAt 22 = .ok (.ireturn, 1) := by decide +kernel
theorem d_Brk_addAt_23 : decode b_Brk_addAt 23 = .ok (.iload_n 3, 1) := by decide +kernel
theorem d_Brk_addAt_24 : decode b_Brk_addAt 24 = .ok (.bipush 124, 2) := by decide +kernel
theorem d_Brk_addAt_26 : decode b_Brk_addAt 26 = .ok (.if_icmp .ne 13, 3) := by decide +kernel
theorem d_Brk_addAt_29 : decode b_Brk_addAt 29 = .ok (.aload_n 0, 1) := by decide +kernel
theorem d_Brk_addAt_30 : decode b_Brk_addAt 30 = .ok (.iconst 3, 1) := by decide +kernel
theorem d_Brk_addAt_31 : decode b_Brk_addAt 31 = .ok (.iload_n 2, 1) := by decide +kernel
theorem d_Brk_addAt_32 : decode b_Brk_addAt 32 = .ok (.iload_n 2, 1) := by decide +kernel
theorem d_Brk_addAt_33 : decode b_Brk_addAt 33 = .ok (.iconst 1, 1) := by decide +kernel
theorem d_Brk_addAt_34 : decode b_Brk_addAt 34 = .ok (.iadd, 1) := by decide +kernel
theorem d_Brk_addAt_35 : decode b_Brk_addAt 35 = .ok (.invokevirtual 34, 3) := by decide +kernel
theorem d_Brk_addAt_38 : decode b_Brk_addAt 38 = .ok (.ireturn, 1) := by decide +kernel
theorem d_Brk_addAt_39 : decode b_Brk_addAt 39 = .ok (.iload_n 3, 1) := by decide +kernel
theorem d_Brk_addAt_40 : decode b_Brk_addAt 40 = .ok (.bipush 45, 2) := by decide +kernel
theorem d_Brk_addAt_42 : decode b_Brk_addAt 42 = .ok (.if_icmp .ne 41, 3) := by decide +kernel
theorem d_Brk_addAt_45 : decode b_Brk_addAt 45 = .ok (.iload_n 2, 1) := by decide +kernel
theorem d_Brk_addAt_46 : decode b_Brk_addAt 46 = .ok (.iconst 1, 1) := by decide +kernel
theorem d_Brk_addAt_47 : decode b_Brk_addAt 47 = .ok (.iadd, 1) := by decide +kernel
theorem d_Brk_addAt_48 : decode b_Brk_addAt 48 = .ok (.aload_n 1, 1) := by decide +kernel
theorem d_Brk_addAt_49 : decode b_Brk_addAt 49 = .ok (.getfield 25, 3) := by decide +kernel
theorem d_Brk_addAt_52 : decode b_Brk_addAt 52 = .ok (.if_icmp .ge 31, 3) := by decide +kernel
theorem d_Brk_addAt_55 : decode b_Brk_addAt 55 = .ok (.aload_n 0, 1) := by decide +kernel
theorem d_Brk_addAt_56 : decode b_Brk_addAt 56 = .ok (.iconst 1, 1) := by decide +kernel
theorem d_Brk_addAt_57 : decode b_Brk_addAt 57 = .ok (.iload_n 2, 1) := by decide +kernel
theorem d_Brk_addAt_58 : decode b_Brk_addAt 58 = .ok (.iconst 1, 1) := by decide +kernel
theorem d_Brk_addAt_59 : decode b_Brk_addAt 59 = .ok (.iadd, 1) := by decide +kernel
theorem d_Brk_addAt_60 : decode b_Brk_addAt 60 = .ok (.aload_n 1, 1) := by decide +kernel
theorem d_Brk_addAt_61 : decode b_Brk_addAt 61 = .ok (.iload_n 2, 1) := by decide +kernel
theorem d_Brk_addAt_62 : decode b_Brk_addAt 62 = .ok (.iconst 1, 1) := by decide +kernel
theorem d_Brk_addAt_63 : decode b_Brk_addAt 63 = .ok (.iadd, 1) := by decide +kernel
theorem d_Brk_addAt_64 : decode b_Brk_addAt 64 = .ok (.invokevirtual 45, 3) := by decide +kernel
theorem d_Brk_addAt_67 : decode b_Brk_addAt 67 = .ok (.ifCond .eq 9, 3) := by decide +kernel
theorem d_Brk_addAt_70 : decode b_Brk_addAt 70 = .ok (.iload_n 2, 1) := by decide +kernel
theorem d_Brk_addAt_71 : decode b_Brk_addAt 71 = .ok (.iconst 2, 1) := by decide +kernel
theorem d_Brk_addAt_72 : decode b_Brk_addAt 72 = .ok (.iadd, 1) := by decide +kernel
theorem d_Brk_addAt_73 : decode b_Brk_addAt 73 = .ok (.goto 6, 3) := by decide +kernel
theorem d_Brk_addAt_76 : decode b_Brk_addAt 76 = .ok (.iload_n 2, 1) := by decide +kernel
theorem d_Brk_addAt_77 : decode b_Brk_addAt 77 = .ok (.iconst 1, 1) := by decide +kernel
theorem d_Brk_addAt_78 : decode b_Brk_addAt 78 = .ok (.iadd, 1) := by decide +kernel
theorem d_Brk_addAt_79 : decode b_Brk_addAt 79 = .ok (.invokevirtual 34, 3) := by decide +kernel
theorem d_Brk_addAt_82 : decode b_Brk_addAt 82 = .ok (.ireturn, 1) := by decide +kernel
theorem d_Brk_addAt_83 : decode b_Brk_addAt 83 = .ok (.iconst 1, 1) := by decide +kernel
theorem d_Brk_addAt_84 : decode b_Brk_addAt 84 = .ok (.ireturn, 1) := by decide +kernel
theorem d_Txt_isBlank_0 : decode b_Txt_isBlank 0 = .ok (.iload_n 1, 1) := by decide +kernel
theorem d_Txt_isBlank_1 : decode b_Txt_isBlank 1 = .ok (.ifCond .lt 26, 3) := by decide +kernel
theorem d_Txt_isBlank_4 : decode b_Txt_isBlank 4 = .ok (.iload_n 1, 1) := by decide +kernel
theorem d_Txt_isBlank_5 : decode b_Txt_isBlank 5 = .ok (.aload_n 0, 1) := by decide +kernel
theorem d_Txt_isBlank_6 : decode b_Txt_isBlank 6 = .ok (.getfield 18, 3) := by decide +kernel
theorem d_Txt_isBlank_9 : decode b_Txt_isBlank 9 = .ok (.if_icmp .ge 18, 3) := by decide +kernel
theorem d_Txt_isBlank_12 : decode b_Txt_isBlank 12 = .ok (.aload_n 0, 1) := by decide +kernel
theorem d_Txt_isBlank_13 : decode b_Txt_isBlank 13 = .ok (.getfield 9, 3) := by decide +kernel
theorem d_Txt_isBlank_16 : decode b_Txt_isBlank 16 = .ok (.iload_n 1, 1) := by decide +kernel
theorem d_Txt_isBlank_17 : decode b_Txt_isBlank 17 = .ok (.iaload, 1) := by decide +kernel
theorem d_Txt_isBlank_18 : decode b_Txt_isBlank 18 = .ok (.bipush 32, 2) := by decide +kernel
theorem d_Txt_isBlank_20 : decode b_Txt_isBlank 20 = .ok (.if_icmp .ne 7, 3) := by decide +kernel
theorem d_Txt_isBlank_23 : decode b_Txt_isBlank 23 = .ok (.iconst 1, 1) := by decide +kernel
theorem d_Txt_isBlank_24 : decode b_Txt_isBlank 24 = .ok (.goto 4, 3) := by decide +kernel
theorem d_Txt_isBlank_27 : decode b_Txt_isBlank 27 = .ok (.iconst 0, 1) := by decide +kernel
theorem d_Txt_isBlank_28 : decode b_Txt_isBlank 28 = .ok (.ireturn, 1) := by decide +kernel
theorem d_Sum_addUp_0 : decode b_Sum_addUp 0 = .ok (.iconst 0, 1) := by decide +kernel
theorem d_Sum_addUp_1 : decode b_Sum_addUp 1 = .ok (.istore_n 3, 1) := by decide +kernel
theorem d_Sum_addUp_2 : decode b_Sum_addUp 2 = .ok (.iload_n 3, 1) := by decide +kernel
theorem d_Sum_addUp_3 : decode b_Sum_addUp 3 = .ok (.aload_n 1, 1) := by decide +kernel
theorem d_Sum_addUp_4 : decode b_Sum_addUp 4 = .ok (.getfield 27, 3) := by decide +kernel
theorem d_Sum_addUp_7 : decode b_Sum_addUp 7 = .ok (.if_icmp .ge 155, 3) := by decide +kernel
theorem d_Sum_addUp_10 : decode b_Sum_addUp 10 = .ok (.aload_n 1, 1) := by decide +kernel
theorem d_Sum_addUp_11 : decode b_Sum_addUp 11 = .ok (.getfield 33, 3) := by decide +kernel
theorem d_Sum_addUp_14 : decode b_Sum_addUp 14 = .ok (.iload_n 3, 1) := by decide +kernel
theorem d_Sum_addUp_15 : decode b_Sum_addUp 15 = .ok (.iaload, 1) := by decide +kernel
theorem d_Sum_addUp_16 : decode b_Sum_addUp 16 = .ok (.istore 4, 2) := by decide +kernel
theorem d_Sum_addUp_18 : decode b_Sum_addUp 18 = .ok (.aload_n 1, 1) := by decide +kernel
theorem d_Sum_addUp_19 : decode b_Sum_addUp 19 = .ok (.getfield 36, 3) := by decide +kernel
theorem d_Sum_addUp_22 : decode b_Sum_addUp 22 = .ok (.iload_n 3, 1) := by decide +kernel
theorem d_Sum_addUp_23 : decode b_Sum_addUp 23 = .ok (.iaload, 1) := by decide +kernel
theorem d_Sum_addUp_24 : decode b_Sum_addUp 24 = .ok (.istore 5, 2) := by decide +kernel
theorem d_Sum_addUp_26 : decode b_Sum_addUp 26 = .ok (.aload_n 0, 1) := by decide +kernel
theorem d_Sum_addUp_27 : decode b_Sum_addUp 27 = .ok (.getfield 9, 3) := by decide +kernel
theorem d_Sum_addUp_30 : decode b_Sum_addUp 30 = .ok (.iload_n 3, 1) := by decide +kernel
theorem d_Sum_addUp_31 : decode b_Sum_addUp 31 = .ok (.iconst 1, 1) := by decide +kernel
theorem d_Sum_addUp_32 : decode b_Sum_addUp 32 = .ok (.iadd, 1) := by decide +kernel
theorem d_Sum_addUp_33 : decode b_Sum_addUp 33 = .ok (.aload_n 0, 1) := by decide +kernel
theorem d_Sum_addUp_34 : decode b_Sum_addUp 34 = .ok (.getfield 9, 3) := by decide +kernel
theorem d_Sum_addUp_37 : decode b_Sum_addUp 37 = .ok (.iload_n 3, 1) := by decide +kernel
theorem d_Sum_addUp_38 : decode b_Sum_addUp 38 = .ok (.iaload, 1) := by decide +kernel
theorem d_Sum_addUp_39 : decode b_Sum_addUp 39 = .ok (.iload 4, 2) := by decide +kernel
theorem d_Sum_addUp_41 : decode b_Sum_addUp 41 = .ok (.invokestatic 39, 3) := by decide +kernel
theorem d_Sum_addUp_44 : decode b_Sum_addUp 44 = .ok (.ifCond .eq 13, 3) := by decide +kernel
theorem d_Sum_addUp_47 : decode b_Sum_addUp 47 = .ok (.aload_n 2, 1) := by decide +kernel
theorem d_Sum_addUp_48 : decode b_Sum_addUp 48 = .ok (.iload 4, 2) := by decide +kernel
theorem d_Sum_addUp_50 : decode b_Sum_addUp 50 = .ok (.invokestatic 43, 3) := by decide +kernel
theorem d_Sum_addUp_53 : decode b_Sum_addUp 53 = .ok (.iaload, 1) := by decide +kernel
theorem d_Sum_addUp_54 : decode b_Sum_addUp 54 = .ok (.goto 5, 3) := by decide +kernel
theorem d_Sum_addUp_57 : decode b_Sum_addUp 57 = .ok (.iload 5, 2) := by decide +kernel
theorem d_Sum_addUp_59 : decode b_Sum_addUp 59 = .ok (.iadd, 1) := by decide +kernel
theorem d_Sum_addUp_60 : decode b_Sum_addUp 60 = .ok (.iastore, 1) := by decide +kernel
theorem d_Sum_addUp_61 : decode b_Sum_addUp 61 = .ok (.aload_n 0, 1) := by decide +kernel
theorem d_Sum_addUp_62 : decode b_Sum_addUp 62 = .ok (.getfield 15, 3) := by decide +kernel
theorem d_Sum_addUp_65 : decode b_Sum_addUp 65 = .ok (.iload_n 3, 1) := by decide +kernel
theorem d_Sum_addUp_66 : decode b_Sum_addUp 66 = .ok (.iconst 1, 1) := by decide +kernel
theorem d_Sum_addUp_67 : decode b_Sum_addUp 67 = .ok (.iadd, 1) := by decide +kernel
theorem d_Sum_addUp_68 : decode b_Sum_addUp 68 = .ok (.aload_n 0, 1) := by decide +kernel
theorem d_Sum_addUp_69 : decode b_Sum_addUp 69 = .ok (.getfield 15, 3) := by decide +kernel
theorem d_Sum_addUp_72 : decode b_Sum_addUp 72 = .ok (.iload_n 3, 1) := by decide +kernel
theorem d_Sum_addUp_73 : decode b_Sum_addUp 73 = .ok (.iaload, 1) := by decide +kernel
theorem d_Sum_addUp_74 : decode b_Sum_addUp 74 = .ok (.iload 5, 2) := by decide +kernel
theorem d_Sum_addUp_76 : decode b_Sum_addUp 76 = .ok (.iconst 1, 1) := by decide +kernel
theorem d_Sum_addUp_77 : decode b_Sum_addUp 77 = .ok (.iadd, 1) := by decide +kernel
theorem d_Sum_addUp_78 : decode b_Sum_addUp 78 = .ok (.iconst 2, 1) := by decide +kernel
theorem d_Sum_addUp_79 : decode b_Sum_addUp 79 = .ok (.idiv, 1) := by decide +kernel
theorem d_Sum_addUp_80 : decode b_Sum_addUp 80 = .ok (.iadd, 1) := by decide +kernel
theorem d_Sum_addUp_81 : decode b_Sum_addUp 81 = .ok (.iastore, 1) := by decide +kernel
theorem d_Sum_addUp_82 : decode b_Sum_addUp 82 = .ok (.aload_n 0, 1) := by decide +kernel
theorem d_Sum_addUp_83 : decode b_Sum_addUp 83 = .ok (.getfield 18, 3) := by decide +kernel
theorem d_Sum_addUp_86 : decode b_Sum_addUp 86 = .ok (.iload_n 3, 1) := by decide +kernel
theorem d_Sum_addUp_87 : decode b_Sum_addUp 87 = .ok (.iconst 1, 1) := by decide +kernel
theorem d_Sum_addUp_88 : decode b_Sum_addUp 88 = .ok (.iadd, 1) := by decide +kernel
theorem d_Sum_addUp_89 : decode b_Sum_addUp 89 = .ok (.aload_n 0, 1) := by decide +kernel
theorem d_Sum_addUp_90 : decode b_Sum_addUp 90 = .ok (.getfield 18, 3) := by decide +kernel
theorem d_Sum_addUp_93 : decode b_Sum_addUp 93 = .ok (.iload_n 3, 1) := by decide +kernel
theorem d_Sum_addUp_94 : decode b_Sum_addUp 94 = .ok (.iaload, 1) := by decide +kernel
theorem d_Sum_addUp_95 : decode b_Sum_addUp 95 = .ok (.iload 5, 2) := by decide +kernel
theorem d_Sum_addUp_97 : decode b_Sum_addUp 97 = .ok (.iconst 3, 1) := by decide +kernel
theorem d_Sum_addUp_98 : decode b_Sum_addUp 98 = .ok (.idiv, 1) := by decide +kernel
theorem d_Sum_addUp_99 : decode b_Sum_addUp 99 = .ok (.iadd, 1) := by decide +kernel
theorem d_Sum_addUp_100 : decode b_Sum_addUp 100 = .ok (.iastore, 1) := by decide +kernel
theorem d_Sum_addUp_101 : decode b_Sum_addUp 101 = .ok (.aload_n 0, 1) := by decide +kernel
theorem d_Sum_addUp_102 : decode b_Sum_addUp 102 = .ok (.getfield 21, 3) := by decide +kernel
theorem d_Sum_addUp_105 : decode b_Sum_addUp 105 = .ok (.iload_n 3, 1) := by decide +kernel
theorem d_Sum_addUp_106 : decode b_Sum_addUp 106 = .ok (.iconst 1, 1) := by decide +kernel
theorem d_Sum_addUp_107 : decode b_Sum_addUp 107 = .ok (.iadd, 1) := by decide +kernel
theorem d_Sum_addUp_108 : decode b_Sum_addUp 108 = .ok (.aload_n 0, 1) := by decide +kernel
theorem d_Sum_addUp_109 : decode b_Sum_addUp 109 = .ok (.getfield 21, 3) := by decide +kernel
theorem d_Sum_addUp_112 : decode b_Sum_addUp 112 = .ok (.iload_n 3, 1) := by decide +kernel
theorem d_Sum_addUp_113 : decode b_Sum_addUp 113 = .ok (.iaload, 1) := by decide +kernel
theorem d_Sum_addUp_114 : decode b_Sum_addUp 114 = .ok (.iload 4, 2) := by decide +kernel
theorem d_Sum_addUp_116 : decode b_Sum_addUp 116 = .ok (.invokestatic 47, 3) := by decide +kernel
theorem d_Sum_addUp_119 : decode b_Sum_addUp 119 = .ok (.ifCond .eq 7, 3) := by decide +kernel
theorem d_Sum_addUp_122 : decode b_Sum_addUp 122 = .ok (.iconst 1, 1) := by decide +kernel
theorem d_Sum_addUp_123 : decode b_Sum_addUp 123 = .ok (.goto 4, 3) := by decide +kernel
theorem d_Sum_addUp_126 : decode b_Sum_addUp 126 = .ok (.iconst 0, 1) := by decide +kernel
theorem d_Sum_addUp_127 : decode b_Sum_addUp 127 = .ok (.iadd, 1) := by decide +kernel
theorem d_Sum_addUp_128 : decode b_Sum_addUp 128 = .ok (.iastore, 1) := by decide +kernel
theorem d_Sum_addUp_129 : decode b_Sum_addUp 129 = .ok (.aload_n 0, 1) := by decide +kernel
theorem d_Sum_addUp_130 : decode b_Sum_addUp 130 = .ok (.getfield 24, 3) := by decide +kernel
theorem d_Sum_addUp_133 : decode b_Sum_addUp 133 = .ok (.iload_n 3, 1) := by decide +kernel
theorem d_Sum_addUp_134 : decode b_Sum_addUp 134 = .ok (.iconst 1, 1) := by decide +kernel
theorem d_Sum_addUp_135 : decode b_Sum_addUp 135 = .ok (.iadd, 1) := by decide +kernel
theorem d_Sum_addUp_136 : decode b_Sum_addUp 136 = .ok (.aload_n 0, 1) := by decide +kernel
theorem d_Sum_addUp_137 : decode b_Sum_addUp 137 = .ok (.getfield 24, 3) := by decide +kernel
theorem d_Sum_addUp_140 : decode b_Sum_addUp 140 = .ok (.iload_n 3, 1) := by decide +kernel
theorem d_Sum_addUp_141 : decode b_Sum_addUp 141 = .ok (.iaload, 1) := by decide +kernel
theorem d_Sum_addUp_142 : decode b_Sum_addUp 142 = .ok (.iload 4, 2) := by decide +kernel
theorem d_Sum_addUp_144 : decode b_Sum_addUp 144 = .ok (.bipush 45, 2) := by decide +kernel
theorem d_Sum_addUp_146 : decode b_Sum_addUp 146 = .ok (.if_icmp .ne 7, 3) := by decide +kernel
theorem d_Sum_addUp_149 : decode b_Sum_addUp 149 = .ok (.iconst 1, 1) := by decide +kernel
theorem d_Sum_addUp_150 : decode b_Sum_addUp 150 = .ok (.goto 4, 3) := by decide +kernel
theorem d_Sum_addUp_153 : decode b_Sum_addUp 153 = .ok (.iconst 0, 1) := by decide +kernel
theorem d_Sum_addUp_154 : decode b_Sum_addUp 154 = .ok (.iadd, 1) := by decide +kernel
theorem d_Sum_addUp_155 : decode b_Sum_addUp 155 = .ok (.iastore, 1) := by decide +kernel
theorem d_Sum_addUp_156 : decode b_Sum_addUp 156 = .ok (.iinc 3 1, 3) := by decide +kernel
theorem d_Sum_addUp_159 : decode b_Sum_addUp 159 = .ok (.goto (-157), 3) := by decide +kernel
theorem d_Sum_addUp_162 : decode b_Sum_addUp 162 = .ok (.return_, 1) := by decide +kernel
theorem d_Brk_points_0 : decode b_Brk_points 0 = .ok (.iconst 0, 1) := by decide +kernel
theorem d_Brk_points_1 : decode b_Brk_points 1 = .ok (.istore_n 1, 1) := by decide +kernel
theorem d_Brk_points_2 : decode b_Brk_points 2 = .ok (.iconst 1, 1) := by decide +kernel
theorem d_Brk_points_3 : decode b_Brk_points 3 = .ok (.istore_n 2, 1) := by decide +kernel
theorem d_Brk_points_4 : decode b_Brk_points 4 = .ok (.iload_n 2, 1) := by decide +kernel
theorem d_Brk_points_5 : decode b_Brk_points 5 = .ok (.aload_n 0, 1) := by decide +kernel
theorem d_Brk_points_6 : decode b_Brk_points 6 = .ok (.getfield 21, 3) := by decide +kernel
theorem d_Brk_points_9 : decode b_Brk_points 9 = .ok (.if_icmp .gt 22, 3) := by decide +kernel
theorem d_Brk_points_12 : decode b_Brk_points 12 = .ok (.aload_n 0, 1) := by decide +kernel
theorem d_Brk_points_13 : decode b_Brk_points 13 = .ok (.getfield 9, 3) := by decide +kernel
theorem d_Brk_points_16 : decode b_Brk_points 16 = .ok (.iload_n 2, 1) := by decide +kernel
theorem d_Brk_points_17 : decode b_Brk_points 17 = .ok (.iaload, 1) := by decide +kernel
theorem d_Brk_points_18 : decode b_Brk_points 18 = .ok (.iconst 2, 1) := by decide +kernel
theorem d_Brk_points_19 : decode b_Brk_points 19 = .ok (.if_icmp .ne 6, 3) := by decide +kernel
theorem d_Brk_points_22 : decode b_Brk_points 22 = .ok (.iinc 1 1, 3) := by decide +kernel
theorem d_Brk_points_25 : decode b_Brk_points 25 = .ok (.iinc 2 1, 3) := by decide +kernel
theorem d_Brk_points_28 : decode b_Brk_points 28 = .ok (.goto (-24), 3) := by decide +kernel
theorem d_Brk_points_31 : decode b_Brk_points 31 = .ok (.iload_n 1, 1) := by decide +kernel
theorem d_Brk_points_32 : decode b_Brk_points 32 = .ok (.ireturn, 1) := by decide +kernel
end
section
theorem d_PS_init_0 : decode b_PS_init 0 = .ok (.aload_n 0, 1) := by decide +kernel
theorem d_PS_init_1 : decode b_PS_init 1 = .ok (.invokespecial 3, 3) := by decide +kernel
theorem d_PS_init_4 : decode b_PS_init 4 = .ok (.aload_n 0, 1) := by decide +kernel
theorem d_PS_init_5 : decode b_PS_init 5 = .ok (.new 9, 3) := by decide +kernel
theorem d_PS_init_8 : decode b_PS_init 8 = .ok (.dup, 1) := by decide +kernel
theorem d_PS_init_9 : decode b_PS_init 9 = .ok (.bipush 60, 2) := by decide +kernel
theorem d_PS_init_11 : decode b_PS_init 11 = .ok (.invokespecial 11, 3) := by decide +kernel
theorem d_PS_init_14 : decode b_PS_init 14 = .ok (.putfield 14, 3) := by decide +kernel
theorem d_PS_init_17 : decode b_PS_init 17 = .ok (.aload_n 0, 1) := by decide +kernel
theorem d_PS_init_18 : decode b_PS_init 18 = .ok (.bipush 27, 2) := by decide +kernel
theorem d_PS_init_20 : decode b_PS_init 20 = .ok (.newarray .int, 2) := by decide +kernel
theorem d_PS_init_22 : decode b_PS_init 22 = .ok (.putfield 18, 3) := by decide +kernel
theorem d_PS_init_25 : decode b_PS_init 25 = .ok (.aload_n 0, 1) := by decide +kernel
theorem d_PS_init_26 : decode b_PS_init 26 = .ok (.getstatic 22, 3) := by decide +kernel
theorem d_PS_init_29 : decode b_PS_init 29 = .ok (.arraylength, 1) := by decide +kernel
theorem d_PS_init_30 : decode b_PS_init 30 = .ok (.newarray .int, 2) := by decide +kernel
theorem d_PS_init_32 : decode b_PS_init 32 = .ok (.putfield 25, 3) := by decide +kernel
theorem d_PS_init_35 : decode b_PS_init 35 = .ok (.aload_n 0, 1) := by decide +kernel
theorem d_PS_init_36 : decode b_PS_init 36 = .ok (.new 28, 3) := by decide +kernel
theorem d_PS_init_39 : decode b_PS_init 39 = .ok (.dup, 1) := by decide +kernel
theorem d_PS_init_40 : decode b_PS_init 40 = .ok (.invokespecial 30, 3) := by decide +kernel
theorem d_PS_init_43 : decode b_PS_init 43 = .ok (.putfield 31, 3) := by decide +kernel
theorem d_PS_init_46 : decode b_PS_init 46 = .ok (.aload_n 0, 1) := by decide +kernel
theorem d_PS_init_47 : decode b_PS_init 47 = .ok (.new 35, 3) := by decide +kernel
theorem d_PS_init_50 : decode b_PS_init 50 = .ok (.dup, 1) := by decide +kernel
theorem d_PS_init_51 : decode b_PS_init 51 = .ok (.invokespecial 37, 3) := by decide +kernel
theorem d_PS_init_54 : decode b_PS_init 54 = .ok (.putfield 38, 3) := by decide +kernel
theorem d_PS_init_57 : decode b_PS_init 57 = .ok (.aload_n 0, 1) := by decide +kernel
theorem d_PS_init_58 : decode b_PS_init 58 = .ok (.new 42, 3) := by decide +kernel
theorem d_PS_init_61 : decode b_PS_init 61 = .ok (.dup, 1) := by decide +kernel
theorem d_PS_init_62 : decode b_PS_init 62 = .ok (.invokespecial 44, 3) := by decide +kernel
theorem d_PS_init_65 : decode b_PS_init 65 = .ok (.putfield 45, 3) := by decide +kernel
theorem d_PS_init_68 : decode b_PS_init 68 = .ok (.aload_n 0, 1) := by decide +kernel
theorem d_PS_init_69 : decode b_PS_init 69 = .ok (.new 49, 3) := by decide +kernel
theorem d_PS_init_72 : decode b_PS_init 72 = .ok (.dup, 1) := by decide +kernel
theorem d_PS_init_73 : decode b_PS_init 73 = .ok (.invokespecial 51, 3) := by decide +kernel
theorem d_PS_init_76 : decode b_PS_init 76 = .ok (.putfield 52, 3) := by decide +kernel
theorem d_PS_init_79 : decode b_PS_init 79 = .ok (.aload_n 0, 1) := by decide +kernel
theorem d_PS_init_80 : decode b_PS_init 80 = .ok (.new 49, 3) := by decide +kernel
theorem d_PS_init_83 : decode b_PS_init 83 = .ok (.dup, 1) := by decide +kernel
theorem d_PS_init_84 : decode b_PS_init 84 = .ok (.invokespecial 51, 3) := by decide +kernel
theorem d_PS_init_87 : decode b_PS_init 87 = .ok (.putfield 56, 3) := by decide +kernel
theorem d_PS_init_90 : decode b_PS_init 90 = .ok (.iconst 0, 1) := by decide +kernel
theorem d_PS_init_91 : decode b_PS_init 91 = .ok (.istore_n 1, 1) := by decide +kernel
theorem d_PS_init_92 : decode b_PS_init 92 = .ok (.iload_n 1, 1) := by decide +kernel
theorem d_PS_init_93 : decode b_PS_init 93 = .ok (.aload_n 0, 1) := by decide +kernel
theorem d_PS_init_94 : decode b_PS_init 94 = .ok (.getfield 18, 3) := by decide +kernel
theorem d_PS_init_97 : decode b_PS_init 97 = .ok (.arraylength, 1) := by decide +kernel
theorem d_PS_init_98 : decode b_PS_init 98 = .ok (.if_icmp .ge 16, 3) := by decide +kernel
theorem d_PS_init_101 : decode b_PS_init 101 = .ok (.aload_n 0, 1) := by decide +kernel
theorem d_PS_init_102 : decode b_PS_init 102 = .ok (.getfield 18, 3) := by decide +kernel
theorem d_PS_init_105 : decode b_PS_init 105 = .ok (.iload_n 1, 1) := by decide +kernel
theorem d_PS_init_106 : decode b_PS_init 106 = .ok (.iconst 5, 1) := by decide +kernel
theorem d_PS_init_107 : decode b_PS_init 107 = .ok (.iastore, 1) := by decide +kernel
theorem d_PS_init_108 : decode b_PS_init 108 = .ok (.iinc 1 1, 3) := by decide +kernel
theorem d_PS_init_111 : decode b_PS_init 111 = .ok (.goto (-19), 3) := by decide +kernel
theorem d_PS_init_114 : decode b_PS_init 114 = .ok (.iconst 0, 1) := by decide +kernel
theorem d_PS_init_115 : decode b_PS_init 115 = .ok (.istore_n 1, 1) := by decide +kernel
theorem d_PS_init_116 : decode b_PS_init 116 = .ok (.iload_n 1, 1) := by decide +kernel
theorem d_PS_init_117 : decode b_PS_init 117 = .ok (.aload_n 0, 1) := by decide +kernel
theorem d_PS_init_118 : decode b_PS_init 118 = .ok (.getfield 25, 3) := by decide +kernel
theorem d_PS_init_121 : decode b_PS_init 121 = .ok (.arraylength, 1) := by decide +kernel
theorem d_PS_init_122 : decode b_PS_init 122 = .ok (.if_icmp .ge 20, 3) := by decide +kernel
theorem d_PS_init_125 : decode b_PS_init 125 = .ok (.aload_n 0, 1) := by decide +kernel
theorem d_PS_init_126 : decode b_PS_init 126 = .ok (.getfield 25, 3) := by decide +kernel
theorem d_PS_init_129 : decode b_PS_init 129 = .ok (.iload_n 1, 1) := by decide +kernel
theorem d_PS_init_130 : decode b_PS_init 130 = .ok (.getstatic 22, 3) := by decide +kernel
theorem d_PS_init_133 : decode b_PS_init 133 = .ok (.iload_n 1, 1) := by decide +kernel
theorem d_PS_init_134 : decode b_PS_init 134 = .ok (.iaload, 1) := by decide +kernel
theorem d_PS_init_135 : decode b_PS_init 135 = .ok (.iastore, 1) := by decide +kernel
theorem d_PS_init_136 : decode b_PS_init 136 = .ok (.iinc 1 1, 3) := by decide +kernel
theorem d_PS_init_139 : decode b_PS_init 139 = .ok (.goto (-23), 3) := by decide +kernel
theorem d_PS_init_142 : decode b_PS_init 142 = .ok (.return_, 1) := by decide +kernel
theorem d_Cho_init_0 : decode b_Cho_init 0 = .ok (.aload_n 0, 1) := by decide +kernel
theorem d_Cho_init_1 : decode b_Cho_init 1 = .ok (.invokespecial 3, 3) := by decide +kernel
theorem d_Cho_init_4 : decode b_Cho_init 4 = .ok (.aload_n 0, 1) := by decide +kernel
theorem d_Cho_init_5 : decode b_Cho_init 5 = .ok (.bipush 25, 2) := by decide +kernel
theorem d_Cho_init_7 : decode b_Cho_init 7 = .ok (.newarray .long, 2) := by decide +kernel
theorem d_Cho_init_9 : decode b_Cho_init 9 = .ok (.putfield 9, 3) := by decide +kernel
theorem d_Cho_init_12 : decode b_Cho_init 12 = .ok (.aload_n 0, 1) := by decide +kernel
theorem d_Cho_init_13 : decode b_Cho_init 13 = .ok (.bipush 25, 2) := by decide +kernel
theorem d_Cho_init_15 : decode b_Cho_init 15 = .ok (.newarray .int, 2) := by decide +kernel
theorem d_Cho_init_17 : decode b_Cho_init 17 = .ok (.putfield 15, 3) := by decide +kernel
theorem d_Cho_init_20 : decode b_Cho_init 20 = .ok (.aload_n 0, 1) := by decide +kernel
theorem d_Cho_init_21 : decode b_Cho_init 21 = .ok (.bipush 25, 2) := by decide +kernel
theorem d_Cho_init_23 : decode b_Cho_init 23 = .ok (.newarray .int, 2) := by decide +kernel
theorem d_Cho_init_25 : decode b_Cho_init 25 = .ok (.putfield 19, 3) := by decide +kernel
theorem d_Cho_init_28 : decode b_Cho_init 28 = .ok (.return_, 1) := by decide +kernel
theorem d_Stg_init_0 : decode b_Stg_init 0 = .ok (.aload_n 0, 1) := by decide +kernel
theorem d_Stg_init_1 : decode b_Stg_init 1 = .ok (.invokespecial 3, 3) := by decide +kernel
theorem d_Stg_init_4 : decode b_Stg_init 4 = .ok (.aload_n 0, 1) := by decide +kernel
theorem d_Stg_init_5 : decode b_Stg_init 5 = .ok (.new 9, 3) := by decide +kernel
theorem d_Stg_init_8 : decode b_Stg_init 8 = .ok (.dup, 1) := by decide +kernel
theorem d_Stg_init_9 : decode b_Stg_init 9 = .ok (.invokespecial 11, 3) := by decide +kernel
theorem d_Stg_init_12 : decode b_Stg_init 12 = .ok (.putfield 12, 3) := by decide +kernel
theorem d_Stg_init_15 : decode b_Stg_init 15 = .ok (.aload_n 0, 1) := by decide +kernel
theorem d_Stg_init_16 : decode b_Stg_init 16 = .ok (.new 18, 3) := by decide +kernel
theorem d_Stg_init_19 : decode b_Stg_init 19 = .ok (.dup, 1) := by decide +kernel
theorem d_Stg_init_20 : decode b_Stg_init 20 = .ok (.invokespecial 20, 3) := by decide +kernel
theorem d_Stg_init_23 : decode b_Stg_init 23 = .ok (.putfield 21, 3) := by decide +kernel
theorem d_Stg_init_26 : decode b_Stg_init 26 = .ok (.aload_n 0, 1) := by decide +kernel
theorem d_Stg_init_27 : decode b_Stg_init 27 = .ok (.new 25, 3) := by decide +kernel
theorem d_Stg_init_30 : decode b_Stg_init 30 = .ok (.dup, 1) := by decide +kernel
theorem d_Stg_init_31 : decode b_Stg_init 31 = .ok (.invokespecial 27, 3) := by decide +kernel
theorem d_Stg_init_34 : decode b_Stg_init 34 = .ok (.putfield 28, 3) := by decide +kernel
theorem d_Stg_init_37 : decode b_Stg_init 37 = .ok (.aload_n 0, 1) := by decide +kernel
theorem d_Stg_init_38 : decode b_Stg_init 38 = .ok (.getstatic 32, 3) := by decide +kernel
theorem d_Stg_init_41 : decode b_Stg_init 41 = .ok (.arraylength, 1) := by decide +kernel
theorem d_Stg_init_42 : decode b_Stg_init 42 = .ok (.newarray .int, 2) := by decide +kernel
theorem d_Stg_init_44 : decode b_Stg_init 44 = .ok (.putfield 36, 3) := by decide +kernel
theorem d_Stg_init_47 : decode b_Stg_init 47 = .ok (.aload_n 0, 1) := by decide +kernel
theorem d_Stg_init_48 : decode b_Stg_init 48 = .ok (.iconst 0, 1) := by decide +kernel
theorem d_Stg_init_49 : decode b_Stg_init 49 = .ok (.putfield 39, 3) := by decide +kernel
theorem d_Stg_init_52 : decode b_Stg_init 52 = .ok (.aload_n 0, 1) := by decide +kernel
theorem d_Stg_init_53 : decode b_Stg_init 53 = .ok (.iconst 0, 1) := by decide +kernel
theorem d_Stg_init_54 : decode b_Stg_init 54 = .ok (.putfield 43, 3) := by decide +kernel
theorem d_Stg_init_57 : decode b_Stg_init 57 = .ok (.aload_n 0, 1) := by decide +kernel
theorem d_Stg_init_58 : decode b_Stg_init 58 = .ok (.bipush 25, 2) := by decide +kernel
theorem d_Stg_init_60 : decode b_Stg_init 60 = .ok (.newarray .int, 2) := by decide +kernel
theorem d_Stg_init_62 : decode b_Stg_init 62 = .ok (.putfield 46, 3) := by decide +kernel
theorem d_Stg_init_65 : decode b_Stg_init 65 = .ok (.aload_n 0, 1) := by decide +kernel
theorem d_Stg_init_66 : decode b_Stg_init 66 = .ok (.iconst 0, 1) := by decide +kernel
theorem d_Stg_init_67 : decode b_Stg_init 67 = .ok (.putfield 49, 3) := by decide +kernel
theorem d_Stg_init_70 : decode b_Stg_init 70 = .ok (.aload_n 0, 1) := by decide +kernel
theorem d_Stg_init_71 : decode b_Stg_init 71 = .ok (.lconst 0, 1) := by decide +kernel
theorem d_Stg_init_72 : decode b_Stg_init 72 = .ok (.putfield 52, 3) := by decide +kernel
theorem d_Stg_init_75 : decode b_Stg_init 75 = .ok (.return_, 1) := by decide +kernel
theorem d_PS_type_0 : decode b_PS_type 0 = .ok (.iload_n 1, 1) := by decide +kernel
theorem d_PS_type_1 : decode b_PS_type 1 = .ok (.invokestatic 59, 3) := by decide +kernel
theorem d_PS_type_4 : decode b_PS_type 4 = .ok (.ifCond .ne 5, 3) := by decide +kernel
theorem d_PS_type_7 : decode b_PS_type 7 = .ok (.iconst (-1), 1) := by decide +kernel
theorem d_PS_type_8 : decode b_PS_type 8 = .ok (.ireturn, 1) := by decide +kernel
theorem d_PS_type_9 : decode b_PS_type 9 = .ok (.aload_n 0, 1) := by decide +kernel
theorem d_PS_type_10 : decode b_PS_type 10 = .ok (.getfield 14, 3) := by decide +kernel
theorem d_PS_type_13 : decode b_PS_type 13 = .ok (.invokevirtual 63, 3) := by decide +kernel
theorem d_PS_type_16 : decode b_PS_type 16 = .ok (.ifCond .eq 6, 3) := by decide +kernel
theorem d_PS_type_19 : decode b_PS_type 19 = .ok (.bipush (-2), 2) := by decide +kernel
theorem d_PS_type_21 : decode b_PS_type 21 = .ok (.ireturn, 1) := by decide +kernel
theorem d_PS_type_22 : decode b_PS_type 22 = .ok (.aload_n 0, 1) := by decide +kernel
theorem d_PS_type_23 : decode b_PS_type 23 = .ok (.getfield 14, 3) := by decide +kernel
theorem d_PS_type_26 : decode b_PS_type 26 = .ok (.iload_n 1, 1) := by decide +kernel
theorem d_PS_type_27 : decode b_PS_type 27 = .ok (.invokevirtual 67, 3) := by decide +kernel
theorem d_PS_type_30 : decode b_PS_type 30 = .ok (.aload_n 0, 1) := by decide +kernel
theorem d_PS_type_31 : decode b_PS_type 31 = .ok (.getfield 14, 3) := by decide +kernel
theorem d_PS_type_34 : decode b_PS_type 34 = .ok (.getfield 70, 3) := by decide +kernel
theorem d_PS_type_37 : decode b_PS_type 37 = .ok (.ireturn, 1) := by decide +kernel
theorem d_PS_isOfLine_0 : decode b_PS_isOfLine 0 = .ok (.iload_n 0, 1) := by decide +kernel
theorem d_PS_isOfLine_1 : decode b_PS_isOfLine 1 = .ok (.invokestatic 193, 3) := by decide +kernel
theorem d_PS_isOfLine_4 : decode b_PS_isOfLine 4 = .ok (.ifCond .ne 47, 3) := by decide +kernel
theorem d_PS_isOfLine_7 : decode b_PS_isOfLine 7 = .ok (.iload_n 0, 1) := by decide +kernel
theorem d_PS_isOfLine_8 : decode b_PS_isOfLine 8 = .ok (.invokestatic 196, 3) := by decide +kernel
theorem d_PS_isOfLine_11 : decode b_PS_isOfLine 11 = .ok (.ifCond .ne 40, 3) := by decide +kernel
theorem d_PS_isOfLine_14 : decode b_PS_isOfLine 14 = .ok (.iload_n 0, 1) := by decide +kernel
theorem d_PS_isOfLine_15 : decode b_PS_isOfLine 15 = .ok (.invokestatic 199, 3) := by decide +kernel
theorem d_PS_isOfLine_18 : decode b_PS_isOfLine 18 = .ok (.ifCond .ne 33, 3) := by decide +kernel
theorem d_PS_isOfLine_21 : decode b_PS_isOfLine 21 = .ok (.iload_n 0, 1) := by decide +kernel
theorem d_PS_isOfLine_22 : decode b_PS_isOfLine 22 = .ok (.bipush 123, 2) := by decide +kernel
theorem d_PS_isOfLine_24 : decode b_PS_isOfLine 24 = .ok (.if_icmp .eq 27, 3) := by decide +kernel
theorem d_PS_isOfLine_27 : decode b_PS_isOfLine 27 = .ok (.iload_n 0, 1) := by decide +kernel
theorem d_PS_isOfLine_28 : decode b_PS_isOfLine 28 = .ok (.bipush 125, 2) := by decide +kernel
theorem d_PS_isOfLine_30 : decode b_PS_isOfLine 30 = .ok (.if_icmp .eq 21, 3) := by decide +kernel
theorem d_PS_isOfLine_33 : decode b_PS_isOfLine 33 = .ok (.iload_n 0, 1) := by decide +kernel
theorem d_PS_isOfLine_34 : decode b_PS_isOfLine 34 = .ok (.bipush 35, 2) := by decide +kernel
theorem d_PS_isOfLine_36 : decode b_PS_isOfLine 36 = .ok (.if_icmp .eq 15, 3) := by decide +kernel
theorem d_PS_isOfLine_39 : decode b_PS_isOfLine 39 = .ok (.iload_n 0, 1) := by decide +kernel
theorem d_PS_isOfLine_40 : decode b_PS_isOfLine 40 = .ok (.bipush 61, 2) := by decide +kernel
theorem d_PS_isOfLine_42 : decode b_PS_isOfLine 42 = .ok (.if_icmp .eq 9, 3) := by decide +kernel
theorem d_PS_isOfLine_45 : decode b_PS_isOfLine 45 = .ok (.iload_n 0, 1) := by decide +kernel
theorem d_PS_isOfLine_46 : decode b_PS_isOfLine 46 = .ok (.bipush 46, 2) := by decide +kernel
theorem d_PS_isOfLine_48 : decode b_PS_isOfLine 48 = .ok (.if_icmp .ne 7, 3) := by decide +kernel
theorem d_PS_isOfLine_51 : decode b_PS_isOfLine 51 = .ok (.iconst 1, 1) := by decide +kernel
theorem d_PS_isOfLine_52 : decode b_PS_isOfLine 52 = .ok (.goto 4, 3) := by decide +kernel
theorem d_PS_isOfLine_55 : decode b_PS_isOfLine 55 = .ok (.iconst 0, 1) := by decide +kernel
theorem d_PS_isOfLine_56 : decode b_PS_isOfLine 56 = .ok (.ireturn, 1) := by decide +kernel
theorem d_PS_isItem_0 : decode b_PS_isItem 0 = .ok (.iload_n 0, 1) := by decide +kernel
theorem d_PS_isItem_1 : decode b_PS_isItem 1 = .ok (.invokestatic 77, 3) := by decide +kernel
theorem d_PS_isItem_4 : decode b_PS_isItem 4 = .ok (.ifCond .ne 16, 3) := by decide +kernel
theorem d_PS_isItem_7 : decode b_PS_isItem 7 = .ok (.iload_n 0, 1) := by decide +kernel
theorem d_PS_isItem_8 : decode b_PS_isItem 8 = .ok (.invokestatic 202, 3) := by decide +kernel
theorem d_PS_isItem_11 : decode b_PS_isItem 11 = .ok (.ifCond .ne 9, 3) := by decide +kernel
theorem d_PS_isItem_14 : decode b_PS_isItem 14 = .ok (.iload_n 0, 1) := by decide +kernel
theorem d_PS_isItem_15 : decode b_PS_isItem 15 = .ok (.bipush 124, 2) := by decide +kernel
theorem d_PS_isItem_17 : decode b_PS_isItem 17 = .ok (.if_icmp .ne 7, 3) := by decide +kernel
theorem d_PS_isItem_20 : decode b_PS_isItem 20 = .ok (.iconst 1, 1) := by decide +kernel
theorem d_PS_isItem_21 : decode b_PS_isItem 21 = .ok (.goto 4, 3) := by decide +kernel
theorem d_PS_isItem_24 : decode b_PS_isItem 24 = .ok (.iconst 0, 1) := by decide +kernel
theorem d_PS_isItem_25 : decode b_PS_isItem 25 = .ok (.ireturn, 1) := by decide +kernel
theorem d_PS_hasWidth_0 : decode b_PS_hasWidth 0 = .ok (.iload_n 0, 1) := by decide +kernel
theorem d_PS_hasWidth_1 : decode b_PS_hasWidth 1 = .ok (.invokestatic 205, 3) := by decide +kernel
theorem d_PS_hasWidth_4 : decode b_PS_hasWidth 4 = .ok (.ifCond .ne 9, 3) := by decide +kernel
theorem d_PS_hasWidth_7 : decode b_PS_hasWidth 7 = .ok (.iload_n 0, 1) := by decide +kernel
theorem d_PS_hasWidth_8 : decode b_PS_hasWidth 8 = .ok (.bipush 45, 2) := by decide +kernel
theorem d_PS_hasWidth_10 : decode b_PS_hasWidth 10 = .ok (.if_icmp .ne 7, 3) := by decide +kernel
theorem d_PS_hasWidth_13 : decode b_PS_hasWidth 13 = .ok (.iconst 1, 1) := by decide +kernel
theorem d_PS_hasWidth_14 : decode b_PS_hasWidth 14 = .ok (.goto 4, 3) := by decide +kernel
theorem d_PS_hasWidth_17 : decode b_PS_hasWidth 17 = .ok (.iconst 0, 1) := by decide +kernel
theorem d_PS_hasWidth_18 : decode b_PS_hasWidth 18 = .ok (.ireturn, 1) := by decide +kernel
theorem d_PS_isLetter_0 : decode b_PS_isLetter 0 = .ok (.iload_n 0, 1) := by decide +kernel
theorem d_PS_isLetter_1 : decode b_PS_isLetter 1 = .ok (.bipush 97, 2) := by decide +kernel
theorem d_PS_isLetter_3 : decode b_PS_isLetter 3 = .ok (.if_icmp .lt 13, 3) := by decide +kernel
theorem d_PS_isLetter_6 : decode b_PS_isLetter 6 = .ok (.iload_n 0, 1) := by decide +kernel
theorem d_PS_isLetter_7 : decode b_PS_isLetter 7 = .ok (.bipush 122, 2) := by decide +kernel
theorem d_PS_isLetter_9 : decode b_PS_isLetter 9 = .ok (.if_icmp .gt 7, 3) := by decide +kernel
theorem d_PS_isLetter_12 : decode b_PS_isLetter 12 = .ok (.iconst 1, 1) := by decide +kernel
theorem d_PS_isLetter_13 : decode b_PS_isLetter 13 = .ok (.goto 4, 3) := by decide +kernel
theorem d_PS_isLetter_16 : decode b_PS_isLetter 16 = .ok (.iconst 0, 1) := by decide +kernel
theorem d_PS_isLetter_17 : decode b_PS_isLetter 17 = .ok (.ireturn, 1) := by decide +kernel
theorem d_PS_isSpace_0 : decode b_PS_isSpace 0 = .ok (.iload_n 0, 1) := by decide +kernel
theorem d_PS_isSpace_1 : decode b_PS_isSpace 1 = .ok (.bipush 32, 2) := by decide +kernel
theorem d_PS_isSpace_3 : decode b_PS_isSpace 3 = .ok (.if_icmp .eq 9, 3) := by decide +kernel
theorem d_PS_isSpace_6 : decode b_PS_isSpace 6 = .ok (.iload_n 0, 1) := by decide +kernel
theorem d_PS_isSpace_7 : decode b_PS_isSpace 7 = .ok (.bipush 126, 2) := by decide +kernel
theorem d_PS_isSpace_9 : decode b_PS_isSpace 9 = .ok (.if_icmp .ne 7, 3) := by decide +kernel
theorem d_PS_isSpace_12 : decode b_PS_isSpace 12 = .ok (.iconst 1, 1) := by decide +kernel
theorem d_PS_isSpace_13 : decode b_PS_isSpace 13 = .ok (.goto 4, 3) := by decide +kernel
theorem d_PS_isSpace_16 : decode b_PS_isSpace 16 = .ok (.iconst 0, 1) := by decide +kernel
theorem d_PS_isSpace_17 : decode b_PS_isSpace 17 = .ok (.ireturn, 1) := by decide +kernel
theorem d_PS_isMacroName_0 : decode b_PS_isMacroName 0 = .ok (.iload_n 0, 1) := by decide +kernel
theorem d_PS_isMacroName_1 : decode b_PS_isMacroName 1 = .ok (.bipush 65, 2) := by decide +kernel
theorem d_PS_isMacroName_3 : decode b_PS_isMacroName 3 = .ok (.if_icmp .lt 13, 3) := by decide +kernel
theorem d_PS_isMacroName_6 : decode b_PS_isMacroName 6 = .ok (.iload_n 0, 1) := by decide +kernel
theorem d_PS_isMacroName_7 : decode b_PS_isMacroName 7 = .ok (.bipush 69, 2) := by decide +kernel
theorem d_PS_isMacroName_9 : decode b_PS_isMacroName 9 = .ok (.if_icmp .ge 7, 3) := by decide +kernel
theorem d_PS_isMacroName_12 : decode b_PS_isMacroName 12 = .ok (.iconst 1, 1) := by decide +kernel
theorem d_PS_isMacroName_13 : decode b_PS_isMacroName 13 = .ok (.goto 4, 3) := by decide +kernel
theorem d_PS_isMacroName_16 : decode b_PS_isMacroName 16 = .ok (.iconst 0, 1) := by decide +kernel
theorem d_PS_isMacroName_17 : decode b_PS_isMacroName 17 = .ok (.ireturn, 1) := by decide +kernel
theorem d_PS_isDigit_0 : decode b_PS_isDigit 0 = .ok (.iload_n 0, 1) := by decide +kernel
theorem d_PS_isDigit_1 : decode b_PS_isDigit 1 = .ok (.bipush 48, 2) := by decide +kernel
theorem d_PS_isDigit_3 : decode b_PS_isDigit 3 = .ok (.if_icmp .lt 13, 3) := by decide +kernel
theorem d_PS_isDigit_6 : decode b_PS_isDigit 6 = .ok (.iload_n 0, 1) := by decide +kernel
theorem d_PS_isDigit_7 : decode b_PS_isDigit 7 = .ok (.bipush 57, 2) := by decide +kernel
theorem d_PS_isDigit_9 : decode b_PS_isDigit 9 = .ok (.if_icmp .gt 7, 3) := by decide +kernel
theorem d_PS_isDigit_12 : decode b_PS_isDigit 12 = .ok (.iconst 1, 1) := by decide +kernel
theorem d_PS_isDigit_13 : decode b_PS_isDigit 13 = .ok (.goto 4, 3) := by decide +kernel
theorem d_PS_isDigit_16 : decode b_PS_isDigit 16 = .ok (.iconst 0, 1) := by decide +kernel
theorem d_PS_isDigit_17 : decode b_PS_isDigit 17 = .ok (.ireturn, 1) := by decide +kernel
theorem d_PS_wipe_0 : decode b_PS_wipe 0 = .ok (.aload_n 0, 1) := by decide +kernel
theorem d_PS_wipe_1 : decode b_PS_wipe 1 = .ok (.getfield 14, 3) := by decide +kernel
theorem d_PS_wipe_4 : decode b_PS_wipe 4 = .ok (.invokevirtual 74, 3) := by decide +kernel
theorem d_PS_wipe_7 : decode b_PS_wipe 7 = .ok (.iconst 0, 1) := by decide +kernel
theorem d_PS_wipe_8 : decode b_PS_wipe 8 = .ok (.ireturn, 1) := by decide +kernel
theorem d_PS_width_0 : decode b_PS_width 0 = .ok (.iload_n 1, 1) := by decide +kernel
theorem d_PS_width_1 : decode b_PS_width 1 = .ok (.invokestatic 77, 3) := by decide +kernel
theorem d_PS_width_4 : decode b_PS_width 4 = .ok (.ifCond .eq 14, 3) := by decide +kernel
theorem d_PS_width_7 : decode b_PS_width 7 = .ok (.iload_n 2, 1) := by decide +kernel
theorem d_PS_width_8 : decode b_PS_width 8 = .ok (.iconst 1, 1) := by decide +kernel
theorem d_PS_width_9 : decode b_PS_width 9 = .ok (.if_icmp .lt 9, 3) := by decide +kernel
theorem d_PS_width_12 : decode b_PS_width 12 = .ok (.iload_n 2, 1) := by decide +kernel
theorem d_PS_width_13 : decode b_PS_width 13 = .ok (.bipush 20, 2) := by decide +kernel
theorem d_PS_width_15 : decode b_PS_width 15 = .ok (.if_icmp .le 5, 3) := by decide +kernel
theorem d_PS_width_18 : decode b_PS_width 18 = .ok (.iconst (-1), 1) := by decide +kernel
theorem d_PS_width_19 : decode b_PS_width 19 = .ok (.ireturn, 1) := by decide +kernel
theorem d_PS_width_20 : decode b_PS_width 20 = .ok (.aload_n 0, 1) := by decide +kernel
theorem d_PS_width_21 : decode b_PS_width 21 = .ok (.getfield 18, 3) := by decide +kernel
theorem d_PS_width_24 : decode b_PS_width 24 = .ok (.iload_n 1, 1) := by decide +kernel
theorem d_PS_width_25 : decode b_PS_width 25 = .ok (.invokestatic 80, 3) := by decide +kernel
theorem d_PS_width_28 : decode b_PS_width 28 = .ok (.iload_n 2, 1) := by decide +kernel
theorem d_PS_width_29 : decode b_PS_width 29 = .ok (.iastore, 1) := by decide +kernel
theorem d_PS_width_30 : decode b_PS_width 30 = .ok (.iconst 0, 1) := by decide +kernel
theorem d_PS_width_31 : decode b_PS_width 31 = .ok (.ireturn, 1) := by decide +kernel
theorem d_PS_widthIndex_0 : decode b_PS_widthIndex 0 = .ok (.iload_n 0, 1) := by decide +kernel
theorem d_PS_widthIndex_1 : decode b_PS_widthIndex 1 = .ok (.invokestatic 205, 3) := by decide +kernel
theorem d_PS_widthIndex_4 : decode b_PS_widthIndex 4 = .ok (.ifCond .eq 10, 3) := by decide +kernel
theorem d_PS_widthIndex_7 : decode b_PS_widthIndex 7 = .ok (.iload_n 0, 1) := by decide +kernel
theorem d_PS_widthIndex_8 : decode b_PS_widthIndex 8 = .ok (.bipush 97, 2) := by decide +kernel
theorem d_PS_widthIndex_10 : decode b_PS_widthIndex 10 = .ok (.isub, 1) := by decide +kernel
theorem d_PS_widthIndex_11 : decode b_PS_widthIndex 11 = .ok (.goto 5, 3) := by decide +kernel
theorem d_PS_widthIndex_14 : decode b_PS_widthIndex 14 = .ok (.bipush 26, 2) := by decide +kernel
theorem d_PS_widthIndex_16 : decode b_PS_widthIndex 16 = .ok (.ireturn, 1) := by decide +kernel
theorem d_PS_parameter_0 : decode b_PS_parameter 0 = .ok (.iload_n 1, 1) := by decide +kernel
theorem d_PS_parameter_1 : decode b_PS_parameter 1 = .ok (.ifCond .lt 30, 3) := by decide +kernel
theorem d_PS_parameter_4 : decode b_PS_parameter 4 = .ok (.iload_n 1, 1) := by decide +kernel
theorem d_PS_parameter_5 : decode b_PS_parameter 5 = .ok (.aload_n 0, 1) := by decide +kernel
theorem d_PS_parameter_6 : decode b_PS_parameter 6 = .ok (.getfield 25, 3) := by decide +kernel
theorem d_PS_parameter_9 : decode b_PS_parameter 9 = .ok (.arraylength, 1) := by decide +kernel
theorem d_PS_parameter_10 : decode b_PS_parameter 10 = .ok (.if_icmp .ge 21, 3) := by decide +kernel
theorem d_PS_parameter_13 : decode b_PS_parameter 13 = .ok (.iload_n 2, 1) := by decide +kernel
theorem d_PS_parameter_14 : decode b_PS_parameter 14 = .ok (.getstatic 84, 3) := by decide +kernel
theorem d_PS_parameter_17 : decode b_PS_parameter 17 = .ok (.iload_n 1, 1) := by decide +kernel
theorem d_PS_parameter_18 : decode b_PS_parameter 18 = .ok (.iaload, 1) := by decide +kernel
theorem d_PS_parameter_19 : decode b_PS_parameter 19 = .ok (.if_icmp .lt 12, 3) := by decide +kernel
theorem d_PS_parameter_22 : decode b_PS_parameter 22 = .ok (.iload_n 2, 1) := by decide +kernel
theorem d_PS_parameter_23 : decode b_PS_parameter 23 = .ok (.getstatic 87, 3) := by decide +kernel
theorem d_PS_parameter_26 : decode b_PS_parameter 26 = .ok (.iload_n 1, 1) := by decide +kernel
theorem d_PS_parameter_27 : decode b_PS_parameter 27 = .ok (.iaload, 1) := by decide +kernel
theorem d_PS_parameter_28 : decode b_PS_parameter 28 = .ok (.if_icmp .le 5, 3) := by decide +kernel
theorem d_PS_parameter_31 : decode b_PS_parameter 31 = .ok (.iconst (-1), 1) := by decide +kernel
theorem d_PS_parameter_32 : decode b_PS_parameter 32 = .ok (.ireturn, 1) := by decide +kernel
theorem d_PS_parameter_33 : decode b_PS_parameter 33 = .ok (.aload_n 0, 1) := by decide +kernel
theorem d_PS_parameter_34 : decode b_PS_parameter 34 = .ok (.getfield 25, 3) := by decide +kernel
theorem d_PS_parameter_37 : decode b_PS_parameter 37 = .ok (.iload_n 1, 1) := by decide +kernel
theorem d_PS_parameter_38 : decode b_PS_parameter 38 = .ok (.iload_n 2, 1) := by decide +kernel
theorem d_PS_parameter_39 : decode b_PS_parameter 39 = .ok (.iastore, 1) := by decide +kernel
theorem d_PS_parameter_40 : decode b_PS_parameter 40 = .ok (.iconst 0, 1) := by decide +kernel
theorem d_PS_parameter_41 : decode b_PS_parameter 41 = .ok (.ireturn, 1) := by decide +kernel
theorem d_PS_define_0 : decode b_PS_define 0 = .ok (.iload_n 1, 1) := by decide +kernel
theorem d_PS_define_1 : decode b_PS_define 1 = .ok (.ifCond .lt 8, 3) := by decide +kernel
theorem d_PS_define_4 : decode b_PS_define 4 = .ok (.iload_n 1, 1) := by decide +kernel
theorem d_PS_define_5 : decode b_PS_define 5 = .ok (.iconst 4, 1) := by decide +kernel
theorem d_PS_define_6 : decode b_PS_define 6 = .ok (.if_icmp .lt 5, 3) := by decide +kernel
theorem d_PS_define_9 : decode b_PS_define 9 = .ok (.iconst (-1), 1) := by decide +kernel
theorem d_PS_define_10 : decode b_PS_define 10 = .ok (.ireturn, 1) := by decide +kernel
theorem d_PS_define_11 : decode b_PS_define 11 = .ok (.aload_n 0, 1) := by decide +kernel
theorem d_PS_define_12 : decode b_PS_define 12 = .ok (.getfield 14, 3) := by decide +kernel
theorem d_PS_define_15 : decode b_PS_define 15 = .ok (.getfield 70, 3) := by decide +kernel
theorem d_PS_define_18 : decode b_PS_define 18 = .ok (.bipush 24, 2) := by decide +kernel
theorem d_PS_define_20 : decode b_PS_define 20 = .ok (.if_icmp .le 6, 3) := by decide +kernel
theorem d_PS_define_23 : decode b_PS_define 23 = .ok (.bipush (-2), 2) := by decide +kernel
theorem d_PS_define_25 : decode b_PS_define 25 = .ok (.ireturn, 1) := by decide +kernel
theorem d_PS_define_26 : decode b_PS_define 26 = .ok (.aload_n 0, 1) := by decide +kernel
theorem d_PS_define_27 : decode b_PS_define 27 = .ok (.getfield 31, 3) := by decide +kernel
theorem d_PS_define_30 : decode b_PS_define 30 = .ok (.getfield 90, 3) := by decide +kernel
theorem d_PS_define_33 : decode b_PS_define 33 = .ok (.iload_n 1, 1) := by decide +kernel
theorem d_PS_define_34 : decode b_PS_define 34 = .ok (.aaload, 1) := by decide +kernel
theorem d_PS_define_35 : decode b_PS_define 35 = .ok (.aload_n 0, 1) := by decide +kernel
theorem d_PS_define_36 : decode b_PS_define 36 = .ok (.getfield 14, 3) := by decide +kernel
theorem d_PS_define_39 : decode b_PS_define 39 = .ok (.invokevirtual 94, 3) := by decide +kernel
theorem d_PS_define_42 : decode b_PS_define 42 = .ok (.aload_n 0, 1) := by decide +kernel
theorem d_PS_define_43 : decode b_PS_define 43 = .ok (.getfield 14, 3) := by decide +kernel
theorem d_PS_define_46 : decode b_PS_define 46 = .ok (.invokevirtual 74, 3) := by decide +kernel
theorem d_PS_define_49 : decode b_PS_define 49 = .ok (.iconst 0, 1) := by decide +kernel
theorem d_PS_define_50 : decode b_PS_define 50 = .ok (.ireturn, 1) := by decide +kernel
theorem d_PS_pattern_0 : decode b_PS_pattern 0 = .ok (.aload_n 0, 1) := by decide +kernel
theorem d_PS_pattern_1 : decode b_PS_pattern 1 = .ok (.getfield 38, 3) := by decide +kernel
theorem d_PS_pattern_4 : decode b_PS_pattern 4 = .ok (.invokevirtual 100, 3) := by decide +kernel
theorem d_PS_pattern_7 : decode b_PS_pattern 7 = .ok (.ifCond .eq 6, 3) := by decide +kernel
theorem d_PS_pattern_10 : decode b_PS_pattern 10 = .ok (.bipush (-2), 2) := by decide +kernel
theorem d_PS_pattern_12 : decode b_PS_pattern 12 = .ok (.ireturn, 1) := by decide +kernel
theorem d_PS_pattern_13 : decode b_PS_pattern 13 = .ok (.aload_n 0, 1) := by decide +kernel
theorem d_PS_pattern_14 : decode b_PS_pattern 14 = .ok (.getfield 38, 3) := by decide +kernel
theorem d_PS_pattern_17 : decode b_PS_pattern 17 = .ok (.aload_n 0, 1) := by decide +kernel
theorem d_PS_pattern_18 : decode b_PS_pattern 18 = .ok (.getfield 14, 3) := by decide +kernel
theorem d_PS_pattern_21 : decode b_PS_pattern 21 = .ok (.invokevirtual 101, 3) := by decide +kernel
theorem d_PS_pattern_24 : decode b_PS_pattern 24 = .ok (.ifCond .ne 6, 3) := by decide +kernel
theorem d_PS_pattern_27 : decode b_PS_pattern 27 = .ok (.bipush (-3), 2) := by decide +kernel
theorem d_PS_pattern_29 : decode b_PS_pattern 29 = .ok (.ireturn, 1) := by decide +kernel
theorem d_PS_pattern_30 : decode b_PS_pattern 30 = .ok (.aload_n 0, 1) := by decide +kernel
theorem d_PS_pattern_31 : decode b_PS_pattern 31 = .ok (.getfield 14, 3) := by decide +kernel
theorem d_PS_pattern_34 : decode b_PS_pattern 34 = .ok (.invokevirtual 74, 3) := by decide +kernel
theorem d_PS_pattern_37 : decode b_PS_pattern 37 = .ok (.aload_n 0, 1) := by decide +kernel
theorem d_PS_pattern_38 : decode b_PS_pattern 38 = .ok (.getfield 38, 3) := by decide +kernel
theorem d_PS_pattern_41 : decode b_PS_pattern 41 = .ok (.getfield 105, 3) := by decide +kernel
theorem d_PS_pattern_44 : decode b_PS_pattern 44 = .ok (.ireturn, 1) := by decide +kernel
theorem d_PS_paragraph_0 : decode b_PS_paragraph 0 = .ok (.aload_n 0, 1) := by decide +kernel
theorem d_PS_paragraph_1 : decode b_PS_paragraph 1 = .ok (.getfield 31, 3) := by decide +kernel
theorem d_PS_paragraph_4 : decode b_PS_paragraph 4 = .ok (.aload_n 0, 1) := by decide +kernel
theorem d_PS_paragraph_5 : decode b_PS_paragraph 5 = .ok (.getfield 14, 3) := by decide +kernel
theorem d_PS_paragraph_8 : decode b_PS_paragraph 8 = .ok (.aload_n 0, 1) := by decide +kernel
theorem d_PS_paragraph_9 : decode b_PS_paragraph 9 = .ok (.getfield 56, 3) := by decide +kernel
theorem d_PS_paragraph_12 : decode b_PS_paragraph 12 = .ok (.getfield 106, 3) := by decide +kernel
theorem d_PS_paragraph_15 : decode b_PS_paragraph 15 = .ok (.invokevirtual 110, 3) := by decide +kernel
theorem d_PS_paragraph_18 : decode b_PS_paragraph 18 = .ok (.istore_n 1, 1) := by decide +kernel
theorem d_PS_paragraph_19 : decode b_PS_paragraph 19 = .ok (.aload_n 0, 1) := by decide +kernel
theorem d_PS_paragraph_20 : decode b_PS_paragraph 20 = .ok (.getfield 14, 3) := by decide +kernel
theorem d_PS_paragraph_23 : decode b_PS_paragraph 23 = .ok (.invokevirtual 74, 3) := by decide +kernel
theorem d_PS_paragraph_26 : decode b_PS_paragraph 26 = .ok (.iload_n 1, 1) := by decide +kernel
theorem d_PS_paragraph_27 : decode b_PS_paragraph 27 = .ok (.ifCond .eq 5, 3) := by decide +kernel
theorem d_PS_paragraph_30 : decode b_PS_paragraph 30 = .ok (.iload_n 1, 1) := by decide +kernel
theorem d_PS_paragraph_31 : decode b_PS_paragraph 31 = .ok (.ireturn, 1) := by decide +kernel
theorem d_PS_paragraph_32 : decode b_PS_paragraph 32 = .ok (.aload_n 0, 1) := by decide +kernel
theorem d_PS_paragraph_33 : decode b_PS_paragraph 33 = .ok (.getfield 56, 3) := by decide +kernel
theorem d_PS_paragraph_36 : decode b_PS_paragraph 36 = .ok (.aload_n 0, 1) := by decide +kernel
theorem d_PS_paragraph_37 : decode b_PS_paragraph 37 = .ok (.getfield 31, 3) := by decide +kernel
theorem d_PS_paragraph_40 : decode b_PS_paragraph 40 = .ok (.getfield 114, 3) := by decide +kernel
theorem d_PS_paragraph_43 : decode b_PS_paragraph 43 = .ok (.putfield 117, 3) := by decide +kernel
theorem d_PS_paragraph_46 : decode b_PS_paragraph 46 = .ok (.aload_n 0, 1) := by decide +kernel
theorem d_PS_paragraph_47 : decode b_PS_paragraph 47 = .ok (.getfield 56, 3) := by decide +kernel
theorem d_PS_paragraph_50 : decode b_PS_paragraph 50 = .ok (.getfield 106, 3) := by decide +kernel
theorem d_PS_paragraph_53 : decode b_PS_paragraph 53 = .ok (.invokevirtual 118, 3) := by decide +kernel
theorem d_PS_paragraph_56 : decode b_PS_paragraph 56 = .ok (.aload_n 0, 1) := by decide +kernel
theorem d_PS_paragraph_57 : decode b_PS_paragraph 57 = .ok (.getfield 38, 3) := by decide +kernel
theorem d_PS_paragraph_60 : decode b_PS_paragraph 60 = .ok (.aload_n 0, 1) := by decide +kernel
theorem d_PS_paragraph_61 : decode b_PS_paragraph 61 = .ok (.getfield 56, 3) := by decide +kernel
theorem d_PS_paragraph_64 : decode b_PS_paragraph 64 = .ok (.getfield 106, 3) := by decide +kernel
theorem d_PS_paragraph_67 : decode b_PS_paragraph 67 = .ok (.invokevirtual 123, 3) := by decide +kernel
theorem d_PS_paragraph_70 : decode b_PS_paragraph 70 = .ok (.aload_n 0, 1) := by decide +kernel
theorem d_PS_paragraph_71 : decode b_PS_paragraph 71 = .ok (.getfield 56, 3) := by decide +kernel
theorem d_PS_paragraph_74 : decode b_PS_paragraph 74 = .ok (.getfield 127, 3) := by decide +kernel
theorem d_PS_paragraph_77 : decode b_PS_paragraph 77 = .ok (.aload_n 0, 1) := by decide +kernel
theorem d_PS_paragraph_78 : decode b_PS_paragraph 78 = .ok (.getfield 56, 3) := by decide +kernel
theorem d_PS_paragraph_81 : decode b_PS_paragraph 81 = .ok (.getfield 106, 3) := by decide +kernel
theorem d_PS_paragraph_84 : decode b_PS_paragraph 84 = .ok (.aload_n 0, 1) := by decide +kernel
theorem d_PS_paragraph_85 : decode b_PS_paragraph 85 = .ok (.getfield 38, 3) := by decide +kernel
theorem d_PS_paragraph_88 : decode b_PS_paragraph 88 = .ok (.invokevirtual 131, 3) := by decide +kernel
theorem d_PS_paragraph_91 : decode b_PS_paragraph 91 = .ok (.ifCond .ne 6, 3) := by decide +kernel
theorem d_PS_paragraph_94 : decode b_PS_paragraph 94 = .ok (.bipush (-4), 2) := by decide +kernel
theorem d_PS_paragraph_96 : decode b_PS_paragraph 96 = .ok (.ireturn, 1) := by decide +kernel
theorem d_PS_paragraph_97 : decode b_PS_paragraph 97 = .ok (.aload_n 0, 1) := by decide +kernel
theorem d_PS_paragraph_98 : decode b_PS_paragraph 98 = .ok (.getfield 56, 3) := by decide +kernel
theorem d_PS_paragraph_101 : decode b_PS_paragraph 101 = .ok (.aload_n 0, 1) := by decide +kernel
theorem d_PS_paragraph_102 : decode b_PS_paragraph 102 = .ok (.getfield 18, 3) := by decide +kernel
theorem d_PS_paragraph_105 : decode b_PS_paragraph 105 = .ok (.aload_n 0, 1) := by decide +kernel
theorem d_PS_paragraph_106 : decode b_PS_paragraph 106 = .ok (.getfield 25, 3) := by decide +kernel
theorem d_PS_paragraph_109 : decode b_PS_paragraph 109 = .ok (.invokevirtual 137, 3) := by decide +kernel
theorem d_PS_paragraph_112 : decode b_PS_paragraph 112 = .ok (.aload_n 0, 1) := by decide +kernel
theorem d_PS_paragraph_113 : decode b_PS_paragraph 113 = .ok (.getfield 45, 3) := by decide +kernel
theorem d_PS_paragraph_116 : decode b_PS_paragraph 116 = .ok (.aload_n 0, 1) := by decide +kernel
theorem d_PS_paragraph_117 : decode b_PS_paragraph 117 = .ok (.getfield 56, 3) := by decide +kernel
theorem d_PS_paragraph_120 : decode b_PS_paragraph 120 = .ok (.invokevirtual 141, 3) := by decide +kernel
theorem d_PS_paragraph_123 : decode b_PS_paragraph 123 = .ok (.ifCond .ne 6, 3) := by decide +kernel
theorem d_PS_paragraph_126 : decode b_PS_paragraph 126 = .ok (.bipush (-5), 2) := by decide +kernel
theorem d_PS_paragraph_128 : decode b_PS_paragraph 128 = .ok (.ireturn, 1) := by decide +kernel
theorem d_PS_paragraph_129 : decode b_PS_paragraph 129 = .ok (.aload_n 0, 1) := by decide +kernel
theorem d_PS_paragraph_130 : decode b_PS_paragraph 130 = .ok (.invokevirtual 145, 3) := by decide +kernel
theorem d_PS_paragraph_133 : decode b_PS_paragraph 133 = .ok (.aload_n 0, 1) := by decide +kernel
theorem d_PS_paragraph_134 : decode b_PS_paragraph 134 = .ok (.getfield 52, 3) := by decide +kernel
theorem d_PS_paragraph_137 : decode b_PS_paragraph 137 = .ok (.getfield 148, 3) := by decide +kernel
theorem d_PS_paragraph_140 : decode b_PS_paragraph 140 = .ok (.ireturn, 1) := by decide +kernel
theorem d_Stg_measure_0 : decode b_Stg_measure 0 = .ok (.aload_n 0, 1) := by decide +kernel
theorem d_Stg_measure_1 : decode b_Stg_measure 1 = .ok (.getfield 28, 3) := by decide +kernel
theorem d_Stg_measure_4 : decode b_Stg_measure 4 = .ok (.aload_n 0, 1) := by decide +kernel
theorem d_Stg_measure_5 : decode b_Stg_measure 5 = .ok (.getfield 12, 3) := by decide +kernel
theorem d_Stg_measure_8 : decode b_Stg_measure 8 = .ok (.aload_n 1, 1) := by decide +kernel
theorem d_Stg_measure_9 : decode b_Stg_measure 9 = .ok (.invokevirtual 56, 3) := by decide +kernel
theorem d_Stg_measure_12 : decode b_Stg_measure 12 = .ok (.aload_n 0, 1) := by decide +kernel
theorem d_Stg_measure_13 : decode b_Stg_measure 13 = .ok (.aload_n 1, 1) := by decide +kernel
theorem d_Stg_measure_14 : decode b_Stg_measure 14 = .ok (.bipush 45, 2) := by decide +kernel
theorem d_Stg_measure_16 : decode b_Stg_measure 16 = .ok (.invokestatic 60, 3) := by decide +kernel
theorem d_Stg_measure_19 : decode b_Stg_measure 19 = .ok (.iaload, 1) := by decide +kernel
theorem d_Stg_measure_20 : decode b_Stg_measure 20 = .ok (.putfield 39, 3) := by decide +kernel
theorem d_Stg_measure_23 : decode b_Stg_measure 23 = .ok (.iconst 0, 1) := by decide +kernel
theorem d_Stg_measure_24 : decode b_Stg_measure 24 = .ok (.istore_n 3, 1) := by decide +kernel
theorem d_Stg_measure_25 : decode b_Stg_measure 25 = .ok (.iload_n 3, 1) := by decide +kernel
theorem d_Stg_measure_26 : decode b_Stg_measure 26 = .ok (.aload_n 0, 1) := by decide +kernel
theorem d_Stg_measure_27 : decode b_Stg_measure 27 = .ok (.getfield 36, 3) := by decide +kernel
theorem d_Stg_measure_30 : decode b_Stg_measure 30 = .ok (.arraylength, 1) := by decide +kernel
theorem d_Stg_measure_31 : decode b_Stg_measure 31 = .ok (.if_icmp .ge 18, 3) := by decide +kernel
theorem d_Stg_measure_34 : decode b_Stg_measure 34 = .ok (.aload_n 0, 1) := by decide +kernel
theorem d_Stg_measure_35 : decode b_Stg_measure 35 = .ok (.getfield 36, 3) := by decide +kernel
theorem d_Stg_measure_38 : decode b_Stg_measure 38 = .ok (.iload_n 3, 1) := by decide +kernel
theorem d_Stg_measure_39 : decode b_Stg_measure 39 = .ok (.aload_n 2, 1) := by decide +kernel
theorem d_Stg_measure_40 : decode b_Stg_measure 40 = .ok (.iload_n 3, 1) := by decide +kernel
theorem d_Stg_measure_41 : decode b_Stg_measure 41 = .ok (.iaload, 1) := by decide +kernel
theorem d_Stg_measure_42 : decode b_Stg_measure 42 = .ok (.iastore, 1) := by decide +kernel
theorem d_Stg_measure_43 : decode b_Stg_measure 43 = .ok (.iinc 3 1, 3) := by decide +kernel
theorem d_Stg_measure_46 : decode b_Stg_measure 46 = .ok (.goto (-21), 3) := by decide +kernel
theorem d_Stg_measure_49 : decode b_Stg_measure 49 = .ok (.return_, 1) := by decide +kernel
theorem d_Cho_choose_0 : decode b_Cho_choose 0 = .ok (.aload_n 1, 1) := by decide +kernel
theorem d_Cho_choose_1 : decode b_Cho_choose 1 = .ok (.getfield 22, 3) := by decide +kernel
theorem d_Cho_choose_4 : decode b_Cho_choose 4 = .ok (.getfield 28, 3) := by decide +kernel
theorem d_Cho_choose_7 : decode b_Cho_choose 7 = .ok (.istore_n 2, 1) := by decide +kernel
theorem d_Cho_choose_8 : decode b_Cho_choose 8 = .ok (.aload_n 0, 1) := by decide +kernel
theorem d_Cho_choose_9 : decode b_Cho_choose 9 = .ok (.getfield 9, 3) := by decide +kernel
theorem d_Cho_choose_12 : decode b_Cho_choose 12 = .ok (.iload_n 2, 1) := by decide +kernel
theorem d_Cho_choose_13 : decode b_Cho_choose 13 = .ok (.lconst 0, 1) := by decide +kernel
theorem d_Cho_choose_14 : decode b_Cho_choose 14 = .ok (.lastore, 1) := by decide +kernel
theorem d_Cho_choose_15 : decode b_Cho_choose 15 = .ok (.aload_n 0, 1) := by decide +kernel
theorem d_Cho_choose_16 : decode b_Cho_choose 16 = .ok (.getfield 15, 3) := by decide +kernel
theorem d_Cho_choose_19 : decode b_Cho_choose 19 = .ok (.iload_n 2, 1) := by decide +kernel
theorem d_Cho_choose_20 : decode b_Cho_choose 20 = .ok (.iconst 0, 1) := by decide +kernel
theorem d_Cho_choose_21 : decode b_Cho_choose 21 = .ok (.iastore, 1) := by decide +kernel
theorem d_Cho_choose_22 : decode b_Cho_choose 22 = .ok (.iload_n 2, 1) := by decide +kernel
theorem d_Cho_choose_23 : decode b_Cho_choose 23 = .ok (.iconst 1, 1) := by decide +kernel
theorem d_Cho_choose_24 : decode b_Cho_choose 24 = .ok (.isub, 1) := by decide +kernel
theorem d_Cho_choose_25 : decode b_Cho_choose 25 = .ok (.istore_n 3, 1) := by decide +kernel
theorem d_Cho_choose_26 : decode b_Cho_choose 26 = .ok (.iload_n 3, 1) := by decide +kernel
theorem d_Cho_choose_27 : decode b_Cho_choose 27 = .ok (.ifCond .lt 15, 3) := by decide +kernel
theorem d_Cho_choose_30 : decode b_Cho_choose 30 = .ok (.aload_n 0, 1) := by decide +kernel
theorem d_Cho_choose_31 : decode b_Cho_choose 31 = .ok (.aload_n 1, 1) := by decide +kernel
theorem d_Cho_choose_32 : decode b_Cho_choose 32 = .ok (.iload_n 3, 1) := by decide +kernel
theorem d_Cho_choose_33 : decode b_Cho_choose 33 = .ok (.invokevirtual 34, 3) := by decide +kernel
theorem d_Cho_choose_36 : decode b_Cho_choose 36 = .ok (.iinc 3 (-1), 3) := by decide +kernel
theorem d_Cho_choose_39 : decode b_Cho_choose 39 = .ok (.goto (-13), 3) := by decide +kernel
theorem d_Cho_choose_42 : decode b_Cho_choose 42 = .ok (.iload_n 2, 1) := by decide +kernel
theorem d_Cho_choose_43 : decode b_Cho_choose 43 = .ok (.ifCond .le 14, 3) := by decide +kernel
theorem d_Cho_choose_46 : decode b_Cho_choose 46 = .ok (.aload_n 0, 1) := by decide +kernel
theorem d_Cho_choose_47 : decode b_Cho_choose 47 = .ok (.getfield 19, 3) := by decide +kernel
theorem d_Cho_choose_50 : decode b_Cho_choose 50 = .ok (.iconst 0, 1) := by decide +kernel
theorem d_Cho_choose_51 : decode b_Cho_choose 51 = .ok (.iaload, 1) := by decide +kernel
theorem d_Cho_choose_52 : decode b_Cho_choose 52 = .ok (.ifCond .ne 5, 3) := by decide +kernel
theorem d_Cho_choose_55 : decode b_Cho_choose 55 = .ok (.iconst 0, 1) := by decide +kernel
theorem d_Cho_choose_56 : decode b_Cho_choose 56 = .ok (.ireturn, 1) := by decide +kernel
theorem d_Cho_choose_57 : decode b_Cho_choose 57 = .ok (.aload_n 0, 1) := by decide +kernel
theorem d_Cho_choose_58 : decode b_Cho_choose 58 = .ok (.aload_n 1, 1) := by decide +kernel
theorem d_Cho_choose_59 : decode b_Cho_choose 59 = .ok (.invokevirtual 38, 3) := by decide +kernel
theorem d_Cho_choose_62 : decode b_Cho_choose 62 = .ok (.iconst 1, 1) := by decide +kernel
theorem d_Cho_choose_63 : decode b_Cho_choose 63 = .ok (.ireturn, 1) := by decide +kernel
theorem d_Cho_findNext_0 : decode b_Cho_findNext 0 = .ok (.aload_n 1, 1) := by decide +kernel
theorem d_Cho_findNext_1 : decode b_Cho_findNext 1 = .ok (.getfield 22, 3) := by decide +kernel
theorem d_Cho_findNext_4 : decode b_Cho_findNext 4 = .ok (.getfield 28, 3) := by decide +kernel
theorem d_Cho_findNext_7 : decode b_Cho_findNext 7 = .ok (.istore_n 3, 1) := by decide +kernel
theorem d_Cho_findNext_8 : decode b_Cho_findNext 8 = .ok (.aload_n 0, 1) := by decide +kernel
theorem d_Cho_findNext_9 : decode b_Cho_findNext 9 = .ok (.getfield 19, 3) := by decide +kernel
theorem d_Cho_findNext_12 : decode b_Cho_findNext 12 = .ok (.iload_n 2, 1) := by decide +kernel
theorem d_Cho_findNext_13 : decode b_Cho_findNext 13 = .ok (.iconst 0, 1) := by decide +kernel
theorem d_Cho_findNext_14 : decode b_Cho_findNext 14 = .ok (.iastore, 1) := by decide +kernel
theorem d_Cho_findNext_15 : decode b_Cho_findNext 15 = .ok (.iconst 1, 1) := by decide +kernel
theorem d_Cho_findNext_16 : decode b_Cho_findNext 16 = .ok (.istore 4, 2) := by decide +kernel
theorem d_Cho_findNext_18 : decode b_Cho_findNext 18 = .ok (.iload_n 2, 1) := by decide +kernel
theorem d_Cho_findNext_19 : decode b_Cho_findNext 19 = .ok (.iconst 1, 1) := by decide +kernel
theorem d_Cho_findNext_20 : decode b_Cho_findNext 20 = .ok (.iadd, 1) := by decide +kernel
theorem d_Cho_findNext_21 : decode b_Cho_findNext 21 = .ok (.istore 5, 2) := by decide +kernel
theorem d_Cho_findNext_23 : decode b_Cho_findNext 23 = .ok (.iload 5, 2) := by decide +kernel
theorem d_Cho_findNext_25 : decode b_Cho_findNext 25 = .ok (.iload_n 3, 1) := by decide +kernel
theorem d_Cho_findNext_26 : decode b_Cho_findNext 26 = .ok (.if_icmp .gt 97, 3) := by decide +kernel
theorem d_Cho_findNext_29 : decode b_Cho_findNext 29 = .ok (.iload 4, 2) := by decide +kernel
theorem d_Cho_findNext_31 : decode b_Cho_findNext 31 = .ok (.ifCond .eq 92, 3) := by decide +kernel
theorem d_Cho_findNext_34 : decode b_Cho_findNext 34 = .ok (.aload_n 1, 1) := by decide +kernel
theorem d_Cho_findNext_35 : decode b_Cho_findNext 35 = .ok (.iload_n 2, 1) := by decide +kernel
theorem d_Cho_findNext_36 : decode b_Cho_findNext 36 = .ok (.iload 5, 2) := by decide +kernel
theorem d_Cho_findNext_38 : decode b_Cho_findNext 38 = .ok (.invokevirtual 42, 3) := by decide +kernel
theorem d_Cho_findNext_41 : decode b_Cho_findNext 41 = .ok (.lstore 6, 2) := by decide +kernel
theorem d_Cho_findNext_43 : decode b_Cho_findNext 43 = .ok (.iload 5, 2) := by decide +kernel
theorem d_Cho_findNext_45 : decode b_Cho_findNext 45 = .ok (.iload_n 3, 1) := by decide +kernel
theorem d_Cho_findNext_46 : decode b_Cho_findNext 46 = .ok (.if_icmp .eq 13, 3) := by decide +kernel
theorem d_Cho_findNext_49 : decode b_Cho_findNext 49 = .ok (.aload_n 0, 1) := by decide +kernel
theorem d_Cho_findNext_50 : decode b_Cho_findNext 50 = .ok (.getfield 19, 3) := by decide +kernel
theorem d_Cho_findNext_53 : decode b_Cho_findNext 53 = .ok (.iload 5, 2) := by decide +kernel
theorem d_Cho_findNext_55 : decode b_Cho_findNext 55 = .ok (.iaload, 1) := by decide +kernel
theorem d_Cho_findNext_56 : decode b_Cho_findNext 56 = .ok (.ifCond .eq 7, 3) := by decide +kernel
theorem d_Cho_findNext_59 : decode b_Cho_findNext 59 = .ok (.iconst 1, 1) := by decide +kernel
theorem d_Cho_findNext_60 : decode b_Cho_findNext 60 = .ok (.goto 4, 3) := by decide +kernel
theorem d_Cho_findNext_63 : decode b_Cho_findNext 63 = .ok (.iconst 0, 1) := by decide +kernel
theorem d_Cho_findNext_64 : decode b_Cho_findNext 64 = .ok (.istore 8, 2) := by decide +kernel
theorem d_Cho_findNext_66 : decode b_Cho_findNext 66 = .ok (.iload 8, 2) := by decide +kernel
theorem d_Cho_findNext_68 : decode b_Cho_findNext 68 = .ok (.ifCond .eq 28, 3) := by decide +kernel
theorem d_Cho_findNext_71 : decode b_Cho_findNext 71 = .ok (.lload 6, 2) := by decide +kernel
theorem d_Cho_findNext_73 : decode b_Cho_findNext 73 = .ok (.ldc2_w 46, 3) := by decide +kernel
theorem d_Cho_findNext_76 : decode b_Cho_findNext 76 = .ok (.lcmp, 1) := by decide +kernel
theorem d_Cho_findNext_77 : decode b_Cho_findNext 77 = .ok (.ifCond .eq 19, 3) := by decide +kernel
theorem d_Cho_findNext_80 : decode b_Cho_findNext 80 = .ok (.aload_n 0, 1) := by decide +kernel
theorem d_Cho_findNext_81 : decode b_Cho_findNext 81 = .ok (.iload_n 2, 1) := by decide +kernel
theorem d_Cho_findNext_82 : decode b_Cho_findNext 82 = .ok (.iload 5, 2) := by decide +kernel
theorem d_Cho_findNext_84 : decode b_Cho_findNext 84 = .ok (.aload_n 1, 1) := by decide +kernel
theorem d_Cho_findNext_85 : decode b_Cho_findNext 85 = .ok (.iload_n 2, 1) := by decide +kernel
theorem d_Cho_findNext_86 : decode b_Cho_findNext 86 = .ok (.iload 5, 2) := by decide +kernel
theorem d_Cho_findNext_88 : decode b_Cho_findNext 88 = .ok (.lload 6, 2) := by decide +kernel
theorem d_Cho_findNext_90 : decode b_Cho_findNext 90 = .ok (.invokevirtual 48, 3) := by decide +kernel
theorem d_Cho_findNext_93 : decode b_Cho_findNext 93 = .ok (.invokevirtual 52, 3) := by decide +kernel
theorem d_Cho_findNext_96 : decode b_Cho_findNext 96 = .ok (.aload_n 1, 1) := by decide +kernel
theorem d_Cho_findNext_97 : decode b_Cho_findNext 97 = .ok (.getfield 22, 3) := by decide +kernel
theorem d_Cho_findNext_100 : decode b_Cho_findNext 100 = .ok (.getfield 56, 3) := by decide +kernel
theorem d_Cho_findNext_103 : decode b_Cho_findNext 103 = .ok (.iload 5, 2) := by decide +kernel
theorem d_Cho_findNext_105 : decode b_Cho_findNext 105 = .ok (.iaload, 1) := by decide +kernel
theorem d_Cho_findNext_106 : decode b_Cho_findNext 106 = .ok (.iconst 3, 1) := by decide +kernel
theorem d_Cho_findNext_107 : decode b_Cho_findNext 107 = .ok (.if_icmp .eq 7, 3) := by decide +kernel
theorem d_Cho_findNext_110 : decode b_Cho_findNext 110 = .ok (.iconst 1, 1) := by decide +kernel
theorem d_Cho_findNext_111 : decode b_Cho_findNext 111 = .ok (.goto 4, 3) := by decide +kernel
theorem d_Cho_findNext_114 : decode b_Cho_findNext 114 = .ok (.iconst 0, 1) := by decide +kernel
theorem d_Cho_findNext_115 : decode b_Cho_findNext 115 = .ok (.istore 4, 2) := by decide +kernel
theorem d_Cho_findNext_117 : decode b_Cho_findNext 117 = .ok (.iinc 5 1, 3) := by decide +kernel
theorem d_Cho_findNext_120 : decode b_Cho_findNext 120 = .ok (.goto (-97), 3) := by decide +kernel
theorem d_Cho_findNext_123 : decode b_Cho_findNext 123 = .ok (.return_, 1) := by decide +kernel
theorem d_Stg_badness_0 : decode b_Stg_badness 0 = .ok (.aload_n 0, 1) := by decide +kernel
theorem d_Stg_badness_1 : decode b_Stg_badness 1 = .ok (.iload_n 1, 1) := by decide +kernel
theorem d_Stg_badness_2 : decode b_Stg_badness 2 = .ok (.iload_n 2, 1) := by decide +kernel
theorem d_Stg_badness_3 : decode b_Stg_badness 3 = .ok (.invokevirtual 81, 3) := by decide +kernel
theorem d_Stg_badness_6 : decode b_Stg_badness 6 = .ok (.aload_n 0, 1) := by decide +kernel
theorem d_Stg_badness_7 : decode b_Stg_badness 7 = .ok (.aload_n 0, 1) := by decide +kernel
theorem d_Stg_badness_8 : decode b_Stg_badness 8 = .ok (.getfield 28, 3) := by decide +kernel
theorem d_Stg_badness_11 : decode b_Stg_badness 11 = .ok (.getfield 83, 3) := by decide +kernel
theorem d_Stg_badness_14 : decode b_Stg_badness 14 = .ok (.iload_n 1, 1) := by decide +kernel
theorem d_Stg_badness_15 : decode b_Stg_badness 15 = .ok (.iload_n 2, 1) := by decide +kernel
theorem d_Stg_badness_16 : decode b_Stg_badness 16 = .ok (.invokevirtual 67, 3) := by decide +kernel
theorem d_Stg_badness_19 : decode b_Stg_badness 19 = .ok (.iadd, 1) := by decide +kernel
theorem d_Stg_badness_20 : decode b_Stg_badness 20 = .ok (.ifCond .ne 7, 3) := by decide +kernel
theorem d_Stg_badness_23 : decode b_Stg_badness 23 = .ok (.ldc2_w 86, 3) := by decide +kernel
theorem d_Stg_badness_26 : decode b_Stg_badness 26 = .ok (.lreturn, 1) := by decide +kernel
theorem d_Stg_badness_27 : decode b_Stg_badness 27 = .ok (.aload_n 0, 1) := by decide +kernel
theorem d_Stg_badness_28 : decode b_Stg_badness 28 = .ok (.iload_n 1, 1) := by decide +kernel
theorem d_Stg_badness_29 : decode b_Stg_badness 29 = .ok (.iload_n 2, 1) := by decide +kernel
theorem d_Stg_badness_30 : decode b_Stg_badness 30 = .ok (.invokevirtual 88, 3) := by decide +kernel
theorem d_Stg_badness_33 : decode b_Stg_badness 33 = .ok (.istore_n 3, 1) := by decide +kernel
theorem d_Stg_badness_34 : decode b_Stg_badness 34 = .ok (.iload_n 3, 1) := by decide +kernel
theorem d_Stg_badness_35 : decode b_Stg_badness 35 = .ok (.ifCond .eq 12, 3) := by decide +kernel
theorem d_Stg_badness_38 : decode b_Stg_badness 38 = .ok (.aload_n 0, 1) := by decide +kernel
theorem d_Stg_badness_39 : decode b_Stg_badness 39 = .ok (.iload_n 3, 1) := by decide +kernel
theorem d_Stg_badness_40 : decode b_Stg_badness 40 = .ok (.iload_n 2, 1) := by decide +kernel
theorem d_Stg_badness_41 : decode b_Stg_badness 41 = .ok (.invokevirtual 91, 3) := by decide +kernel
theorem d_Stg_badness_44 : decode b_Stg_badness 44 = .ok (.ifCond .eq 5, 3) := by decide +kernel
theorem d_Stg_badness_47 : decode b_Stg_badness 47 = .ok (.lconst 0, 1) := by decide +kernel
theorem d_Stg_badness_48 : decode b_Stg_badness 48 = .ok (.lreturn, 1) := by decide +kernel
theorem d_Stg_badness_49 : decode b_Stg_badness 49 = .ok (.aload_n 0, 1) := by decide +kernel
theorem d_Stg_badness_50 : decode b_Stg_badness 50 = .ok (.iload_n 3, 1) := by decide +kernel
theorem d_Stg_badness_51 : decode b_Stg_badness 51 = .ok (.ifCond .le 13, 3) := by decide +kernel
theorem d_Stg_badness_54 : decode b_Stg_badness 54 = .ok (.aload_n 0, 1) := by decide +kernel
theorem d_Stg_badness_55 : decode b_Stg_badness 55 = .ok (.getfield 28, 3) := by decide +kernel
theorem d_Stg_badness_58 : decode b_Stg_badness 58 = .ok (.getfield 95, 3) := by decide +kernel
theorem d_Stg_badness_61 : decode b_Stg_badness 61 = .ok (.goto 10, 3) := by decide +kernel
theorem d_Stg_badness_64 : decode b_Stg_badness 64 = .ok (.aload_n 0, 1) := by decide +kernel
theorem d_Stg_badness_65 : decode b_Stg_badness 65 = .ok (.getfield 28, 3) := by decide +kernel
theorem d_Stg_badness_68 : decode b_Stg_badness 68 = .ok (.getfield 98, 3) := by decide +kernel
theorem d_Stg_badness_71 : decode b_Stg_badness 71 = .ok (.iload_n 1, 1) := by decide +kernel
theorem d_Stg_badness_72 : decode b_Stg_badness 72 = .ok (.iload_n 2, 1) := by decide +kernel
theorem d_Stg_badness_73 : decode b_Stg_badness 73 = .ok (.invokevirtual 67, 3) := by decide +kernel
theorem d_Stg_badness_76 : decode b_Stg_badness 76 = .ok (.istore 4, 2) := by decide +kernel
theorem d_Stg_badness_78 : decode b_Stg_badness 78 = .ok (.iload 4, 2) := by decide +kernel
theorem d_Stg_badness_80 : decode b_Stg_badness 80 = .ok (.ifCond .eq 10, 3) := by decide +kernel
theorem d_Stg_badness_83 : decode b_Stg_badness 83 = .ok (.iload_n 3, 1) := by decide +kernel
theorem d_Stg_badness_84 : decode b_Stg_badness 84 = .ok (.ineg, 1) := by decide +kernel
theorem d_Stg_badness_85 : decode b_Stg_badness 85 = .ok (.iload 4, 2) := by decide +kernel
theorem d_Stg_badness_87 : decode b_Stg_badness 87 = .ok (.if_icmp .le 7, 3) := by decide +kernel
theorem d_Stg_badness_90 : decode b_Stg_badness 90 = .ok (.ldc2_w 86, 3) := by decide +kernel
theorem d_Stg_badness_93 : decode b_Stg_badness 93 = .ok (.lreturn, 1) := by decide +kernel
theorem d_Stg_badness_94 : decode b_Stg_badness 94 = .ok (.ldc2_w 101, 3) := by decide +kernel
theorem d_Stg_badness_97 : decode b_Stg_badness 97 = .ok (.iload_n 3, 1) := by decide +kernel
theorem d_Stg_badness_98 : decode b_Stg_badness 98 = .ok (.invokestatic 103, 3) := by decide +kernel
theorem d_Stg_badness_101 : decode b_Stg_badness 101 = .ok (.i2l, 1) := by decide +kernel
theorem d_Stg_badness_102 : decode b_Stg_badness 102 = .ok (.invokestatic 108, 3) := by decide +kernel
theorem d_Stg_badness_105 : decode b_Stg_badness 105 = .ok (.lmul, 1) := by decide +kernel
theorem d_Stg_badness_106 : decode b_Stg_badness 106 = .ok (.iload 4, 2) := by decide +kernel
theorem d_Stg_badness_108 : decode b_Stg_badness 108 = .ok (.i2l, 1) := by decide +kernel
theorem d_Stg_badness_109 : decode b_Stg_badness 109 = .ok (.invokestatic 108, 3) := by decide +kernel
theorem d_Stg_badness_112 : decode b_Stg_badness 112 = .ok (.ldiv, 1) := by decide +kernel
theorem d_Stg_badness_113 : decode b_Stg_badness 113 = .ok (.lstore 5, 2) := by decide +kernel
theorem d_Stg_badness_115 : decode b_Stg_badness 115 = .ok (.lload 5, 2) := by decide +kernel
theorem d_Stg_badness_117 : decode b_Stg_badness 117 = .ok (.aload_n 0, 1) := by decide +kernel
theorem d_Stg_badness_118 : decode b_Stg_badness 118 = .ok (.getfield 36, 3) := by decide +kernel
theorem d_Stg_badness_121 : decode b_Stg_badness 121 = .ok (.iconst 1, 1) := by decide +kernel
theorem d_Stg_badness_122 : decode b_Stg_badness 122 = .ok (.iaload, 1) := by decide +kernel
theorem d_Stg_badness_123 : decode b_Stg_badness 123 = .ok (.i2l, 1) := by decide +kernel
theorem d_Stg_badness_124 : decode b_Stg_badness 124 = .ok (.lcmp, 1) := by decide +kernel
theorem d_Stg_badness_125 : decode b_Stg_badness 125 = .ok (.ifCond .le 9, 3) := by decide +kernel
theorem d_Stg_badness_128 : decode b_Stg_badness 128 = .ok (.ldc2_w 86, 3) := by decide +kernel
theorem d_Stg_badness_131 : decode b_Stg_badness 131 = .ok (.goto 5, 3) := by decide +kernel
theorem d_Stg_badness_134 : decode b_Stg_badness 134 = .ok (.lload 5, 2) := by decide +kernel
theorem d_Stg_badness_136 : decode b_Stg_badness 136 = .ok (.lreturn, 1) := by decide +kernel
theorem d_Stg_letters_0 : decode b_Stg_letters 0 = .ok (.aload_n 0, 1) := by decide +kernel
theorem d_Stg_letters_1 : decode b_Stg_letters 1 = .ok (.aload_n 0, 1) := by decide +kernel
theorem d_Stg_letters_2 : decode b_Stg_letters 2 = .ok (.getfield 28, 3) := by decide +kernel
theorem d_Stg_letters_5 : decode b_Stg_letters 5 = .ok (.getfield 64, 3) := by decide +kernel
theorem d_Stg_letters_8 : decode b_Stg_letters 8 = .ok (.iload_n 1, 1) := by decide +kernel
theorem d_Stg_letters_9 : decode b_Stg_letters 9 = .ok (.iload_n 2, 1) := by decide +kernel
theorem d_Stg_letters_10 : decode b_Stg_letters 10 = .ok (.invokevirtual 67, 3) := by decide +kernel
theorem d_Stg_letters_13 : decode b_Stg_letters 13 = .ok (.ireturn, 1) := by decide +kernel
theorem d_Stg_over_0 : decode b_Stg_over 0 = .ok (.aload_n 1, 1) := by decide +kernel
theorem d_Stg_over_1 : decode b_Stg_over 1 = .ok (.aload_n 0, 1) := by decide +kernel
theorem d_Stg_over_2 : decode b_Stg_over 2 = .ok (.getfield 21, 3) := by decide +kernel
theorem d_Stg_over_5 : decode b_Stg_over 5 = .ok (.getfield 130, 3) := by decide +kernel
theorem d_Stg_over_8 : decode b_Stg_over 8 = .ok (.iload_n 3, 1) := by decide +kernel
theorem d_Stg_over_9 : decode b_Stg_over 9 = .ok (.iaload, 1) := by decide +kernel
theorem d_Stg_over_10 : decode b_Stg_over 10 = .ok (.iaload, 1) := by decide +kernel
theorem d_Stg_over_11 : decode b_Stg_over 11 = .ok (.aload_n 1, 1) := by decide +kernel
theorem d_Stg_over_12 : decode b_Stg_over 12 = .ok (.aload_n 0, 1) := by decide +kernel
theorem d_Stg_over_13 : decode b_Stg_over 13 = .ok (.getfield 21, 3) := by decide +kernel
theorem d_Stg_over_16 : decode b_Stg_over 16 = .ok (.getfield 124, 3) := by decide +kernel
theorem d_Stg_over_19 : decode b_Stg_over 19 = .ok (.iload_n 2, 1) := by decide +kernel
theorem d_Stg_over_20 : decode b_Stg_over 20 = .ok (.iaload, 1) := by decide +kernel
theorem d_Stg_over_21 : decode b_Stg_over 21 = .ok (.iaload, 1) := by decide +kernel
theorem d_Stg_over_22 : decode b_Stg_over 22 = .ok (.isub, 1) := by decide +kernel
theorem d_Stg_over_23 : decode b_Stg_over 23 = .ok (.ireturn, 1) := by decide +kernel
theorem d_Stg_difference_0 : decode b_Stg_difference 0 = .ok (.aload_n 0, 1) := by decide +kernel
theorem d_Stg_difference_1 : decode b_Stg_difference 1 = .ok (.getfield 36, 3) := by decide +kernel
theorem d_Stg_difference_4 : decode b_Stg_difference 4 = .ok (.iconst 0, 1) := by decide +kernel
theorem d_Stg_difference_5 : decode b_Stg_difference 5 = .ok (.iaload, 1) := by decide +kernel
theorem d_Stg_difference_6 : decode b_Stg_difference 6 = .ok (.aload_n 0, 1) := by decide +kernel
theorem d_Stg_difference_7 : decode b_Stg_difference 7 = .ok (.iload_n 1, 1) := by decide +kernel
theorem d_Stg_difference_8 : decode b_Stg_difference 8 = .ok (.iload_n 2, 1) := by decide +kernel
theorem d_Stg_difference_9 : decode b_Stg_difference 9 = .ok (.invokevirtual 77, 3) := by decide +kernel
theorem d_Stg_difference_12 : decode b_Stg_difference 12 = .ok (.isub, 1) := by decide +kernel
theorem d_Stg_difference_13 : decode b_Stg_difference 13 = .ok (.ireturn, 1) := by decide +kernel
theorem d_Stg_natural_0 : decode b_Stg_natural 0 = .ok (.aload_n 0, 1) := by decide +kernel
theorem d_Stg_natural_1 : decode b_Stg_natural 1 = .ok (.aload_n 0, 1) := by decide +kernel
theorem d_Stg_natural_2 : decode b_Stg_natural 2 = .ok (.getfield 28, 3) := by decide +kernel
theorem d_Stg_natural_5 : decode b_Stg_natural 5 = .ok (.getfield 71, 3) := by decide +kernel
theorem d_Stg_natural_8 : decode b_Stg_natural 8 = .ok (.iload_n 1, 1) := by decide +kernel
theorem d_Stg_natural_9 : decode b_Stg_natural 9 = .ok (.iload_n 2, 1) := by decide +kernel
theorem d_Stg_natural_10 : decode b_Stg_natural 10 = .ok (.invokevirtual 67, 3) := by decide +kernel
theorem d_Stg_natural_13 : decode b_Stg_natural 13 = .ok (.aload_n 0, 1) := by decide +kernel
theorem d_Stg_natural_14 : decode b_Stg_natural 14 = .ok (.getfield 21, 3) := by decide +kernel
theorem d_Stg_natural_17 : decode b_Stg_natural 17 = .ok (.getfield 74, 3) := by decide +kernel
theorem d_Stg_natural_20 : decode b_Stg_natural 20 = .ok (.iload_n 2, 1) := by decide +kernel
theorem d_Stg_natural_21 : decode b_Stg_natural 21 = .ok (.iaload, 1) := by decide +kernel
theorem d_Stg_natural_22 : decode b_Stg_natural 22 = .ok (.iconst 2, 1) := by decide +kernel
theorem d_Stg_natural_23 : decode b_Stg_natural 23 = .ok (.if_icmp .ne 10, 3) := by decide +kernel
theorem d_Stg_natural_26 : decode b_Stg_natural 26 = .ok (.aload_n 0, 1) := by decide +kernel
theorem d_Stg_natural_27 : decode b_Stg_natural 27 = .ok (.getfield 39, 3) := by decide +kernel
theorem d_Stg_natural_30 : decode b_Stg_natural 30 = .ok (.goto 4, 3) := by decide +kernel
theorem d_Stg_natural_33 : decode b_Stg_natural 33 = .ok (.iconst 0, 1) := by decide +kernel
theorem d_Stg_natural_34 : decode b_Stg_natural 34 = .ok (.iadd, 1) := by decide +kernel
theorem d_Stg_natural_35 : decode b_Stg_natural 35 = .ok (.ireturn, 1) := by decide +kernel
theorem d_Stg_isLoose_0 : decode b_Stg_isLoose 0 = .ok (.iload_n 1, 1) := by decide +kernel
theorem d_Stg_isLoose_1 : decode b_Stg_isLoose 1 = .ok (.ifCond .le 33, 3) := by decide +kernel
theorem d_Stg_isLoose_4 : decode b_Stg_isLoose 4 = .ok (.aload_n 0, 1) := by decide +kernel
theorem d_Stg_isLoose_5 : decode b_Stg_isLoose 5 = .ok (.getfield 21, 3) := by decide +kernel
theorem d_Stg_isLoose_8 : decode b_Stg_isLoose 8 = .ok (.getfield 74, 3) := by decide +kernel
theorem d_Stg_isLoose_11 : decode b_Stg_isLoose 11 = .ok (.iload_n 2, 1) := by decide +kernel
theorem d_Stg_isLoose_12 : decode b_Stg_isLoose 12 = .ok (.iaload, 1) := by decide +kernel
theorem d_Stg_isLoose_13 : decode b_Stg_isLoose 13 = .ok (.iconst 3, 1) := by decide +kernel
theorem d_Stg_isLoose_14 : decode b_Stg_isLoose 14 = .ok (.if_icmp .eq 16, 3) := by decide +kernel
theorem d_Stg_isLoose_17 : decode b_Stg_isLoose 17 = .ok (.aload_n 0, 1) := by decide +kernel
theorem d_Stg_isLoose_18 : decode b_Stg_isLoose 18 = .ok (.getfield 21, 3) := by decide +kernel
theorem d_Stg_isLoose_21 : decode b_Stg_isLoose 21 = .ok (.getfield 74, 3) := by decide +kernel
theorem d_Stg_isLoose_24 : decode b_Stg_isLoose 24 = .ok (.iload_n 2, 1) := by decide +kernel
theorem d_Stg_isLoose_25 : decode b_Stg_isLoose 25 = .ok (.iaload, 1) := by decide +kernel
theorem d_Stg_isLoose_26 : decode b_Stg_isLoose 26 = .ok (.iconst 4, 1) := by decide +kernel
theorem d_Stg_isLoose_27 : decode b_Stg_isLoose 27 = .ok (.if_icmp .ne 7, 3) := by decide +kernel
theorem d_Stg_isLoose_30 : decode b_Stg_isLoose 30 = .ok (.iconst 1, 1) := by decide +kernel
theorem d_Stg_isLoose_31 : decode b_Stg_isLoose 31 = .ok (.goto 4, 3) := by decide +kernel
theorem d_Stg_isLoose_34 : decode b_Stg_isLoose 34 = .ok (.iconst 0, 1) := by decide +kernel
theorem d_Stg_isLoose_35 : decode b_Stg_isLoose 35 = .ok (.ireturn, 1) := by decide +kernel
theorem d_Stg_cube_0 : decode b_Stg_cube 0 = .ok (.lload_n 0, 1) := by decide +kernel
theorem d_Stg_cube_1 : decode b_Stg_cube 1 = .ok (.lload_n 0, 1) := by decide +kernel
theorem d_Stg_cube_2 : decode b_Stg_cube 2 = .ok (.lmul, 1) := by decide +kernel
theorem d_Stg_cube_3 : decode b_Stg_cube 3 = .ok (.lload_n 0, 1) := by decide +kernel
theorem d_Stg_cube_4 : decode b_Stg_cube 4 = .ok (.lmul, 1) := by decide +kernel
theorem d_Stg_cube_5 : decode b_Stg_cube 5 = .ok (.lreturn, 1) := by decide +kernel
theorem d_Stg_price_0 : decode b_Stg_price 0 = .ok (.aload_n 0, 1) := by decide +kernel
theorem d_Stg_price_1 : decode b_Stg_price 1 = .ok (.getfield 36, 3) := by decide +kernel
theorem d_Stg_price_4 : decode b_Stg_price 4 = .ok (.iconst 2, 1) := by decide +kernel
theorem d_Stg_price_5 : decode b_Stg_price 5 = .ok (.iaload, 1) := by decide +kernel
theorem d_Stg_price_6 : decode b_Stg_price 6 = .ok (.i2l, 1) := by decide +kernel
theorem d_Stg_price_7 : decode b_Stg_price 7 = .ok (.lload_n 3, 1) := by decide +kernel
theorem d_Stg_price_8 : decode b_Stg_price 8 = .ok (.ladd, 1) := by decide +kernel
theorem d_Stg_price_9 : decode b_Stg_price 9 = .ok (.invokestatic 112, 3) := by decide +kernel
theorem d_Stg_price_12 : decode b_Stg_price 12 = .ok (.lstore 5, 2) := by decide +kernel
theorem d_Stg_price_14 : decode b_Stg_price 14 = .ok (.aload_n 0, 1) := by decide +kernel
theorem d_Stg_price_15 : decode b_Stg_price 15 = .ok (.getfield 21, 3) := by decide +kernel
theorem d_Stg_price_18 : decode b_Stg_price 18 = .ok (.getfield 74, 3) := by decide +kernel
theorem d_Stg_price_21 : decode b_Stg_price 21 = .ok (.iload_n 2, 1) := by decide +kernel
theorem d_Stg_price_22 : decode b_Stg_price 22 = .ok (.iaload, 1) := by decide +kernel
theorem d_Stg_price_23 : decode b_Stg_price 23 = .ok (.iconst 2, 1) := by decide +kernel
theorem d_Stg_price_24 : decode b_Stg_price 24 = .ok (.if_icmp .ne 43, 3) := by decide +kernel
theorem d_Stg_price_27 : decode b_Stg_price 27 = .ok (.lload 5, 2) := by decide +kernel
theorem d_Stg_price_29 : decode b_Stg_price 29 = .ok (.aload_n 0, 1) := by decide +kernel
theorem d_Stg_price_30 : decode b_Stg_price 30 = .ok (.getfield 36, 3) := by decide +kernel
theorem d_Stg_price_33 : decode b_Stg_price 33 = .ok (.iconst 3, 1) := by decide +kernel
theorem d_Stg_price_34 : decode b_Stg_price 34 = .ok (.iaload, 1) := by decide +kernel
theorem d_Stg_price_35 : decode b_Stg_price 35 = .ok (.i2l, 1) := by decide +kernel
theorem d_Stg_price_36 : decode b_Stg_price 36 = .ok (.invokestatic 112, 3) := by decide +kernel
theorem d_Stg_price_39 : decode b_Stg_price 39 = .ok (.ladd, 1) := by decide +kernel
theorem d_Stg_price_40 : decode b_Stg_price 40 = .ok (.lstore 5, 2) := by decide +kernel
theorem d_Stg_price_42 : decode b_Stg_price 42 = .ok (.aload_n 0, 1) := by decide +kernel
theorem d_Stg_price_43 : decode b_Stg_price 43 = .ok (.getfield 21, 3) := by decide +kernel
theorem d_Stg_price_46 : decode b_Stg_price 46 = .ok (.getfield 74, 3) := by decide +kernel
theorem d_Stg_price_49 : decode b_Stg_price 49 = .ok (.iload_n 1, 1) := by decide +kernel
theorem d_Stg_price_50 : decode b_Stg_price 50 = .ok (.iaload, 1) := by decide +kernel
theorem d_Stg_price_51 : decode b_Stg_price 51 = .ok (.iconst 2, 1) := by decide +kernel
theorem d_Stg_price_52 : decode b_Stg_price 52 = .ok (.if_icmp .ne 15, 3) := by decide +kernel
theorem d_Stg_price_55 : decode b_Stg_price 55 = .ok (.lload 5, 2) := by decide +kernel
theorem d_Stg_price_57 : decode b_Stg_price 57 = .ok (.aload_n 0, 1) := by decide +kernel
theorem d_Stg_price_58 : decode b_Stg_price 58 = .ok (.getfield 36, 3) := by decide +kernel
theorem d_Stg_price_61 : decode b_Stg_price 61 = .ok (.iconst 4, 1) := by decide +kernel
theorem d_Stg_price_62 : decode b_Stg_price 62 = .ok (.iaload, 1) := by decide +kernel
theorem d_Stg_price_63 : decode b_Stg_price 63 = .ok (.i2l, 1) := by decide +kernel
theorem d_Stg_price_64 : decode b_Stg_price 64 = .ok (.ladd, 1) := by decide +kernel
theorem d_Stg_price_65 : decode b_Stg_price 65 = .ok (.lstore 5, 2) := by decide +kernel
theorem d_Stg_price_67 : decode b_Stg_price 67 = .ok (.lload 5, 2) := by decide +kernel
theorem d_Stg_price_69 : decode b_Stg_price 69 = .ok (.lreturn, 1) := by decide +kernel
theorem d_Stg_square_0 : decode b_Stg_square 0 = .ok (.lload_n 0, 1) := by decide +kernel
theorem d_Stg_square_1 : decode b_Stg_square 1 = .ok (.lload_n 0, 1) := by decide +kernel
theorem d_Stg_square_2 : decode b_Stg_square 2 = .ok (.lmul, 1) := by decide +kernel
theorem d_Stg_square_3 : decode b_Stg_square 3 = .ok (.lreturn, 1) := by decide +kernel
theorem d_Cho_keepBetter_0 : decode b_Cho_keepBetter 0 = .ok (.aload_n 0, 1) := by decide +kernel
theorem d_Cho_keepBetter_1 : decode b_Cho_keepBetter 1 = .ok (.getfield 9, 3) := by decide +kernel
theorem d_Cho_keepBetter_4 : decode b_Cho_keepBetter 4 = .ok (.iload_n 2, 1) := by decide +kernel
theorem d_Cho_keepBetter_5 : decode b_Cho_keepBetter 5 = .ok (.laload, 1) := by decide +kernel
theorem d_Cho_keepBetter_6 : decode b_Cho_keepBetter 6 = .ok (.lload_n 3, 1) := by decide +kernel
theorem d_Cho_keepBetter_7 : decode b_Cho_keepBetter 7 = .ok (.ladd, 1) := by decide +kernel
theorem d_Cho_keepBetter_8 : decode b_Cho_keepBetter 8 = .ok (.lstore 5, 2) := by decide +kernel
theorem d_Cho_keepBetter_10 : decode b_Cho_keepBetter 10 = .ok (.aload_n 0, 1) := by decide +kernel
theorem d_Cho_keepBetter_11 : decode b_Cho_keepBetter 11 = .ok (.getfield 15, 3) := by decide +kernel
theorem d_Cho_keepBetter_14 : decode b_Cho_keepBetter 14 = .ok (.iload_n 2, 1) := by decide +kernel
theorem d_Cho_keepBetter_15 : decode b_Cho_keepBetter 15 = .ok (.iaload, 1) := by decide +kernel
theorem d_Cho_keepBetter_16 : decode b_Cho_keepBetter 16 = .ok (.iconst 1, 1) := by decide +kernel
theorem d_Cho_keepBetter_17 : decode b_Cho_keepBetter 17 = .ok (.iadd, 1) := by decide +kernel
theorem d_Cho_keepBetter_18 : decode b_Cho_keepBetter 18 = .ok (.istore 7, 2) := by decide +kernel
theorem d_Cho_keepBetter_20 : decode b_Cho_keepBetter 20 = .ok (.aload_n 0, 1) := by decide +kernel
theorem d_Cho_keepBetter_21 : decode b_Cho_keepBetter 21 = .ok (.getfield 19, 3) := by decide +kernel
theorem d_Cho_keepBetter_24 : decode b_Cho_keepBetter 24 = .ok (.iload_n 1, 1) := by decide +kernel
theorem d_Cho_keepBetter_25 : decode b_Cho_keepBetter 25 = .ok (.iaload, 1) := by decide +kernel
theorem d_Cho_keepBetter_26 : decode b_Cho_keepBetter 26 = .ok (.ifCond .eq 38, 3) := by decide +kernel
theorem d_Cho_keepBetter_29 : decode b_Cho_keepBetter 29 = .ok (.lload 5, 2) := by decide +kernel
theorem d_Cho_keepBetter_31 : decode b_Cho_keepBetter 31 = .ok (.aload_n 0, 1) := by decide +kernel
theorem d_Cho_keepBetter_32 : decode b_Cho_keepBetter 32 = .ok (.getfield 9, 3) := by decide +kernel
theorem d_Cho_keepBetter_35 : decode b_Cho_keepBetter 35 = .ok (.iload_n 1, 1) := by decide +kernel
theorem d_Cho_keepBetter_36 : decode b_Cho_keepBetter 36 = .ok (.laload, 1) := by decide +kernel
theorem d_Cho_keepBetter_37 : decode b_Cho_keepBetter 37 = .ok (.lcmp, 1) := by decide +kernel
theorem d_Cho_keepBetter_38 : decode b_Cho_keepBetter 38 = .ok (.ifCond .lt 26, 3) := by decide +kernel
theorem d_Cho_keepBetter_41 : decode b_Cho_keepBetter 41 = .ok (.lload 5, 2) := by decide +kernel
theorem d_Cho_keepBetter_43 : decode b_Cho_keepBetter 43 = .ok (.aload_n 0, 1) := by decide +kernel
theorem d_Cho_keepBetter_44 : decode b_Cho_keepBetter 44 = .ok (.getfield 9, 3) := by decide +kernel
theorem d_Cho_keepBetter_47 : decode b_Cho_keepBetter 47 = .ok (.iload_n 1, 1) := by decide +kernel
theorem d_Cho_keepBetter_48 : decode b_Cho_keepBetter 48 = .ok (.laload, 1) := by decide +kernel
theorem d_Cho_keepBetter_49 : decode b_Cho_keepBetter 49 = .ok (.lcmp, 1) := by decide +kernel
theorem d_Cho_keepBetter_50 : decode b_Cho_keepBetter 50 = .ok (.ifCond .ne 37, 3) := by decide +kernel
theorem d_Cho_keepBetter_53 : decode b_Cho_keepBetter 53 = .ok (.iload 7, 2) := by decide +kernel
theorem d_Cho_keepBetter_55 : decode b_Cho_keepBetter 55 = .ok (.aload_n 0, 1) := by decide +kernel
theorem d_Cho_keepBetter_56 : decode b_Cho_keepBetter 56 = .ok (.getfield 15, 3) := by decide +kernel
theorem d_Cho_keepBetter_59 : decode b_Cho_keepBetter 59 = .ok (.iload_n 1, 1) := by decide +kernel
theorem d_Cho_keepBetter_60 : decode b_Cho_keepBetter 60 = .ok (.iaload, 1) := by decide +kernel
theorem d_Cho_keepBetter_61 : decode b_Cho_keepBetter 61 = .ok (.if_icmp .ge 26, 3) := by decide +kernel
theorem d_Cho_keepBetter_64 : decode b_Cho_keepBetter 64 = .ok (.aload_n 0, 1) := by decide +kernel
theorem d_Cho_keepBetter_65 : decode b_Cho_keepBetter 65 = .ok (.getfield 9, 3) := by decide +kernel
theorem d_Cho_keepBetter_68 : decode b_Cho_keepBetter 68 = .ok (.iload_n 1, 1) := by decide +kernel
theorem d_Cho_keepBetter_69 : decode b_Cho_keepBetter 69 = .ok (.lload 5, 2) := by decide +kernel
theorem d_Cho_keepBetter_71 : decode b_Cho_keepBetter 71 = .ok (.lastore, 1) := by decide +kernel
theorem d_Cho_keepBetter_72 : decode b_Cho_keepBetter 72 = .ok (.aload_n 0, 1) := by decide +kernel
theorem d_Cho_keepBetter_73 : decode b_Cho_keepBetter 73 = .ok (.getfield 15, 3) := by decide +kernel
theorem d_Cho_keepBetter_76 : decode b_Cho_keepBetter 76 = .ok (.iload_n 1, 1) := by decide +kernel
theorem d_Cho_keepBetter_77 : decode b_Cho_keepBetter 77 = .ok (.iload 7, 2) := by decide +kernel
theorem d_Cho_keepBetter_79 : decode b_Cho_keepBetter 79 = .ok (.iastore, 1) := by decide +kernel
theorem d_Cho_keepBetter_80 : decode b_Cho_keepBetter 80 = .ok (.aload_n 0, 1) := by decide +kernel
theorem d_Cho_keepBetter_81 : decode b_Cho_keepBetter 81 = .ok (.getfield 19, 3) := by decide +kernel
theorem d_Cho_keepBetter_84 : decode b_Cho_keepBetter 84 = .ok (.iload_n 1, 1) := by decide +kernel
theorem d_Cho_keepBetter_85 : decode b_Cho_keepBetter 85 = .ok (.iload_n 2, 1) := by decide +kernel
theorem d_Cho_keepBetter_86 : decode b_Cho_keepBetter 86 = .ok (.iastore, 1) := by decide +kernel
theorem d_Cho_keepBetter_87 : decode b_Cho_keepBetter 87 = .ok (.return_, 1) := by decide +kernel
theorem d_Cho_follow_0 : decode b_Cho_follow 0 = .ok (.aload_n 1, 1) := by decide +kernel
theorem d_Cho_follow_1 : decode b_Cho_follow 1 = .ok (.getfield 22, 3) := by decide +kernel
theorem d_Cho_follow_4 : decode b_Cho_follow 4 = .ok (.getfield 28, 3) := by decide +kernel
theorem d_Cho_follow_7 : decode b_Cho_follow 7 = .ok (.istore_n 2, 1) := by decide +kernel
theorem d_Cho_follow_8 : decode b_Cho_follow 8 = .ok (.aload_n 1, 1) := by decide +kernel
theorem d_Cho_follow_9 : decode b_Cho_follow 9 = .ok (.aload_n 0, 1) := by decide +kernel
theorem d_Cho_follow_10 : decode b_Cho_follow 10 = .ok (.getfield 9, 3) := by decide +kernel
theorem d_Cho_follow_13 : decode b_Cho_follow 13 = .ok (.iconst 0, 1) := by decide +kernel
theorem d_Cho_follow_14 : decode b_Cho_follow 14 = .ok (.laload, 1) := by decide +kernel
theorem d_Cho_follow_15 : decode b_Cho_follow 15 = .ok (.putfield 59, 3) := by decide +kernel
theorem d_Cho_follow_18 : decode b_Cho_follow 18 = .ok (.aload_n 1, 1) := by decide +kernel
theorem d_Cho_follow_19 : decode b_Cho_follow 19 = .ok (.aload_n 0, 1) := by decide +kernel
theorem d_Cho_follow_20 : decode b_Cho_follow 20 = .ok (.getfield 15, 3) := by decide +kernel
theorem d_Cho_follow_23 : decode b_Cho_follow 23 = .ok (.iconst 0, 1) := by decide +kernel
theorem d_Cho_follow_24 : decode b_Cho_follow 24 = .ok (.iaload, 1) := by decide +kernel
theorem d_Cho_follow_25 : decode b_Cho_follow 25 = .ok (.putfield 63, 3) := by decide +kernel
theorem d_Cho_follow_28 : decode b_Cho_follow 28 = .ok (.aload_n 1, 1) := by decide +kernel
theorem d_Cho_follow_29 : decode b_Cho_follow 29 = .ok (.getfield 65, 3) := by decide +kernel
theorem d_Cho_follow_32 : decode b_Cho_follow 32 = .ok (.iconst 0, 1) := by decide +kernel
theorem d_Cho_follow_33 : decode b_Cho_follow 33 = .ok (.iconst 0, 1) := by decide +kernel
theorem d_Cho_follow_34 : decode b_Cho_follow 34 = .ok (.iastore, 1) := by decide +kernel
theorem d_Cho_follow_35 : decode b_Cho_follow 35 = .ok (.iconst 0, 1) := by decide +kernel
theorem d_Cho_follow_36 : decode b_Cho_follow 36 = .ok (.istore_n 3, 1) := by decide +kernel
theorem d_Cho_follow_37 : decode b_Cho_follow 37 = .ok (.iload_n 3, 1) := by decide +kernel
theorem d_Cho_follow_38 : decode b_Cho_follow 38 = .ok (.aload_n 1, 1) := by decide +kernel
theorem d_Cho_follow_39 : decode b_Cho_follow 39 = .ok (.getfield 63, 3) := by decide +kernel
theorem d_Cho_follow_42 : decode b_Cho_follow 42 = .ok (.if_icmp .ge 38, 3) := by decide +kernel
theorem d_Cho_follow_45 : decode b_Cho_follow 45 = .ok (.aload_n 1, 1) := by decide +kernel
theorem d_Cho_follow_46 : decode b_Cho_follow 46 = .ok (.getfield 65, 3) := by decide +kernel
theorem d_Cho_follow_49 : decode b_Cho_follow 49 = .ok (.iload_n 3, 1) := by decide +kernel
theorem d_Cho_follow_50 : decode b_Cho_follow 50 = .ok (.iaload, 1) := by decide +kernel
theorem d_Cho_follow_51 : decode b_Cho_follow 51 = .ok (.iload_n 2, 1) := by decide +kernel
theorem d_Cho_follow_52 : decode b_Cho_follow 52 = .ok (.if_icmp .ge 28, 3) := by decide +kernel
theorem d_Cho_follow_55 : decode b_Cho_follow 55 = .ok (.aload_n 1, 1) := by decide +kernel
theorem d_Cho_follow_56 : decode b_Cho_follow 56 = .ok (.getfield 65, 3) := by decide +kernel
theorem d_Cho_follow_59 : decode b_Cho_follow 59 = .ok (.iload_n 3, 1) := by decide +kernel
theorem d_Cho_follow_60 : decode b_Cho_follow 60 = .ok (.iconst 1, 1) := by decide +kernel
theorem d_Cho_follow_61 : decode b_Cho_follow 61 = .ok (.iadd, 1) := by decide +kernel
theorem d_Cho_follow_62 : decode b_Cho_follow 62 = .ok (.aload_n 0, 1) := by decide +kernel
theorem d_Cho_follow_63 : decode b_Cho_follow 63 = .ok (.getfield 19, 3) := by decide +kernel
theorem d_Cho_follow_66 : decode b_Cho_follow 66 = .ok (.aload_n 1, 1) := by decide +kernel
theorem d_Cho_follow_67 : decode b_Cho_follow 67 = .ok (.getfield 65, 3) := by decide +kernel
theorem d_Cho_follow_70 : decode b_Cho_follow 70 = .ok (.iload_n 3, 1) := by decide +kernel
theorem d_Cho_follow_71 : decode b_Cho_follow 71 = .ok (.iaload, 1) := by decide +kernel
theorem d_Cho_follow_72 : decode b_Cho_follow 72 = .ok (.iaload, 1) := by decide +kernel
theorem d_Cho_follow_73 : decode b_Cho_follow 73 = .ok (.iastore, 1) := by decide +kernel
theorem d_Cho_follow_74 : decode b_Cho_follow 74 = .ok (.iinc 3 1, 3) := by decide +kernel
theorem d_Cho_follow_77 : decode b_Cho_follow 77 = .ok (.goto (-40), 3) := by decide +kernel
theorem d_Cho_follow_80 : decode b_Cho_follow 80 = .ok (.return_, 1) := by decide +kernel
theorem d_PS_showDraft_0 : decode b_PS_showDraft 0 = .ok (.aload_n 0, 1) := by decide +kernel
theorem d_PS_showDraft_1 : decode b_PS_showDraft 1 = .ok (.getfield 52, 3) := by decide +kernel
theorem d_PS_showDraft_4 : decode b_PS_showDraft 4 = .ok (.astore_n 1, 1) := by decide +kernel
theorem d_PS_showDraft_5 : decode b_PS_showDraft 5 = .ok (.aload_n 0, 1) := by decide +kernel
theorem d_PS_showDraft_6 : decode b_PS_showDraft 6 = .ok (.aload_n 0, 1) := by decide +kernel
theorem d_PS_showDraft_7 : decode b_PS_showDraft 7 = .ok (.getfield 56, 3) := by decide +kernel
theorem d_PS_showDraft_10 : decode b_PS_showDraft 10 = .ok (.putfield 52, 3) := by decide +kernel
theorem d_PS_showDraft_13 : decode b_PS_showDraft 13 = .ok (.aload_n 0, 1) := by decide +kernel
theorem d_PS_showDraft_14 : decode b_PS_showDraft 14 = .ok (.aload_n 1, 1) := by decide +kernel
theorem d_PS_showDraft_15 : decode b_PS_showDraft 15 = .ok (.putfield 56, 3) := by decide +kernel
theorem d_PS_showDraft_18 : decode b_PS_showDraft 18 = .ok (.return_, 1) := by decide +kernel
theorem d_PS_cost_0 : decode b_PS_cost 0 = .ok (.aload_n 0, 1) := by decide +kernel
theorem d_PS_cost_1 : decode b_PS_cost 1 = .ok (.getfield 52, 3) := by decide +kernel
theorem d_PS_cost_4 : decode b_PS_cost 4 = .ok (.getfield 151, 3) := by decide +kernel
theorem d_PS_cost_7 : decode b_PS_cost 7 = .ok (.lreturn, 1) := by decide +kernel
theorem d_PS_line_0 : decode b_PS_line 0 = .ok (.aload_n 0, 1) := by decide +kernel
theorem d_PS_line_1 : decode b_PS_line 1 = .ok (.getfield 52, 3) := by decide +kernel
theorem d_PS_line_4 : decode b_PS_line 4 = .ok (.iload_n 1, 1) := by decide +kernel
theorem d_PS_line_5 : decode b_PS_line 5 = .ok (.invokevirtual 155, 3) := by decide +kernel
theorem d_PS_line_8 : decode b_PS_line 8 = .ok (.ifCond .ne 5, 3) := by decide +kernel
theorem d_PS_line_11 : decode b_PS_line 11 = .ok (.iconst (-1), 1) := by decide +kernel
theorem d_PS_line_12 : decode b_PS_line 12 = .ok (.ireturn, 1) := by decide +kernel
theorem d_PS_line_13 : decode b_PS_line 13 = .ok (.aload_n 0, 1) := by decide +kernel
theorem d_PS_line_14 : decode b_PS_line 14 = .ok (.getfield 52, 3) := by decide +kernel
theorem d_PS_line_17 : decode b_PS_line 17 = .ok (.getfield 158, 3) := by decide +kernel
theorem d_PS_line_20 : decode b_PS_line 20 = .ok (.iload_n 1, 1) := by decide +kernel
theorem d_PS_line_21 : decode b_PS_line 21 = .ok (.iaload, 1) := by decide +kernel
theorem d_PS_line_22 : decode b_PS_line 22 = .ok (.istore_n 3, 1) := by decide +kernel
theorem d_PS_line_23 : decode b_PS_line 23 = .ok (.aload_n 0, 1) := by decide +kernel
theorem d_PS_line_24 : decode b_PS_line 24 = .ok (.getfield 52, 3) := by decide +kernel
theorem d_PS_line_27 : decode b_PS_line 27 = .ok (.getfield 158, 3) := by decide +kernel
theorem d_PS_line_30 : decode b_PS_line 30 = .ok (.iload_n 1, 1) := by decide +kernel
theorem d_PS_line_31 : decode b_PS_line 31 = .ok (.iconst 1, 1) := by decide +kernel
theorem d_PS_line_32 : decode b_PS_line 32 = .ok (.iadd, 1) := by decide +kernel
theorem d_PS_line_33 : decode b_PS_line 33 = .ok (.iaload, 1) := by decide +kernel
theorem d_PS_line_34 : decode b_PS_line 34 = .ok (.istore 4, 2) := by decide +kernel
theorem d_PS_line_36 : decode b_PS_line 36 = .ok (.iload_n 2, 1) := by decide +kernel
theorem d_PS_line_37 : decode b_PS_line 37 = .ok (.tableswitch 101 0 5 #[39, 42, 56, 67, 78, 90], 39) := by decide +kernel
theorem d_PS_line_76 : decode b_PS_line 76 = .ok (.iload 4, 2) := by decide +kernel
theorem d_PS_line_78 : decode b_PS_line 78 = .ok (.ireturn, 1) := by decide +kernel
theorem d_PS_line_79 : decode b_PS_line 79 = .ok (.aload_n 0, 1) := by decide +kernel
theorem d_PS_line_80 : decode b_PS_line 80 = .ok (.getfield 52, 3) := by decide +kernel
theorem d_PS_line_83 : decode b_PS_line 83 = .ok (.getfield 127, 3) := by decide +kernel
theorem d_PS_line_86 : decode b_PS_line 86 = .ok (.getfield 161, 3) := by decide +kernel
theorem d_PS_line_89 : decode b_PS_line 89 = .ok (.iload 4, 2) := by decide +kernel
theorem d_PS_line_91 : decode b_PS_line 91 = .ok (.iaload, 1) := by decide +kernel
theorem d_PS_line_92 : decode b_PS_line 92 = .ok (.ireturn, 1) := by decide +kernel
theorem d_PS_line_93 : decode b_PS_line 93 = .ok (.aload_n 0, 1) := by decide +kernel
theorem d_PS_line_94 : decode b_PS_line 94 = .ok (.getfield 52, 3) := by decide +kernel
theorem d_PS_line_97 : decode b_PS_line 97 = .ok (.iload_n 3, 1) := by decide +kernel
theorem d_PS_line_98 : decode b_PS_line 98 = .ok (.iload 4, 2) := by decide +kernel
theorem d_PS_line_100 : decode b_PS_line 100 = .ok (.invokevirtual 164, 3) := by decide +kernel
theorem d_PS_line_103 : decode b_PS_line 103 = .ok (.ireturn, 1) := by decide +kernel
theorem d_PS_line_104 : decode b_PS_line 104 = .ok (.aload_n 0, 1) := by decide +kernel
theorem d_PS_line_105 : decode b_PS_line 105 = .ok (.getfield 52, 3) := by decide +kernel
theorem d_PS_line_108 : decode b_PS_line 108 = .ok (.iload_n 3, 1) := by decide +kernel
theorem d_PS_line_109 : decode b_PS_line 109 = .ok (.iload 4, 2) := by decide +kernel
theorem d_PS_line_111 : decode b_PS_line 111 = .ok (.invokevirtual 168, 3) := by decide +kernel
theorem d_PS_line_114 : decode b_PS_line 114 = .ok (.ireturn, 1) := by decide +kernel
theorem d_PS_line_115 : decode b_PS_line 115 = .ok (.aload_n 0, 1) := by decide +kernel
theorem d_PS_line_116 : decode b_PS_line 116 = .ok (.getfield 52, 3) := by decide +kernel
theorem d_PS_line_119 : decode b_PS_line 119 = .ok (.iload_n 3, 1) := by decide +kernel
theorem d_PS_line_120 : decode b_PS_line 120 = .ok (.iload 4, 2) := by decide +kernel
theorem d_PS_line_122 : decode b_PS_line 122 = .ok (.invokevirtual 171, 3) := by decide +kernel
theorem d_PS_line_125 : decode b_PS_line 125 = .ok (.l2i, 1) := by decide +kernel
theorem d_PS_line_126 : decode b_PS_line 126 = .ok (.ireturn, 1) := by decide +kernel
theorem d_PS_line_127 : decode b_PS_line 127 = .ok (.aload_n 0, 1) := by decide +kernel
theorem d_PS_line_128 : decode b_PS_line 128 = .ok (.getfield 52, 3) := by decide +kernel
theorem d_PS_line_131 : decode b_PS_line 131 = .ok (.iload_n 3, 1) := by decide +kernel
theorem d_PS_line_132 : decode b_PS_line 132 = .ok (.iload 4, 2) := by decide +kernel
theorem d_PS_line_134 : decode b_PS_line 134 = .ok (.invokevirtual 175, 3) := by decide +kernel
theorem d_PS_line_137 : decode b_PS_line 137 = .ok (.ireturn, 1) := by decide +kernel
theorem d_PS_line_138 : decode b_PS_line 138 = .ok (.iconst (-1), 1) := by decide +kernel
theorem d_PS_line_139 : decode b_PS_line 139 = .ok (.ireturn, 1) := by decide +kernel
theorem d_Stg_hasLine_0 : decode b_Stg_hasLine 0 = .ok (.iload_n 1, 1) := by decide +kernel
theorem d_Stg_hasLine_1 : decode b_Stg_hasLine 1 = .ok (.ifCond .lt 15, 3) := by decide +kernel
theorem d_Stg_hasLine_4 : decode b_Stg_hasLine 4 = .ok (.iload_n 1, 1) := by decide +kernel
theorem d_Stg_hasLine_5 : decode b_Stg_hasLine 5 = .ok (.aload_n 0, 1) := by decide +kernel
theorem d_Stg_hasLine_6 : decode b_Stg_hasLine 6 = .ok (.getfield 49, 3) := by decide +kernel
theorem d_Stg_hasLine_9 : decode b_Stg_hasLine 9 = .ok (.if_icmp .ge 7, 3) := by decide +kernel
theorem d_Stg_hasLine_12 : decode b_Stg_hasLine 12 = .ok (.iconst 1, 1) := by decide +kernel
theorem d_Stg_hasLine_13 : decode b_Stg_hasLine 13 = .ok (.goto 4, 3) := by decide +kernel
theorem d_Stg_hasLine_16 : decode b_Stg_hasLine 16 = .ok (.iconst 0, 1) := by decide +kernel
theorem d_Stg_hasLine_17 : decode b_Stg_hasLine 17 = .ok (.ireturn, 1) := by decide +kernel
theorem d_PS_character_0 : decode b_PS_character 0 = .ok (.aload_n 0, 1) := by decide +kernel
theorem d_PS_character_1 : decode b_PS_character 1 = .ok (.getfield 52, 3) := by decide +kernel
theorem d_PS_character_4 : decode b_PS_character 4 = .ok (.iload_n 1, 1) := by decide +kernel
theorem d_PS_character_5 : decode b_PS_character 5 = .ok (.invokevirtual 155, 3) := by decide +kernel
theorem d_PS_character_8 : decode b_PS_character 8 = .ok (.ifCond .eq 7, 3) := by decide +kernel
theorem d_PS_character_11 : decode b_PS_character 11 = .ok (.iload_n 2, 1) := by decide +kernel
theorem d_PS_character_12 : decode b_PS_character 12 = .ok (.ifCond .ge 5, 3) := by decide +kernel
theorem d_PS_character_15 : decode b_PS_character 15 = .ok (.iconst (-1), 1) := by decide +kernel
theorem d_PS_character_16 : decode b_PS_character 16 = .ok (.ireturn, 1) := by decide +kernel
theorem d_PS_character_17 : decode b_PS_character 17 = .ok (.aload_n 0, 1) := by decide +kernel
theorem d_PS_character_18 : decode b_PS_character 18 = .ok (.getfield 52, 3) := by decide +kernel
theorem d_PS_character_21 : decode b_PS_character 21 = .ok (.iload_n 1, 1) := by decide +kernel
theorem d_PS_character_22 : decode b_PS_character 22 = .ok (.iload_n 2, 1) := by decide +kernel
theorem d_PS_character_23 : decode b_PS_character 23 = .ok (.invokevirtual 178, 3) := by decide +kernel
theorem d_PS_character_26 : decode b_PS_character 26 = .ok (.ireturn, 1) := by decide +kernel
theorem d_Stg_codeAt_0 : decode b_Stg_codeAt 0 = .ok (.iload_n 2, 1) := by decide +kernel
theorem d_Stg_codeAt_1 : decode b_Stg_codeAt 1 = .ok (.aload_n 0, 1) := by decide +kernel
theorem d_Stg_codeAt_2 : decode b_Stg_codeAt 2 = .ok (.iload_n 1, 1) := by decide +kernel
theorem d_Stg_codeAt_3 : decode b_Stg_codeAt 3 = .ok (.invokevirtual 118, 3) := by decide +kernel
theorem d_Stg_codeAt_6 : decode b_Stg_codeAt 6 = .ok (.if_icmp .lt 5, 3) := by decide +kernel
theorem d_Stg_codeAt_9 : decode b_Stg_codeAt 9 = .ok (.iconst 0, 1) := by decide +kernel
theorem d_Stg_codeAt_10 : decode b_Stg_codeAt 10 = .ok (.ireturn, 1) := by decide +kernel
theorem d_Stg_codeAt_11 : decode b_Stg_codeAt 11 = .ok (.iload_n 2, 1) := by decide +kernel
theorem d_Stg_codeAt_12 : decode b_Stg_codeAt 12 = .ok (.aload_n 0, 1) := by decide +kernel
theorem d_Stg_codeAt_13 : decode b_Stg_codeAt 13 = .ok (.iload_n 1, 1) := by decide +kernel
theorem d_Stg_codeAt_14 : decode b_Stg_codeAt 14 = .ok (.invokevirtual 115, 3) := by decide +kernel
theorem d_Stg_codeAt_17 : decode b_Stg_codeAt 17 = .ok (.if_icmp .lt 6, 3) := by decide +kernel
theorem d_Stg_codeAt_20 : decode b_Stg_codeAt 20 = .ok (.bipush 45, 2) := by decide +kernel
theorem d_Stg_codeAt_22 : decode b_Stg_codeAt 22 = .ok (.ireturn, 1) := by decide +kernel
theorem d_Stg_codeAt_23 : decode b_Stg_codeAt 23 = .ok (.aload_n 0, 1) := by decide +kernel
theorem d_Stg_codeAt_24 : decode b_Stg_codeAt 24 = .ok (.getfield 12, 3) := by decide +kernel
theorem d_Stg_codeAt_27 : decode b_Stg_codeAt 27 = .ok (.getfield 121, 3) := by decide +kernel
theorem d_Stg_codeAt_30 : decode b_Stg_codeAt 30 = .ok (.aload_n 0, 1) := by decide +kernel
theorem d_Stg_codeAt_31 : decode b_Stg_codeAt 31 = .ok (.getfield 21, 3) := by decide +kernel
theorem d_Stg_codeAt_34 : decode b_Stg_codeAt 34 = .ok (.getfield 124, 3) := by decide +kernel
theorem d_Stg_codeAt_37 : decode b_Stg_codeAt 37 = .ok (.aload_n 0, 1) := by decide +kernel
theorem d_Stg_codeAt_38 : decode b_Stg_codeAt 38 = .ok (.getfield 46, 3) := by decide +kernel
theorem d_Stg_codeAt_41 : decode b_Stg_codeAt 41 = .ok (.iload_n 1, 1) := by decide +kernel
theorem d_Stg_codeAt_42 : decode b_Stg_codeAt 42 = .ok (.iaload, 1) := by decide +kernel
theorem d_Stg_codeAt_43 : decode b_Stg_codeAt 43 = .ok (.iaload, 1) := by decide +kernel
theorem d_Stg_codeAt_44 : decode b_Stg_codeAt 44 = .ok (.iload_n 2, 1) := by decide +kernel
theorem d_Stg_codeAt_45 : decode b_Stg_codeAt 45 = .ok (.iadd, 1) := by decide +kernel
theorem d_Stg_codeAt_46 : decode b_Stg_codeAt 46 = .ok (.iaload, 1) := by decide +kernel
theorem d_Stg_codeAt_47 : decode b_Stg_codeAt 47 = .ok (.istore_n 3, 1) := by decide +kernel
theorem d_Stg_codeAt_48 : decode b_Stg_codeAt 48 = .ok (.iload_n 3, 1) := by decide +kernel
theorem d_Stg_codeAt_49 : decode b_Stg_codeAt 49 = .ok (.bipush 126, 2) := by decide +kernel
theorem d_Stg_codeAt_51 : decode b_Stg_codeAt 51 = .ok (.if_icmp .ne 8, 3) := by decide +kernel
theorem d_Stg_codeAt_54 : decode b_Stg_codeAt 54 = .ok (.bipush 32, 2) := by decide +kernel
theorem d_Stg_codeAt_56 : decode b_Stg_codeAt 56 = .ok (.goto 4, 3) := by decide +kernel
theorem d_Stg_codeAt_59 : decode b_Stg_codeAt 59 = .ok (.iload_n 3, 1) := by decide +kernel
theorem d_Stg_codeAt_60 : decode b_Stg_codeAt 60 = .ok (.ireturn, 1) := by decide +kernel
theorem d_Stg_length_0 : decode b_Stg_length 0 = .ok (.aload_n 0, 1) := by decide +kernel
theorem d_Stg_length_1 : decode b_Stg_length 1 = .ok (.iload_n 1, 1) := by decide +kernel
theorem d_Stg_length_2 : decode b_Stg_length 2 = .ok (.invokevirtual 115, 3) := by decide +kernel
theorem d_Stg_length_5 : decode b_Stg_length 5 = .ok (.aload_n 0, 1) := by decide +kernel
theorem d_Stg_length_6 : decode b_Stg_length 6 = .ok (.getfield 21, 3) := by decide +kernel
theorem d_Stg_length_9 : decode b_Stg_length 9 = .ok (.getfield 74, 3) := by decide +kernel
theorem d_Stg_length_12 : decode b_Stg_length 12 = .ok (.aload_n 0, 1) := by decide +kernel
theorem d_Stg_length_13 : decode b_Stg_length 13 = .ok (.getfield 46, 3) := by decide +kernel
theorem d_Stg_length_16 : decode b_Stg_length 16 = .ok (.iload_n 1, 1) := by decide +kernel
theorem d_Stg_length_17 : decode b_Stg_length 17 = .ok (.iconst 1, 1) := by decide +kernel
theorem d_Stg_length_18 : decode b_Stg_length 18 = .ok (.iadd, 1) := by decide +kernel
theorem d_Stg_length_19 : decode b_Stg_length 19 = .ok (.iaload, 1) := by decide +kernel
theorem d_Stg_length_20 : decode b_Stg_length 20 = .ok (.iaload, 1) := by decide +kernel
theorem d_Stg_length_21 : decode b_Stg_length 21 = .ok (.iconst 2, 1) := by decide +kernel
theorem d_Stg_length_22 : decode b_Stg_length 22 = .ok (.if_icmp .ne 7, 3) := by decide +kernel
theorem d_Stg_length_25 : decode b_Stg_length 25 = .ok (.iconst 1, 1) := by decide +kernel
theorem d_Stg_length_26 : decode b_Stg_length 26 = .ok (.goto 4, 3) := by decide +kernel
theorem d_Stg_length_29 : decode b_Stg_length 29 = .ok (.iconst 0, 1) := by decide +kernel
theorem d_Stg_length_30 : decode b_Stg_length 30 = .ok (.iadd, 1) := by decide +kernel
theorem d_Stg_length_31 : decode b_Stg_length 31 = .ok (.ireturn, 1) := by decide +kernel
theorem d_Stg_items_0 : decode b_Stg_items 0 = .ok (.aload_n 0, 1) := by decide +kernel
theorem d_Stg_items_1 : decode b_Stg_items 1 = .ok (.getfield 21, 3) := by decide +kernel
theorem d_Stg_items_4 : decode b_Stg_items 4 = .ok (.getfield 130, 3) := by decide +kernel
theorem d_Stg_items_7 : decode b_Stg_items 7 = .ok (.aload_n 0, 1) := by decide +kernel
theorem d_Stg_items_8 : decode b_Stg_items 8 = .ok (.getfield 46, 3) := by decide +kernel
theorem d_Stg_items_11 : decode b_Stg_items 11 = .ok (.iload_n 1, 1) := by decide +kernel
theorem d_Stg_items_12 : decode b_Stg_items 12 = .ok (.iconst 1, 1) := by decide +kernel
theorem d_Stg_items_13 : decode b_Stg_items 13 = .ok (.iadd, 1) := by decide +kernel
theorem d_Stg_items_14 : decode b_Stg_items 14 = .ok (.iaload, 1) := by decide +kernel
theorem d_Stg_items_15 : decode b_Stg_items 15 = .ok (.iaload, 1) := by decide +kernel
theorem d_Stg_items_16 : decode b_Stg_items 16 = .ok (.aload_n 0, 1) := by decide +kernel
theorem d_Stg_items_17 : decode b_Stg_items 17 = .ok (.getfield 21, 3) := by decide +kernel
theorem d_Stg_items_20 : decode b_Stg_items 20 = .ok (.getfield 124, 3) := by decide +kernel
theorem d_Stg_items_23 : decode b_Stg_items 23 = .ok (.aload_n 0, 1) := by decide +kernel
theorem d_Stg_items_24 : decode b_Stg_items 24 = .ok (.getfield 46, 3) := by decide +kernel
theorem d_Stg_items_27 : decode b_Stg_items 27 = .ok (.iload_n 1, 1) := by decide +kernel
theorem d_Stg_items_28 : decode b_Stg_items 28 = .ok (.iaload, 1) := by decide +kernel
theorem d_Stg_items_29 : decode b_Stg_items 29 = .ok (.iaload, 1) := by decide +kernel
theorem d_Stg_items_30 : decode b_Stg_items 30 = .ok (.isub, 1) := by decide +kernel
theorem d_Stg_items_31 : decode b_Stg_items 31 = .ok (.ireturn, 1) := by decide +kernel
theorem d_PS_place_0 : decode b_PS_place 0 = .ok (.aload_n 0, 1) := by decide +kernel
theorem d_PS_place_1 : decode b_PS_place 1 = .ok (.getfield 52, 3) := by decide +kernel
theorem d_PS_place_4 : decode b_PS_place 4 = .ok (.iload_n 1, 1) := by decide +kernel
theorem d_PS_place_5 : decode b_PS_place 5 = .ok (.invokevirtual 155, 3) := by decide +kernel
theorem d_PS_place_8 : decode b_PS_place 8 = .ok (.ifCond .eq 19, 3) := by decide +kernel
theorem d_PS_place_11 : decode b_PS_place 11 = .ok (.iload_n 2, 1) := by decide +kernel
theorem d_PS_place_12 : decode b_PS_place 12 = .ok (.ifCond .lt 15, 3) := by decide +kernel
theorem d_PS_place_15 : decode b_PS_place 15 = .ok (.iload_n 2, 1) := by decide +kernel
theorem d_PS_place_16 : decode b_PS_place 16 = .ok (.aload_n 0, 1) := by decide +kernel
theorem d_PS_place_17 : decode b_PS_place 17 = .ok (.getfield 52, 3) := by decide +kernel
theorem d_PS_place_20 : decode b_PS_place 20 = .ok (.iload_n 1, 1) := by decide +kernel
theorem d_PS_place_21 : decode b_PS_place 21 = .ok (.invokevirtual 181, 3) := by decide +kernel
theorem d_PS_place_24 : decode b_PS_place 24 = .ok (.if_icmp .lt 5, 3) := by decide +kernel
theorem d_PS_place_27 : decode b_PS_place 27 = .ok (.iconst (-1), 1) := by decide +kernel
theorem d_PS_place_28 : decode b_PS_place 28 = .ok (.ireturn, 1) := by decide +kernel
theorem d_PS_place_29 : decode b_PS_place 29 = .ok (.aload_n 0, 1) := by decide +kernel
theorem d_PS_place_30 : decode b_PS_place 30 = .ok (.getfield 52, 3) := by decide +kernel
theorem d_PS_place_33 : decode b_PS_place 33 = .ok (.iload_n 1, 1) := by decide +kernel
theorem d_PS_place_34 : decode b_PS_place 34 = .ok (.iload_n 2, 1) := by decide +kernel
theorem d_PS_place_35 : decode b_PS_place 35 = .ok (.invokevirtual 184, 3) := by decide +kernel
theorem d_PS_place_38 : decode b_PS_place 38 = .ok (.ireturn, 1) := by decide +kernel
theorem d_Stg_placeOf_0 : decode b_Stg_placeOf 0 = .ok (.aload_n 0, 1) := by decide +kernel
theorem d_Stg_placeOf_1 : decode b_Stg_placeOf 1 = .ok (.getfield 46, 3) := by decide +kernel
theorem d_Stg_placeOf_4 : decode b_Stg_placeOf 4 = .ok (.iload_n 1, 1) := by decide +kernel
theorem d_Stg_placeOf_5 : decode b_Stg_placeOf 5 = .ok (.iaload, 1) := by decide +kernel
theorem d_Stg_placeOf_6 : decode b_Stg_placeOf 6 = .ok (.istore_n 3, 1) := by decide +kernel
theorem d_Stg_placeOf_7 : decode b_Stg_placeOf 7 = .ok (.aload_n 0, 1) := by decide +kernel
theorem d_Stg_placeOf_8 : decode b_Stg_placeOf 8 = .ok (.getfield 46, 3) := by decide +kernel
theorem d_Stg_placeOf_11 : decode b_Stg_placeOf 11 = .ok (.iload_n 1, 1) := by decide +kernel
theorem d_Stg_placeOf_12 : decode b_Stg_placeOf 12 = .ok (.iconst 1, 1) := by decide +kernel
theorem d_Stg_placeOf_13 : decode b_Stg_placeOf 13 = .ok (.iadd, 1) := by decide +kernel
theorem d_Stg_placeOf_14 : decode b_Stg_placeOf 14 = .ok (.iaload, 1) := by decide +kernel
theorem d_Stg_placeOf_15 : decode b_Stg_placeOf 15 = .ok (.istore 4, 2) := by decide +kernel
theorem d_Stg_placeOf_17 : decode b_Stg_placeOf 17 = .ok (.aload_n 0, 1) := by decide +kernel
theorem d_Stg_placeOf_18 : decode b_Stg_placeOf 18 = .ok (.getfield 21, 3) := by decide +kernel
theorem d_Stg_placeOf_21 : decode b_Stg_placeOf 21 = .ok (.getfield 124, 3) := by decide +kernel
theorem d_Stg_placeOf_24 : decode b_Stg_placeOf 24 = .ok (.iload_n 3, 1) := by decide +kernel
theorem d_Stg_placeOf_25 : decode b_Stg_placeOf 25 = .ok (.iaload, 1) := by decide +kernel
theorem d_Stg_placeOf_26 : decode b_Stg_placeOf 26 = .ok (.istore 5, 2) := by decide +kernel
theorem d_Stg_placeOf_28 : decode b_Stg_placeOf 28 = .ok (.aload_n 0, 1) := by decide +kernel
theorem d_Stg_placeOf_29 : decode b_Stg_placeOf 29 = .ok (.getfield 28, 3) := by decide +kernel
theorem d_Stg_placeOf_32 : decode b_Stg_placeOf 32 = .ok (.getfield 71, 3) := by decide +kernel
theorem d_Stg_placeOf_35 : decode b_Stg_placeOf 35 = .ok (.iload 5, 2) := by decide +kernel
theorem d_Stg_placeOf_37 : decode b_Stg_placeOf 37 = .ok (.iload_n 2, 1) := by decide +kernel
theorem d_Stg_placeOf_38 : decode b_Stg_placeOf 38 = .ok (.iadd, 1) := by decide +kernel
theorem d_Stg_placeOf_39 : decode b_Stg_placeOf 39 = .ok (.iaload, 1) := by decide +kernel
theorem d_Stg_placeOf_40 : decode b_Stg_placeOf 40 = .ok (.aload_n 0, 1) := by decide +kernel
theorem d_Stg_placeOf_41 : decode b_Stg_placeOf 41 = .ok (.getfield 28, 3) := by decide +kernel
theorem d_Stg_placeOf_44 : decode b_Stg_placeOf 44 = .ok (.getfield 71, 3) := by decide +kernel
theorem d_Stg_placeOf_47 : decode b_Stg_placeOf 47 = .ok (.iload 5, 2) := by decide +kernel
theorem d_Stg_placeOf_49 : decode b_Stg_placeOf 49 = .ok (.iaload, 1) := by decide +kernel
theorem d_Stg_placeOf_50 : decode b_Stg_placeOf 50 = .ok (.isub, 1) := by decide +kernel
theorem d_Stg_placeOf_51 : decode b_Stg_placeOf 51 = .ok (.istore 6, 2) := by decide +kernel
theorem d_Stg_placeOf_53 : decode b_Stg_placeOf 53 = .ok (.aload_n 0, 1) := by decide +kernel
theorem d_Stg_placeOf_54 : decode b_Stg_placeOf 54 = .ok (.iload_n 3, 1) := by decide +kernel
theorem d_Stg_placeOf_55 : decode b_Stg_placeOf 55 = .ok (.iload 4, 2) := by decide +kernel
theorem d_Stg_placeOf_57 : decode b_Stg_placeOf 57 = .ok (.invokevirtual 88, 3) := by decide +kernel
theorem d_Stg_placeOf_60 : decode b_Stg_placeOf 60 = .ok (.istore 7, 2) := by decide +kernel
theorem d_Stg_placeOf_62 : decode b_Stg_placeOf 62 = .ok (.iload 7, 2) := by decide +kernel
theorem d_Stg_placeOf_64 : decode b_Stg_placeOf 64 = .ok (.ifCond .le 13, 3) := by decide +kernel
theorem d_Stg_placeOf_67 : decode b_Stg_placeOf 67 = .ok (.aload_n 0, 1) := by decide +kernel
theorem d_Stg_placeOf_68 : decode b_Stg_placeOf 68 = .ok (.getfield 28, 3) := by decide +kernel
theorem d_Stg_placeOf_71 : decode b_Stg_placeOf 71 = .ok (.getfield 95, 3) := by decide +kernel
theorem d_Stg_placeOf_74 : decode b_Stg_placeOf 74 = .ok (.goto 10, 3) := by decide +kernel
theorem d_Stg_placeOf_77 : decode b_Stg_placeOf 77 = .ok (.aload_n 0, 1) := by decide +kernel
theorem d_Stg_placeOf_78 : decode b_Stg_placeOf 78 = .ok (.getfield 28, 3) := by decide +kernel
theorem d_Stg_placeOf_81 : decode b_Stg_placeOf 81 = .ok (.getfield 98, 3) := by decide +kernel
theorem d_Stg_placeOf_84 : decode b_Stg_placeOf 84 = .ok (.astore 8, 2) := by decide +kernel
theorem d_Stg_placeOf_86 : decode b_Stg_placeOf 86 = .ok (.aload_n 0, 1) := by decide +kernel
theorem d_Stg_placeOf_87 : decode b_Stg_placeOf 87 = .ok (.aload 8, 2) := by decide +kernel
theorem d_Stg_placeOf_89 : decode b_Stg_placeOf 89 = .ok (.iload_n 3, 1) := by decide +kernel
theorem d_Stg_placeOf_90 : decode b_Stg_placeOf 90 = .ok (.iload 4, 2) := by decide +kernel
theorem d_Stg_placeOf_92 : decode b_Stg_placeOf 92 = .ok (.invokevirtual 67, 3) := by decide +kernel
theorem d_Stg_placeOf_95 : decode b_Stg_placeOf 95 = .ok (.istore 9, 2) := by decide +kernel
theorem d_Stg_placeOf_97 : decode b_Stg_placeOf 97 = .ok (.iload 9, 2) := by decide +kernel
theorem d_Stg_placeOf_99 : decode b_Stg_placeOf 99 = .ok (.ifCond .eq 14, 3) := by decide +kernel
theorem d_Stg_placeOf_102 : decode b_Stg_placeOf 102 = .ok (.aload_n 0, 1) := by decide +kernel
theorem d_Stg_placeOf_103 : decode b_Stg_placeOf 103 = .ok (.iload 7, 2) := by decide +kernel
theorem d_Stg_placeOf_105 : decode b_Stg_placeOf 105 = .ok (.iload 4, 2) := by decide +kernel
theorem d_Stg_placeOf_107 : decode b_Stg_placeOf 107 = .ok (.invokevirtual 91, 3) := by decide +kernel
theorem d_Stg_placeOf_110 : decode b_Stg_placeOf 110 = .ok (.ifCond .eq 6, 3) := by decide +kernel
theorem d_Stg_placeOf_113 : decode b_Stg_placeOf 113 = .ok (.iload 6, 2) := by decide +kernel
theorem d_Stg_placeOf_115 : decode b_Stg_placeOf 115 = .ok (.ireturn, 1) := by decide +kernel
theorem d_Stg_placeOf_116 : decode b_Stg_placeOf 116 = .ok (.iload 6, 2) := by decide +kernel
theorem d_Stg_placeOf_118 : decode b_Stg_placeOf 118 = .ok (.iload 7, 2) := by decide +kernel
theorem d_Stg_placeOf_120 : decode b_Stg_placeOf 120 = .ok (.aload 8, 2) := by decide +kernel
theorem d_Stg_placeOf_122 : decode b_Stg_placeOf 122 = .ok (.iload 5, 2) := by decide +kernel
theorem d_Stg_placeOf_124 : decode b_Stg_placeOf 124 = .ok (.iload_n 2, 1) := by decide +kernel
theorem d_Stg_placeOf_125 : decode b_Stg_placeOf 125 = .ok (.iadd, 1) := by decide +kernel
theorem d_Stg_placeOf_126 : decode b_Stg_placeOf 126 = .ok (.iaload, 1) := by decide +kernel
theorem d_Stg_placeOf_127 : decode b_Stg_placeOf 127 = .ok (.aload 8, 2) := by decide +kernel
theorem d_Stg_placeOf_129 : decode b_Stg_placeOf 129 = .ok (.iload 5, 2) := by decide +kernel
theorem d_Stg_placeOf_131 : decode b_Stg_placeOf 131 = .ok (.iaload, 1) := by decide +kernel
theorem d_Stg_placeOf_132 : decode b_Stg_placeOf 132 = .ok (.isub, 1) := by decide +kernel
theorem d_Stg_placeOf_133 : decode b_Stg_placeOf 133 = .ok (.imul, 1) := by decide +kernel
theorem d_Stg_placeOf_134 : decode b_Stg_placeOf 134 = .ok (.iload 9, 2) := by decide +kernel
theorem d_Stg_placeOf_136 : decode b_Stg_placeOf 136 = .ok (.invokestatic 127, 3) := by decide +kernel
theorem d_Stg_placeOf_139 : decode b_Stg_placeOf 139 = .ok (.iadd, 1) := by decide +kernel
theorem d_Stg_placeOf_140 : decode b_Stg_placeOf 140 = .ok (.ireturn, 1) := by decide +kernel
theorem d_PS_count_0 : decode b_PS_count 0 = .ok (.iload_n 1, 1) := by decide +kernel
theorem d_PS_count_1 : decode b_PS_count 1 = .ok (.tableswitch 108 0 6 #[43, 51, 62, 73, 84, 92, 100], 43) := by decide +kernel
theorem d_PS_count_44 : decode b_PS_count 44 = .ok (.aload_n 0, 1) := by decide +kernel
theorem d_PS_count_45 : decode b_PS_count 45 = .ok (.getfield 52, 3) := by decide +kernel
theorem d_PS_count_48 : decode b_PS_count 48 = .ok (.getfield 148, 3) := by decide +kernel
theorem d_PS_count_51 : decode b_PS_count 51 = .ok (.ireturn, 1) := by decide +kernel
theorem d_PS_count_52 : decode b_PS_count 52 = .ok (.aload_n 0, 1) := by decide +kernel
theorem d_PS_count_53 : decode b_PS_count 53 = .ok (.getfield 52, 3) := by decide +kernel
theorem d_PS_count_56 : decode b_PS_count 56 = .ok (.getfield 106, 3) := by decide +kernel
theorem d_PS_count_59 : decode b_PS_count 59 = .ok (.getfield 187, 3) := by decide +kernel
theorem d_PS_count_62 : decode b_PS_count 62 = .ok (.ireturn, 1) := by decide +kernel
theorem d_PS_count_63 : decode b_PS_count 63 = .ok (.aload_n 0, 1) := by decide +kernel
theorem d_PS_count_64 : decode b_PS_count 64 = .ok (.getfield 52, 3) := by decide +kernel
theorem d_PS_count_67 : decode b_PS_count 67 = .ok (.getfield 127, 3) := by decide +kernel
theorem d_PS_count_70 : decode b_PS_count 70 = .ok (.getfield 188, 3) := by decide +kernel
theorem d_PS_count_73 : decode b_PS_count 73 = .ok (.ireturn, 1) := by decide +kernel
theorem d_PS_count_74 : decode b_PS_count 74 = .ok (.aload_n 0, 1) := by decide +kernel
theorem d_PS_count_75 : decode b_PS_count 75 = .ok (.getfield 52, 3) := by decide +kernel
theorem d_PS_count_78 : decode b_PS_count 78 = .ok (.getfield 127, 3) := by decide +kernel
theorem d_PS_count_81 : decode b_PS_count 81 = .ok (.invokevirtual 189, 3) := by decide +kernel
theorem d_PS_count_84 : decode b_PS_count 84 = .ok (.ireturn, 1) := by decide +kernel
theorem d_PS_count_85 : decode b_PS_count 85 = .ok (.aload_n 0, 1) := by decide +kernel
theorem d_PS_count_86 : decode b_PS_count 86 = .ok (.getfield 52, 3) := by decide +kernel
theorem d_PS_count_89 : decode b_PS_count 89 = .ok (.getfield 117, 3) := by decide +kernel
theorem d_PS_count_92 : decode b_PS_count 92 = .ok (.ireturn, 1) := by decide +kernel
theorem d_PS_count_93 : decode b_PS_count 93 = .ok (.aload_n 0, 1) := by decide +kernel
theorem d_PS_count_94 : decode b_PS_count 94 = .ok (.getfield 38, 3) := by decide +kernel
theorem d_PS_count_97 : decode b_PS_count 97 = .ok (.getfield 105, 3) := by decide +kernel
theorem d_PS_count_100 : decode b_PS_count 100 = .ok (.ireturn, 1) := by decide +kernel
theorem d_PS_count_101 : decode b_PS_count 101 = .ok (.aload_n 0, 1) := by decide +kernel
theorem d_PS_count_102 : decode b_PS_count 102 = .ok (.getfield 14, 3) := by decide +kernel
theorem d_PS_count_105 : decode b_PS_count 105 = .ok (.getfield 70, 3) := by decide +kernel
theorem d_PS_count_108 : decode b_PS_count 108 = .ok (.ireturn, 1) := by decide +kernel
theorem d_PS_count_109 : decode b_PS_count 109 = .ok (.iconst (-1), 1) := by decide +kernel
theorem d_PS_count_110 : decode b_PS_count 110 = .ok (.ireturn, 1) := by decide +kernel
theorem d_Law_law_0 : decode b_Law_law 0 = .ok (.new 7, 3) := by decide +kernel
theorem d_Law_law_3 : decode b_Law_law 3 = .ok (.dup, 1) := by decide +kernel
theorem d_Law_law_4 : decode b_Law_law 4 = .ok (.invokespecial 9, 3) := by decide +kernel
theorem d_Law_law_7 : decode b_Law_law 7 = .ok (.astore_n 1, 1) := by decide +kernel
theorem d_Law_law_8 : decode b_Law_law 8 = .ok (.new 10, 3) := by decide +kernel
theorem d_Law_law_11 : decode b_Law_law 11 = .ok (.dup, 1) := by decide +kernel
theorem d_Law_law_12 : decode b_Law_law 12 = .ok (.invokespecial 12, 3) := by decide +kernel
theorem d_Law_law_15 : decode b_Law_law 15 = .ok (.astore_n 2, 1) := by decide +kernel
theorem d_Law_law_16 : decode b_Law_law 16 = .ok (.iconst 0, 1) := by decide +kernel
theorem d_Law_law_17 : decode b_Law_law 17 = .ok (.istore_n 3, 1) := by decide +kernel
theorem d_Law_law_18 : decode b_Law_law 18 = .ok (.iload_n 3, 1) := by decide +kernel
theorem d_Law_law_19 : decode b_Law_law 19 = .ok (.aload_n 0, 1) := by decide +kernel
theorem d_Law_law_20 : decode b_Law_law 20 = .ok (.arraylength, 1) := by decide +kernel
theorem d_Law_law_21 : decode b_Law_law 21 = .ok (.iconst 3, 1) := by decide +kernel
theorem d_Law_law_22 : decode b_Law_law 22 = .ok (.isub, 1) := by decide +kernel
theorem d_Law_law_23 : decode b_Law_law 23 = .ok (.if_icmp .gt 366, 3) := by decide +kernel
theorem d_Law_law_26 : decode b_Law_law 26 = .ok (.aload_n 0, 1) := by decide +kernel
theorem d_Law_law_27 : decode b_Law_law 27 = .ok (.iload_n 3, 1) := by decide +kernel
theorem d_Law_law_28 : decode b_Law_law 28 = .ok (.iaload, 1) := by decide +kernel
theorem d_Law_law_29 : decode b_Law_law 29 = .ok (.bipush 15, 2) := by decide +kernel
theorem d_Law_law_31 : decode b_Law_law 31 = .ok (.iand, 1) := by decide +kernel
theorem d_Law_law_32 : decode b_Law_law 32 = .ok (.tableswitch 351 0 11 #[64, 87, 100, 133, 166, 189, 202, 215, 229, 262, 295, 328], 64) := by decide +kernel
theorem d_Law_law_96 : decode b_Law_law 96 = .ok (.aload_n 1, 1) := by decide +kernel
theorem d_Law_law_97 : decode b_Law_law 97 = .ok (.aload_n 0, 1) := by decide +kernel
theorem d_Law_law_98 : decode b_Law_law 98 = .ok (.iload_n 3, 1) := by decide +kernel
theorem d_Law_law_99 : decode b_Law_law 99 = .ok (.iconst 1, 1) := by decide +kernel
theorem d_Law_law_100 : decode b_Law_law 100 = .ok (.iadd, 1) := by decide +kernel
theorem d_Law_law_101 : decode b_Law_law 101 = .ok (.iaload, 1) := by decide +kernel
theorem d_Law_law_102 : decode b_Law_law 102 = .ok (.invokevirtual 13, 3) := by decide +kernel
theorem d_Law_law_105 : decode b_Law_law 105 = .ok (.aload_n 2, 1) := by decide +kernel
theorem d_Law_law_106 : decode b_Law_law 106 = .ok (.aload_n 0, 1) := by decide +kernel
theorem d_Law_law_107 : decode b_Law_law 107 = .ok (.iload_n 3, 1) := by decide +kernel
theorem d_Law_law_108 : decode b_Law_law 108 = .ok (.iconst 1, 1) := by decide +kernel
theorem d_Law_law_109 : decode b_Law_law 109 = .ok (.iadd, 1) := by decide +kernel
theorem d_Law_law_110 : decode b_Law_law 110 = .ok (.iaload, 1) := by decide +kernel
theorem d_Law_law_111 : decode b_Law_law 111 = .ok (.invokevirtual 17, 3) := by decide +kernel
theorem d_Law_law_114 : decode b_Law_law 114 = .ok (.if_icmp .eq 269, 3) := by decide +kernel
theorem d_Law_law_117 : decode b_Law_law 117 = .ok (.iconst 0, 1) := by decide +kernel
theorem d_Law_law_118 : decode b_Law_law 118 = .ok (.ireturn, 1) := by decide +kernel
theorem d_Law_law_119 : decode b_Law_law 119 = .ok (.aload_n 1, 1) := by decide +kernel
theorem d_Law_law_120 : decode b_Law_law 120 = .ok (.invokevirtual 18, 3) := by decide +kernel
theorem d_Law_law_123 : decode b_Law_law 123 = .ok (.aload_n 2, 1) := by decide +kernel
theorem d_Law_law_124 : decode b_Law_law 124 = .ok (.invokevirtual 22, 3) := by decide +kernel
theorem d_Law_law_127 : decode b_Law_law 127 = .ok (.if_icmp .eq 256, 3) := by decide +kernel
theorem d_Law_law_130 : decode b_Law_law 130 = .ok (.iconst 0, 1) := by decide +kernel
theorem d_Law_law_131 : decode b_Law_law 131 = .ok (.ireturn, 1) := by decide +kernel
theorem d_Law_law_132 : decode b_Law_law 132 = .ok (.aload_n 1, 1) := by decide +kernel
theorem d_Law_law_133 : decode b_Law_law 133 = .ok (.aload_n 0, 1) := by decide +kernel
theorem d_Law_law_134 : decode b_Law_law 134 = .ok (.iload_n 3, 1) := by decide +kernel
theorem d_Law_law_135 : decode b_Law_law 135 = .ok (.iconst 1, 1) := by decide +kernel
theorem d_Law_law_136 : decode b_Law_law 136 = .ok (.iadd, 1) := by decide +kernel
theorem d_Law_law_137 : decode b_Law_law 137 = .ok (.iaload, 1) := by decide +kernel
theorem d_Law_law_138 : decode b_Law_law 138 = .ok (.aload_n 0, 1) := by decide +kernel
theorem d_Law_law_139 : decode b_Law_law 139 = .ok (.iload_n 3, 1) := by decide +kernel
theorem d_Law_law_140 : decode b_Law_law 140 = .ok (.iconst 2, 1) := by decide +kernel
theorem d_Law_law_141 : decode b_Law_law 141 = .ok (.iadd, 1) := by decide +kernel
theorem d_Law_law_142 : decode b_Law_law 142 = .ok (.iaload, 1) := by decide +kernel
theorem d_Law_law_143 : decode b_Law_law 143 = .ok (.invokevirtual 23, 3) := by decide +kernel
theorem d_Law_law_146 : decode b_Law_law 146 = .ok (.aload_n 2, 1) := by decide +kernel
theorem d_Law_law_147 : decode b_Law_law 147 = .ok (.aload_n 0, 1) := by decide +kernel
theorem d_Law_law_148 : decode b_Law_law 148 = .ok (.iload_n 3, 1) := by decide +kernel
theorem d_Law_law_149 : decode b_Law_law 149 = .ok (.iconst 1, 1) := by decide +kernel
theorem d_Law_law_150 : decode b_Law_law 150 = .ok (.iadd, 1) := by decide +kernel
theorem d_Law_law_151 : decode b_Law_law 151 = .ok (.iaload, 1) := by decide +kernel
theorem d_Law_law_152 : decode b_Law_law 152 = .ok (.aload_n 0, 1) := by decide +kernel
theorem d_Law_law_153 : decode b_Law_law 153 = .ok (.iload_n 3, 1) := by decide +kernel
theorem d_Law_law_154 : decode b_Law_law 154 = .ok (.iconst 2, 1) := by decide +kernel
theorem d_Law_law_155 : decode b_Law_law 155 = .ok (.iadd, 1) := by decide +kernel
theorem d_Law_law_156 : decode b_Law_law 156 = .ok (.iaload, 1) := by decide +kernel
theorem d_Law_law_157 : decode b_Law_law 157 = .ok (.invokevirtual 27, 3) := by decide +kernel
theorem d_Law_law_160 : decode b_Law_law 160 = .ok (.if_icmp .eq 223, 3) := by decide +kernel
theorem d_Law_law_163 : decode b_Law_law 163 = .ok (.iconst 0, 1) := by decide +kernel
theorem d_Law_law_164 : decode b_Law_law 164 = .ok (.ireturn, 1) := by decide +kernel
theorem d_Law_law_165 : decode b_Law_law 165 = .ok (.aload_n 1, 1) := by decide +kernel
theorem d_Law_law_166 : decode b_Law_law 166 = .ok (.aload_n 0, 1) := by decide +kernel
theorem d_Law_law_167 : decode b_Law_law 167 = .ok (.iload_n 3, 1) := by decide +kernel
theorem d_Law_law_168 : decode b_Law_law 168 = .ok (.iconst 1, 1) := by decide +kernel
theorem d_Law_law_169 : decode b_Law_law 169 = .ok (.iadd, 1) := by decide +kernel
theorem d_Law_law_170 : decode b_Law_law 170 = .ok (.iaload, 1) := by decide +kernel
theorem d_Law_law_171 : decode b_Law_law 171 = .ok (.aload_n 0, 1) := by decide +kernel
theorem d_Law_law_172 : decode b_Law_law 172 = .ok (.iload_n 3, 1) := by decide +kernel
theorem d_Law_law_173 : decode b_Law_law 173 = .ok (.iconst 2, 1) := by decide +kernel
theorem d_Law_law_174 : decode b_Law_law 174 = .ok (.iadd, 1) := by decide +kernel
theorem d_Law_law_175 : decode b_Law_law 175 = .ok (.iaload, 1) := by decide +kernel
theorem d_Law_law_176 : decode b_Law_law 176 = .ok (.invokevirtual 28, 3) := by decide +kernel
theorem d_Law_law_179 : decode b_Law_law 179 = .ok (.aload_n 2, 1) := by decide +kernel
theorem d_Law_law_180 : decode b_Law_law 180 = .ok (.aload_n 0, 1) := by decide +kernel
theorem d_Law_law_181 : decode b_Law_law 181 = .ok (.iload_n 3, 1) := by decide +kernel
theorem d_Law_law_182 : decode b_Law_law 182 = .ok (.iconst 1, 1) := by decide +kernel
theorem d_Law_law_183 : decode b_Law_law 183 = .ok (.iadd, 1) := by decide +kernel
theorem d_Law_law_184 : decode b_Law_law 184 = .ok (.iaload, 1) := by decide +kernel
theorem d_Law_law_185 : decode b_Law_law 185 = .ok (.aload_n 0, 1) := by decide +kernel
theorem d_Law_law_186 : decode b_Law_law 186 = .ok (.iload_n 3, 1) := by decide +kernel
theorem d_Law_law_187 : decode b_Law_law 187 = .ok (.iconst 2, 1) := by decide +kernel
theorem d_Law_law_188 : decode b_Law_law 188 = .ok (.iadd, 1) := by decide +kernel
theorem d_Law_law_189 : decode b_Law_law 189 = .ok (.iaload, 1) := by decide +kernel
theorem d_Law_law_190 : decode b_Law_law 190 = .ok (.invokevirtual 31, 3) := by decide +kernel
theorem d_Law_law_193 : decode b_Law_law 193 = .ok (.if_icmp .eq 190, 3) := by decide +kernel
theorem d_Law_law_196 : decode b_Law_law 196 = .ok (.iconst 0, 1) := by decide +kernel
theorem d_Law_law_197 : decode b_Law_law 197 = .ok (.ireturn, 1) := by decide +kernel
theorem d_Law_law_198 : decode b_Law_law 198 = .ok (.aload_n 1, 1) := by decide +kernel
theorem d_Law_law_199 : decode b_Law_law 199 = .ok (.aload_n 0, 1) := by decide +kernel
theorem d_Law_law_200 : decode b_Law_law 200 = .ok (.iload_n 3, 1) := by decide +kernel
theorem d_Law_law_201 : decode b_Law_law 201 = .ok (.iconst 1, 1) := by decide +kernel
theorem d_Law_law_202 : decode b_Law_law 202 = .ok (.iadd, 1) := by decide +kernel
theorem d_Law_law_203 : decode b_Law_law 203 = .ok (.iaload, 1) := by decide +kernel
theorem d_Law_law_204 : decode b_Law_law 204 = .ok (.invokevirtual 32, 3) := by decide +kernel
theorem d_Law_law_207 : decode b_Law_law 207 = .ok (.aload_n 2, 1) := by decide +kernel
theorem d_Law_law_208 : decode b_Law_law 208 = .ok (.aload_n 0, 1) := by decide +kernel
theorem d_Law_law_209 : decode b_Law_law 209 = .ok (.iload_n 3, 1) := by decide +kernel
theorem d_Law_law_210 : decode b_Law_law 210 = .ok (.iconst 1, 1) := by decide +kernel
theorem d_Law_law_211 : decode b_Law_law 211 = .ok (.iadd, 1) := by decide +kernel
theorem d_Law_law_212 : decode b_Law_law 212 = .ok (.iaload, 1) := by decide +kernel
theorem d_Law_law_213 : decode b_Law_law 213 = .ok (.invokevirtual 35, 3) := by decide +kernel
theorem d_Law_law_216 : decode b_Law_law 216 = .ok (.if_icmp .eq 167, 3) := by decide +kernel
theorem d_Law_law_219 : decode b_Law_law 219 = .ok (.iconst 0, 1) := by decide +kernel
theorem d_Law_law_220 : decode b_Law_law 220 = .ok (.ireturn, 1) := by decide +kernel
theorem d_Law_law_221 : decode b_Law_law 221 = .ok (.aload_n 1, 1) := by decide +kernel
theorem d_Law_law_222 : decode b_Law_law 222 = .ok (.invokevirtual 36, 3) := by decide +kernel
theorem d_Law_law_225 : decode b_Law_law 225 = .ok (.aload_n 2, 1) := by decide +kernel
theorem d_Law_law_226 : decode b_Law_law 226 = .ok (.invokevirtual 39, 3) := by decide +kernel
theorem d_Law_law_229 : decode b_Law_law 229 = .ok (.if_icmp .eq 154, 3) := by decide +kernel
theorem d_Law_law_232 : decode b_Law_law 232 = .ok (.iconst 0, 1) := by decide +kernel
theorem d_Law_law_233 : decode b_Law_law 233 = .ok (.ireturn, 1) := by decide +kernel
theorem d_Law_law_234 : decode b_Law_law 234 = .ok (.aload_n 1, 1) := by decide +kernel
theorem d_Law_law_235 : decode b_Law_law 235 = .ok (.invokevirtual 40, 3) := by decide +kernel
theorem d_Law_law_238 : decode b_Law_law 238 = .ok (.aload_n 2, 1) := by decide +kernel
theorem d_Law_law_239 : decode b_Law_law 239 = .ok (.invokevirtual 43, 3) := by decide +kernel
theorem d_Law_law_242 : decode b_Law_law 242 = .ok (.if_icmp .eq 141, 3) := by decide +kernel
theorem d_Law_law_245 : decode b_Law_law 245 = .ok (.iconst 0, 1) := by decide +kernel
theorem d_Law_law_246 : decode b_Law_law 246 = .ok (.ireturn, 1) := by decide +kernel
theorem d_Law_law_247 : decode b_Law_law 247 = .ok (.aload_n 1, 1) := by decide +kernel
theorem d_Law_law_248 : decode b_Law_law 248 = .ok (.invokevirtual 44, 3) := by decide +kernel
theorem d_Law_law_251 : decode b_Law_law 251 = .ok (.aload_n 2, 1) := by decide +kernel
theorem d_Law_law_252 : decode b_Law_law 252 = .ok (.invokevirtual 48, 3) := by decide +kernel
theorem d_Law_law_255 : decode b_Law_law 255 = .ok (.lcmp, 1) := by decide +kernel
theorem d_Law_law_256 : decode b_Law_law 256 = .ok (.ifCond .eq 127, 3) := by decide +kernel
theorem d_Law_law_259 : decode b_Law_law 259 = .ok (.iconst 0, 1) := by decide +kernel
theorem d_Law_law_260 : decode b_Law_law 260 = .ok (.ireturn, 1) := by decide +kernel
theorem d_Law_law_261 : decode b_Law_law 261 = .ok (.aload_n 1, 1) := by decide +kernel
theorem d_Law_law_262 : decode b_Law_law 262 = .ok (.aload_n 0, 1) := by decide +kernel
theorem d_Law_law_263 : decode b_Law_law 263 = .ok (.iload_n 3, 1) := by decide +kernel
theorem d_Law_law_264 : decode b_Law_law 264 = .ok (.iconst 1, 1) := by decide +kernel
theorem d_Law_law_265 : decode b_Law_law 265 = .ok (.iadd, 1) := by decide +kernel
theorem d_Law_law_266 : decode b_Law_law 266 = .ok (.iaload, 1) := by decide +kernel
theorem d_Law_law_267 : decode b_Law_law 267 = .ok (.aload_n 0, 1) := by decide +kernel
theorem d_Law_law_268 : decode b_Law_law 268 = .ok (.iload_n 3, 1) := by decide +kernel
theorem d_Law_law_269 : decode b_Law_law 269 = .ok (.iconst 2, 1) := by decide +kernel
theorem d_Law_law_270 : decode b_Law_law 270 = .ok (.iadd, 1) := by decide +kernel
theorem d_Law_law_271 : decode b_Law_law 271 = .ok (.iaload, 1) := by decide +kernel
theorem d_Law_law_272 : decode b_Law_law 272 = .ok (.invokevirtual 49, 3) := by decide +kernel
theorem d_Law_law_275 : decode b_Law_law 275 = .ok (.aload_n 2, 1) := by decide +kernel
theorem d_Law_law_276 : decode b_Law_law 276 = .ok (.aload_n 0, 1) := by decide +kernel
theorem d_Law_law_277 : decode b_Law_law 277 = .ok (.iload_n 3, 1) := by decide +kernel
theorem d_Law_law_278 : decode b_Law_law 278 = .ok (.iconst 1, 1) := by decide +kernel
theorem d_Law_law_279 : decode b_Law_law 279 = .ok (.iadd, 1) := by decide +kernel
theorem d_Law_law_280 : decode b_Law_law 280 = .ok (.iaload, 1) := by decide +kernel
theorem d_Law_law_281 : decode b_Law_law 281 = .ok (.aload_n 0, 1) := by decide +kernel
theorem d_Law_law_282 : decode b_Law_law 282 = .ok (.iload_n 3, 1) := by decide +kernel
theorem d_Law_law_283 : decode b_Law_law 283 = .ok (.iconst 2, 1) := by decide +kernel
theorem d_Law_law_284 : decode b_Law_law 284 = .ok (.iadd, 1) := by decide +kernel
theorem d_Law_law_285 : decode b_Law_law 285 = .ok (.iaload, 1) := by decide +kernel
theorem d_Law_law_286 : decode b_Law_law 286 = .ok (.invokevirtual 52, 3) := by decide +kernel
theorem d_Law_law_289 : decode b_Law_law 289 = .ok (.if_icmp .eq 94, 3) := by decide +kernel
theorem d_Law_law_292 : decode b_Law_law 292 = .ok (.iconst 0, 1) := by decide +kernel
theorem d_Law_law_293 : decode b_Law_law 293 = .ok (.ireturn, 1) := by decide +kernel
theorem d_Law_law_294 : decode b_Law_law 294 = .ok (.aload_n 1, 1) := by decide +kernel
theorem d_Law_law_295 : decode b_Law_law 295 = .ok (.aload_n 0, 1) := by decide +kernel
theorem d_Law_law_296 : decode b_Law_law 296 = .ok (.iload_n 3, 1) := by decide +kernel
theorem d_Law_law_297 : decode b_Law_law 297 = .ok (.iconst 1, 1) := by decide +kernel
theorem d_Law_law_298 : decode b_Law_law 298 = .ok (.iadd, 1) := by decide +kernel
theorem d_Law_law_299 : decode b_Law_law 299 = .ok (.iaload, 1) := by decide +kernel
theorem d_Law_law_300 : decode b_Law_law 300 = .ok (.aload_n 0, 1) := by decide +kernel
theorem d_Law_law_301 : decode b_Law_law 301 = .ok (.iload_n 3, 1) := by decide +kernel
theorem d_Law_law_302 : decode b_Law_law 302 = .ok (.iconst 2, 1) := by decide +kernel
theorem d_Law_law_303 : decode b_Law_law 303 = .ok (.iadd, 1) := by decide +kernel
theorem d_Law_law_304 : decode b_Law_law 304 = .ok (.iaload, 1) := by decide +kernel
theorem d_Law_law_305 : decode b_Law_law 305 = .ok (.invokevirtual 53, 3) := by decide +kernel
theorem d_Law_law_308 : decode b_Law_law 308 = .ok (.aload_n 2, 1) := by decide +kernel
theorem d_Law_law_309 : decode b_Law_law 309 = .ok (.aload_n 0, 1) := by decide +kernel
theorem d_Law_law_310 : decode b_Law_law 310 = .ok (.iload_n 3, 1) := by decide +kernel
theorem d_Law_law_311 : decode b_Law_law 311 = .ok (.iconst 1, 1) := by decide +kernel
theorem d_Law_law_312 : decode b_Law_law 312 = .ok (.iadd, 1) := by decide +kernel
theorem d_Law_law_313 : decode b_Law_law 313 = .ok (.iaload, 1) := by decide +kernel
theorem d_Law_law_314 : decode b_Law_law 314 = .ok (.aload_n 0, 1) := by decide +kernel
theorem d_Law_law_315 : decode b_Law_law 315 = .ok (.iload_n 3, 1) := by decide +kernel
theorem d_Law_law_316 : decode b_Law_law 316 = .ok (.iconst 2, 1) := by decide +kernel
theorem d_Law_law_317 : decode b_Law_law 317 = .ok (.iadd, 1) := by decide +kernel
theorem d_Law_law_318 : decode b_Law_law 318 = .ok (.iaload, 1) := by decide +kernel
theorem d_Law_law_319 : decode b_Law_law 319 = .ok (.invokevirtual 56, 3) := by decide +kernel
theorem d_Law_law_322 : decode b_Law_law 322 = .ok (.if_icmp .eq 61, 3) := by decide +kernel
theorem d_Law_law_325 : decode b_Law_law 325 = .ok (.iconst 0, 1) := by decide +kernel
theorem d_Law_law_326 : decode b_Law_law 326 = .ok (.ireturn, 1) := by decide +kernel
theorem d_Law_law_327 : decode b_Law_law 327 = .ok (.aload_n 1, 1) := by decide +kernel
theorem d_Law_law_328 : decode b_Law_law 328 = .ok (.aload_n 0, 1) := by decide +kernel
theorem d_Law_law_329 : decode b_Law_law 329 = .ok (.iload_n 3, 1) := by decide +kernel
theorem d_Law_law_330 : decode b_Law_law 330 = .ok (.iconst 1, 1) := by decide +kernel
theorem d_Law_law_331 : decode b_Law_law 331 = .ok (.iadd, 1) := by decide +kernel
theorem d_Law_law_332 : decode b_Law_law 332 = .ok (.iaload, 1) := by decide +kernel
theorem d_Law_law_333 : decode b_Law_law 333 = .ok (.aload_n 0, 1) := by decide +kernel
theorem d_Law_law_334 : decode b_Law_law 334 = .ok (.iload_n 3, 1) := by decide +kernel
theorem d_Law_law_335 : decode b_Law_law 335 = .ok (.iconst 2, 1) := by decide +kernel
theorem d_Law_law_336 : decode b_Law_law 336 = .ok (.iadd, 1) := by decide +kernel
theorem d_Law_law_337 : decode b_Law_law 337 = .ok (.iaload, 1) := by decide +kernel
theorem d_Law_law_338 : decode b_Law_law 338 = .ok (.invokevirtual 57, 3) := by decide +kernel
theorem d_Law_law_341 : decode b_Law_law 341 = .ok (.aload_n 2, 1) := by decide +kernel
theorem d_Law_law_342 : decode b_Law_law 342 = .ok (.aload_n 0, 1) := by decide +kernel
theorem d_Law_law_343 : decode b_Law_law 343 = .ok (.iload_n 3, 1) := by decide +kernel
theorem d_Law_law_344 : decode b_Law_law 344 = .ok (.iconst 1, 1) := by decide +kernel
theorem d_Law_law_345 : decode b_Law_law 345 = .ok (.iadd, 1) := by decide +kernel
theorem d_Law_law_346 : decode b_Law_law 346 = .ok (.iaload, 1) := by decide +kernel
theorem d_Law_law_347 : decode b_Law_law 347 = .ok (.aload_n 0, 1) := by decide +kernel
theorem d_Law_law_348 : decode b_Law_law 348 = .ok (.iload_n 3, 1) := by decide +kernel
theorem d_Law_law_349 : decode b_Law_law 349 = .ok (.iconst 2, 1) := by decide +kernel
theorem d_Law_law_350 : decode b_Law_law 350 = .ok (.iadd, 1) := by decide +kernel
theorem d_Law_law_351 : decode b_Law_law 351 = .ok (.iaload, 1) := by decide +kernel
theorem d_Law_law_352 : decode b_Law_law 352 = .ok (.invokevirtual 60, 3) := by decide +kernel
theorem d_Law_law_355 : decode b_Law_law 355 = .ok (.if_icmp .eq 28, 3) := by decide +kernel
theorem d_Law_law_358 : decode b_Law_law 358 = .ok (.iconst 0, 1) := by decide +kernel
theorem d_Law_law_359 : decode b_Law_law 359 = .ok (.ireturn, 1) := by decide +kernel
theorem d_Law_law_360 : decode b_Law_law 360 = .ok (.aload_n 1, 1) := by decide +kernel
theorem d_Law_law_361 : decode b_Law_law 361 = .ok (.aload_n 0, 1) := by decide +kernel
theorem d_Law_law_362 : decode b_Law_law 362 = .ok (.iload_n 3, 1) := by decide +kernel
theorem d_Law_law_363 : decode b_Law_law 363 = .ok (.iconst 1, 1) := by decide +kernel
theorem d_Law_law_364 : decode b_Law_law 364 = .ok (.iadd, 1) := by decide +kernel
theorem d_Law_law_365 : decode b_Law_law 365 = .ok (.iaload, 1) := by decide +kernel
theorem d_Law_law_366 : decode b_Law_law 366 = .ok (.invokevirtual 61, 3) := by decide +kernel
theorem d_Law_law_369 : decode b_Law_law 369 = .ok (.aload_n 2, 1) := by decide +kernel
theorem d_Law_law_370 : decode b_Law_law 370 = .ok (.aload_n 0, 1) := by decide +kernel
theorem d_Law_law_371 : decode b_Law_law 371 = .ok (.iload_n 3, 1) := by decide +kernel
theorem d_Law_law_372 : decode b_Law_law 372 = .ok (.iconst 1, 1) := by decide +kernel
theorem d_Law_law_373 : decode b_Law_law 373 = .ok (.iadd, 1) := by decide +kernel
theorem d_Law_law_374 : decode b_Law_law 374 = .ok (.iaload, 1) := by decide +kernel
theorem d_Law_law_375 : decode b_Law_law 375 = .ok (.invokevirtual 64, 3) := by decide +kernel
theorem d_Law_law_378 : decode b_Law_law 378 = .ok (.if_icmp .eq 5, 3) := by decide +kernel
theorem d_Law_law_381 : decode b_Law_law 381 = .ok (.iconst 0, 1) := by decide +kernel
theorem d_Law_law_382 : decode b_Law_law 382 = .ok (.ireturn, 1) := by decide +kernel
theorem d_Law_law_383 : decode b_Law_law 383 = .ok (.iinc 3 3, 3) := by decide +kernel
theorem d_Law_law_386 : decode b_Law_law 386 = .ok (.goto (-368), 3) := by decide +kernel
theorem d_Law_law_389 : decode b_Law_law 389 = .ok (.iconst 1, 1) := by decide +kernel
theorem d_Law_law_390 : decode b_Law_law 390 = .ok (.ireturn, 1) := by decide +kernel
end
section
theorem d_Mod_init_0 : decode b_Mod_init 0 = .ok (.aload_n 0, 1) := by decide +kernel
theorem d_Mod_init_1 : decode b_Mod_init 1 = .ok (.invokespecial 1, 3) := by decide +kernel
theorem d_Mod_init_4 : decode b_Mod_init 4 = .ok (.aload_n 0, 1) := by decide +kernel
theorem d_Mod_init_5 : decode b_Mod_init 5 = .ok (.bipush 60, 2) := by decide +kernel
theorem d_Mod_init_7 : decode b_Mod_init 7 = .ok (.newarray .int, 2) := by decide +kernel
theorem d_Mod_init_9 : decode b_Mod_init 9 = .ok (.putfield 7, 3) := by decide +kernel
theorem d_Mod_init_12 : decode b_Mod_init 12 = .ok (.aload_n 0, 1) := by decide +kernel
theorem d_Mod_init_13 : decode b_Mod_init 13 = .ok (.sipush 128, 3) := by decide +kernel
theorem d_Mod_init_16 : decode b_Mod_init 16 = .ok (.newarray .int, 2) := by decide +kernel
theorem d_Mod_init_18 : decode b_Mod_init 18 = .ok (.putfield 13, 3) := by decide +kernel
theorem d_Mod_init_21 : decode b_Mod_init 21 = .ok (.aload_n 0, 1) := by decide +kernel
theorem d_Mod_init_22 : decode b_Mod_init 22 = .ok (.iconst 5, 1) := by decide +kernel
theorem d_Mod_init_23 : decode b_Mod_init 23 = .ok (.newarray .int, 2) := by decide +kernel
theorem d_Mod_init_25 : decode b_Mod_init 25 = .ok (.putfield 16, 3) := by decide +kernel
theorem d_Mod_init_28 : decode b_Mod_init 28 = .ok (.aload_n 0, 1) := by decide +kernel
theorem d_Mod_init_29 : decode b_Mod_init 29 = .ok (.bipush 96, 2) := by decide +kernel
theorem d_Mod_init_31 : decode b_Mod_init 31 = .ok (.newarray .int, 2) := by decide +kernel
theorem d_Mod_init_33 : decode b_Mod_init 33 = .ok (.putfield 19, 3) := by decide +kernel
theorem d_Mod_init_36 : decode b_Mod_init 36 = .ok (.aload_n 0, 1) := by decide +kernel
theorem d_Mod_init_37 : decode b_Mod_init 37 = .ok (.iconst 4, 1) := by decide +kernel
theorem d_Mod_init_38 : decode b_Mod_init 38 = .ok (.newarray .int, 2) := by decide +kernel
theorem d_Mod_init_40 : decode b_Mod_init 40 = .ok (.putfield 22, 3) := by decide +kernel
theorem d_Mod_init_43 : decode b_Mod_init 43 = .ok (.aload_n 0, 1) := by decide +kernel
theorem d_Mod_init_44 : decode b_Mod_init 44 = .ok (.bipush 100, 2) := by decide +kernel
theorem d_Mod_init_46 : decode b_Mod_init 46 = .ok (.newarray .int, 2) := by decide +kernel
theorem d_Mod_init_48 : decode b_Mod_init 48 = .ok (.putfield 25, 3) := by decide +kernel
theorem d_Mod_init_51 : decode b_Mod_init 51 = .ok (.aload_n 0, 1) := by decide +kernel
theorem d_Mod_init_52 : decode b_Mod_init 52 = .ok (.bipush 120, 2) := by decide +kernel
theorem d_Mod_init_54 : decode b_Mod_init 54 = .ok (.newarray .int, 2) := by decide +kernel
theorem d_Mod_init_56 : decode b_Mod_init 56 = .ok (.putfield 28, 3) := by decide +kernel
theorem d_Mod_init_59 : decode b_Mod_init 59 = .ok (.aload_n 0, 1) := by decide +kernel
theorem d_Mod_init_60 : decode b_Mod_init 60 = .ok (.bipush 20, 2) := by decide +kernel
theorem d_Mod_init_62 : decode b_Mod_init 62 = .ok (.newarray .int, 2) := by decide +kernel
theorem d_Mod_init_64 : decode b_Mod_init 64 = .ok (.putfield 31, 3) := by decide +kernel
theorem d_Mod_init_67 : decode b_Mod_init 67 = .ok (.aload_n 0, 1) := by decide +kernel
theorem d_Mod_init_68 : decode b_Mod_init 68 = .ok (.sipush 200, 3) := by decide +kernel
theorem d_Mod_init_71 : decode b_Mod_init 71 = .ok (.newarray .int, 2) := by decide +kernel
theorem d_Mod_init_73 : decode b_Mod_init 73 = .ok (.putfield 34, 3) := by decide +kernel
theorem d_Mod_init_76 : decode b_Mod_init 76 = .ok (.aload_n 0, 1) := by decide +kernel
theorem d_Mod_init_77 : decode b_Mod_init 77 = .ok (.sipush 200, 3) := by decide +kernel
theorem d_Mod_init_80 : decode b_Mod_init 80 = .ok (.newarray .int, 2) := by decide +kernel
theorem d_Mod_init_82 : decode b_Mod_init 82 = .ok (.putfield 37, 3) := by decide +kernel
theorem d_Mod_init_85 : decode b_Mod_init 85 = .ok (.aload_n 0, 1) := by decide +kernel
theorem d_Mod_init_86 : decode b_Mod_init 86 = .ok (.sipush 200, 3) := by decide +kernel
theorem d_Mod_init_89 : decode b_Mod_init 89 = .ok (.newarray .int, 2) := by decide +kernel
theorem d_Mod_init_91 : decode b_Mod_init 91 = .ok (.putfield 40, 3) := by decide +kernel
theorem d_Mod_init_94 : decode b_Mod_init 94 = .ok (.aload_n 0, 1) := by decide +kernel
theorem d_Mod_init_95 : decode b_Mod_init 95 = .ok (.bipush 8, 2) := by decide +kernel
theorem d_Mod_init_97 : decode b_Mod_init 97 = .ok (.newarray .int, 2) := by decide +kernel
theorem d_Mod_init_99 : decode b_Mod_init 99 = .ok (.putfield 43, 3) := by decide +kernel
theorem d_Mod_init_102 : decode b_Mod_init 102 = .ok (.aload_n 0, 1) := by decide +kernel
theorem d_Mod_init_103 : decode b_Mod_init 103 = .ok (.bipush 120, 2) := by decide +kernel
theorem d_Mod_init_105 : decode b_Mod_init 105 = .ok (.newarray .int, 2) := by decide +kernel
theorem d_Mod_init_107 : decode b_Mod_init 107 = .ok (.putfield 46, 3) := by decide +kernel
theorem d_Mod_init_110 : decode b_Mod_init 110 = .ok (.aload_n 0, 1) := by decide +kernel
theorem d_Mod_init_111 : decode b_Mod_init 111 = .ok (.bipush 120, 2) := by decide +kernel
theorem d_Mod_init_113 : decode b_Mod_init 113 = .ok (.newarray .int, 2) := by decide +kernel
theorem d_Mod_init_115 : decode b_Mod_init 115 = .ok (.putfield 49, 3) := by decide +kernel
theorem d_Mod_init_118 : decode b_Mod_init 118 = .ok (.aload_n 0, 1) := by decide +kernel
theorem d_Mod_init_119 : decode b_Mod_init 119 = .ok (.bipush 120, 2) := by decide +kernel
theorem d_Mod_init_121 : decode b_Mod_init 121 = .ok (.newarray .int, 2) := by decide +kernel
theorem d_Mod_init_123 : decode b_Mod_init 123 = .ok (.putfield 52, 3) := by decide +kernel
theorem d_Mod_init_126 : decode b_Mod_init 126 = .ok (.aload_n 0, 1) := by decide +kernel
theorem d_Mod_init_127 : decode b_Mod_init 127 = .ok (.bipush 120, 2) := by decide +kernel
theorem d_Mod_init_129 : decode b_Mod_init 129 = .ok (.newarray .int, 2) := by decide +kernel
theorem d_Mod_init_131 : decode b_Mod_init 131 = .ok (.putfield 55, 3) := by decide +kernel
theorem d_Mod_init_134 : decode b_Mod_init 134 = .ok (.aload_n 0, 1) := by decide +kernel
theorem d_Mod_init_135 : decode b_Mod_init 135 = .ok (.bipush 120, 2) := by decide +kernel
theorem d_Mod_init_137 : decode b_Mod_init 137 = .ok (.newarray .int, 2) := by decide +kernel
theorem d_Mod_init_139 : decode b_Mod_init 139 = .ok (.putfield 58, 3) := by decide +kernel
theorem d_Mod_init_142 : decode b_Mod_init 142 = .ok (.aload_n 0, 1) := by decide +kernel
theorem d_Mod_init_143 : decode b_Mod_init 143 = .ok (.bipush 121, 2) := by decide +kernel
theorem d_Mod_init_145 : decode b_Mod_init 145 = .ok (.newarray .boolean, 2) := by decide +kernel
theorem d_Mod_init_147 : decode b_Mod_init 147 = .ok (.putfield 61, 3) := by decide +kernel
theorem d_Mod_init_150 : decode b_Mod_init 150 = .ok (.aload_n 0, 1) := by decide +kernel
theorem d_Mod_init_151 : decode b_Mod_init 151 = .ok (.bipush 26, 2) := by decide +kernel
theorem d_Mod_init_153 : decode b_Mod_init 153 = .ok (.newarray .int, 2) := by decide +kernel
theorem d_Mod_init_155 : decode b_Mod_init 155 = .ok (.putfield 65, 3) := by decide +kernel
theorem d_Mod_init_158 : decode b_Mod_init 158 = .ok (.aload_n 0, 1) := by decide +kernel
theorem d_Mod_init_159 : decode b_Mod_init 159 = .ok (.bipush 26, 2) := by decide +kernel
theorem d_Mod_init_161 : decode b_Mod_init 161 = .ok (.newarray .int, 2) := by decide +kernel
theorem d_Mod_init_163 : decode b_Mod_init 163 = .ok (.putfield 68, 3) := by decide +kernel
theorem d_Mod_init_166 : decode b_Mod_init 166 = .ok (.aload_n 0, 1) := by decide +kernel
theorem d_Mod_init_167 : decode b_Mod_init 167 = .ok (.bipush 26, 2) := by decide +kernel
theorem d_Mod_init_169 : decode b_Mod_init 169 = .ok (.newarray .int, 2) := by decide +kernel
theorem d_Mod_init_171 : decode b_Mod_init 171 = .ok (.putfield 71, 3) := by decide +kernel
theorem d_Mod_init_174 : decode b_Mod_init 174 = .ok (.aload_n 0, 1) := by decide +kernel
theorem d_Mod_init_175 : decode b_Mod_init 175 = .ok (.bipush 26, 2) := by decide +kernel
theorem d_Mod_init_177 : decode b_Mod_init 177 = .ok (.newarray .long, 2) := by decide +kernel
theorem d_Mod_init_179 : decode b_Mod_init 179 = .ok (.putfield 74, 3) := by decide +kernel
theorem d_Mod_init_182 : decode b_Mod_init 182 = .ok (.aload_n 0, 1) := by decide +kernel
theorem d_Mod_init_183 : decode b_Mod_init 183 = .ok (.bipush 26, 2) := by decide +kernel
theorem d_Mod_init_185 : decode b_Mod_init 185 = .ok (.newarray .int, 2) := by decide +kernel
theorem d_Mod_init_187 : decode b_Mod_init 187 = .ok (.putfield 78, 3) := by decide +kernel
theorem d_Mod_init_190 : decode b_Mod_init 190 = .ok (.aload_n 0, 1) := by decide +kernel
theorem d_Mod_init_191 : decode b_Mod_init 191 = .ok (.bipush 26, 2) := by decide +kernel
theorem d_Mod_init_193 : decode b_Mod_init 193 = .ok (.newarray .int, 2) := by decide +kernel
theorem d_Mod_init_195 : decode b_Mod_init 195 = .ok (.putfield 81, 3) := by decide +kernel
theorem d_Mod_init_198 : decode b_Mod_init 198 = .ok (.aload_n 0, 1) := by decide +kernel
theorem d_Mod_init_199 : decode b_Mod_init 199 = .ok (.bipush 25, 2) := by decide +kernel
theorem d_Mod_init_201 : decode b_Mod_init 201 = .ok (.newarray .int, 2) := by decide +kernel
theorem d_Mod_init_203 : decode b_Mod_init 203 = .ok (.putfield 84, 3) := by decide +kernel
theorem d_Mod_init_206 : decode b_Mod_init 206 = .ok (.aload_n 0, 1) := by decide +kernel
theorem d_Mod_init_207 : decode b_Mod_init 207 = .ok (.bipush 25, 2) := by decide +kernel
theorem d_Mod_init_209 : decode b_Mod_init 209 = .ok (.newarray .int, 2) := by decide +kernel
theorem d_Mod_init_211 : decode b_Mod_init 211 = .ok (.putfield 87, 3) := by decide +kernel
theorem d_Mod_init_214 : decode b_Mod_init 214 = .ok (.aload_n 0, 1) := by decide +kernel
theorem d_Mod_init_215 : decode b_Mod_init 215 = .ok (.bipush 25, 2) := by decide +kernel
theorem d_Mod_init_217 : decode b_Mod_init 217 = .ok (.newarray .int, 2) := by decide +kernel
theorem d_Mod_init_219 : decode b_Mod_init 219 = .ok (.putfield 90, 3) := by decide +kernel
theorem d_Mod_init_222 : decode b_Mod_init 222 = .ok (.aload_n 0, 1) := by decide +kernel
theorem d_Mod_init_223 : decode b_Mod_init 223 = .ok (.bipush 25, 2) := by decide +kernel
theorem d_Mod_init_225 : decode b_Mod_init 225 = .ok (.newarray .int, 2) := by decide +kernel
theorem d_Mod_init_227 : decode b_Mod_init 227 = .ok (.putfield 93, 3) := by decide +kernel
theorem d_Mod_init_230 : decode b_Mod_init 230 = .ok (.aload_n 0, 1) := by decide +kernel
theorem d_Mod_init_231 : decode b_Mod_init 231 = .ok (.bipush 25, 2) := by decide +kernel
theorem d_Mod_init_233 : decode b_Mod_init 233 = .ok (.newarray .int, 2) := by decide +kernel
theorem d_Mod_init_235 : decode b_Mod_init 235 = .ok (.putfield 96, 3) := by decide +kernel
theorem d_Mod_init_238 : decode b_Mod_init 238 = .ok (.aload_n 0, 1) := by decide +kernel
theorem d_Mod_init_239 : decode b_Mod_init 239 = .ok (.bipush 25, 2) := by decide +kernel
theorem d_Mod_init_241 : decode b_Mod_init 241 = .ok (.newarray .int, 2) := by decide +kernel
theorem d_Mod_init_243 : decode b_Mod_init 243 = .ok (.putfield 99, 3) := by decide +kernel
theorem d_Mod_init_246 : decode b_Mod_init 246 = .ok (.aload_n 0, 1) := by decide +kernel
theorem d_Mod_init_247 : decode b_Mod_init 247 = .ok (.bipush 25, 2) := by decide +kernel
theorem d_Mod_init_249 : decode b_Mod_init 249 = .ok (.newarray .int, 2) := by decide +kernel
theorem d_Mod_init_251 : decode b_Mod_init 251 = .ok (.putfield 102, 3) := by decide +kernel
theorem d_Mod_init_254 : decode b_Mod_init 254 = .ok (.aload_n 0, 1) := by decide +kernel
theorem d_Mod_init_255 : decode b_Mod_init 255 = .ok (.bipush 25, 2) := by decide +kernel
theorem d_Mod_init_257 : decode b_Mod_init 257 = .ok (.newarray .int, 2) := by decide +kernel
theorem d_Mod_init_259 : decode b_Mod_init 259 = .ok (.putfield 105, 3) := by decide +kernel
theorem d_Mod_init_262 : decode b_Mod_init 262 = .ok (.aload_n 0, 1) := by decide +kernel
theorem d_Mod_init_263 : decode b_Mod_init 263 = .ok (.bipush 25, 2) := by decide +kernel
theorem d_Mod_init_265 : decode b_Mod_init 265 = .ok (.newarray .int, 2) := by decide +kernel
theorem d_Mod_init_267 : decode b_Mod_init 267 = .ok (.putfield 108, 3) := by decide +kernel
theorem d_Mod_init_270 : decode b_Mod_init 270 = .ok (.iconst 0, 1) := by decide +kernel
theorem d_Mod_init_271 : decode b_Mod_init 271 = .ok (.istore_n 1, 1) := by decide +kernel
theorem d_Mod_init_272 : decode b_Mod_init 272 = .ok (.iload_n 1, 1) := by decide +kernel
theorem d_Mod_init_273 : decode b_Mod_init 273 = .ok (.sipush 128, 3) := by decide +kernel
theorem d_Mod_init_276 : decode b_Mod_init 276 = .ok (.if_icmp .ge 16, 3) := by decide +kernel
theorem d_Mod_init_279 : decode b_Mod_init 279 = .ok (.aload_n 0, 1) := by decide +kernel
theorem d_Mod_init_280 : decode b_Mod_init 280 = .ok (.getfield 13, 3) := by decide +kernel
theorem d_Mod_init_283 : decode b_Mod_init 283 = .ok (.iload_n 1, 1) := by decide +kernel
theorem d_Mod_init_284 : decode b_Mod_init 284 = .ok (.iconst 5, 1) := by decide +kernel
theorem d_Mod_init_285 : decode b_Mod_init 285 = .ok (.iastore, 1) := by decide +kernel
theorem d_Mod_init_286 : decode b_Mod_init 286 = .ok (.iinc 1 1, 3) := by decide +kernel
theorem d_Mod_init_289 : decode b_Mod_init 289 = .ok (.goto (-17), 3) := by decide +kernel
theorem d_Mod_init_292 : decode b_Mod_init 292 = .ok (.aload_n 0, 1) := by decide +kernel
theorem d_Mod_init_293 : decode b_Mod_init 293 = .ok (.getfield 16, 3) := by decide +kernel
theorem d_Mod_init_296 : decode b_Mod_init 296 = .ok (.iconst 0, 1) := by decide +kernel
theorem d_Mod_init_297 : decode b_Mod_init 297 = .ok (.bipush 60, 2) := by decide +kernel
theorem d_Mod_init_299 : decode b_Mod_init 299 = .ok (.iastore, 1) := by decide +kernel
theorem d_Mod_init_300 : decode b_Mod_init 300 = .ok (.aload_n 0, 1) := by decide +kernel
theorem d_Mod_init_301 : decode b_Mod_init 301 = .ok (.getfield 16, 3) := by decide +kernel
theorem d_Mod_init_304 : decode b_Mod_init 304 = .ok (.iconst 1, 1) := by decide +kernel
theorem d_Mod_init_305 : decode b_Mod_init 305 = .ok (.sipush 200, 3) := by decide +kernel
theorem d_Mod_init_308 : decode b_Mod_init 308 = .ok (.iastore, 1) := by decide +kernel
theorem d_Mod_init_309 : decode b_Mod_init 309 = .ok (.aload_n 0, 1) := by decide +kernel
theorem d_Mod_init_310 : decode b_Mod_init 310 = .ok (.getfield 16, 3) := by decide +kernel
theorem d_Mod_init_313 : decode b_Mod_init 313 = .ok (.iconst 2, 1) := by decide +kernel
theorem d_Mod_init_314 : decode b_Mod_init 314 = .ok (.bipush 10, 2) := by decide +kernel
theorem d_Mod_init_316 : decode b_Mod_init 316 = .ok (.iastore, 1) := by decide +kernel
theorem d_Mod_init_317 : decode b_Mod_init 317 = .ok (.aload_n 0, 1) := by decide +kernel
theorem d_Mod_init_318 : decode b_Mod_init 318 = .ok (.getfield 16, 3) := by decide +kernel
theorem d_Mod_init_321 : decode b_Mod_init 321 = .ok (.iconst 3, 1) := by decide +kernel
theorem d_Mod_init_322 : decode b_Mod_init 322 = .ok (.bipush 50, 2) := by decide +kernel
theorem d_Mod_init_324 : decode b_Mod_init 324 = .ok (.iastore, 1) := by decide +kernel
theorem d_Mod_init_325 : decode b_Mod_init 325 = .ok (.iconst 0, 1) := by decide +kernel
theorem d_Mod_init_326 : decode b_Mod_init 326 = .ok (.istore_n 1, 1) := by decide +kernel
theorem d_Mod_init_327 : decode b_Mod_init 327 = .ok (.iload_n 1, 1) := by decide +kernel
theorem d_Mod_init_328 : decode b_Mod_init 328 = .ok (.iconst 4, 1) := by decide +kernel
theorem d_Mod_init_329 : decode b_Mod_init 329 = .ok (.if_icmp .ge 16, 3) := by decide +kernel
theorem d_Mod_init_332 : decode b_Mod_init 332 = .ok (.aload_n 0, 1) := by decide +kernel
theorem d_Mod_init_333 : decode b_Mod_init 333 = .ok (.getfield 22, 3) := by decide +kernel
theorem d_Mod_init_336 : decode b_Mod_init 336 = .ok (.iload_n 1, 1) := by decide +kernel
theorem d_Mod_init_337 : decode b_Mod_init 337 = .ok (.iconst (-1), 1) := by decide +kernel
theorem d_Mod_init_338 : decode b_Mod_init 338 = .ok (.iastore, 1) := by decide +kernel
theorem d_Mod_init_339 : decode b_Mod_init 339 = .ok (.iinc 1 1, 3) := by decide +kernel
theorem d_Mod_init_342 : decode b_Mod_init 342 = .ok (.goto (-15), 3) := by decide +kernel
theorem d_Mod_init_345 : decode b_Mod_init 345 = .ok (.return_, 1) := by decide +kernel
theorem d_Mod_type_0 : decode b_Mod_type 0 = .ok (.iload_n 1, 1) := by decide +kernel
theorem d_Mod_type_1 : decode b_Mod_type 1 = .ok (.bipush 32, 2) := by decide +kernel
theorem d_Mod_type_3 : decode b_Mod_type 3 = .ok (.if_icmp .eq 51, 3) := by decide +kernel
theorem d_Mod_type_6 : decode b_Mod_type 6 = .ok (.iload_n 1, 1) := by decide +kernel
theorem d_Mod_type_7 : decode b_Mod_type 7 = .ok (.bipush 45, 2) := by decide +kernel
theorem d_Mod_type_9 : decode b_Mod_type 9 = .ok (.if_icmp .eq 45, 3) := by decide +kernel
theorem d_Mod_type_12 : decode b_Mod_type 12 = .ok (.iload_n 1, 1) := by decide +kernel
theorem d_Mod_type_13 : decode b_Mod_type 13 = .ok (.bipush 126, 2) := by decide +kernel
theorem d_Mod_type_15 : decode b_Mod_type 15 = .ok (.if_icmp .eq 39, 3) := by decide +kernel
theorem d_Mod_type_18 : decode b_Mod_type 18 = .ok (.iload_n 1, 1) := by decide +kernel
theorem d_Mod_type_19 : decode b_Mod_type 19 = .ok (.bipush 124, 2) := by decide +kernel
theorem d_Mod_type_21 : decode b_Mod_type 21 = .ok (.if_icmp .eq 33, 3) := by decide +kernel
theorem d_Mod_type_24 : decode b_Mod_type 24 = .ok (.iload_n 1, 1) := by decide +kernel
theorem d_Mod_type_25 : decode b_Mod_type 25 = .ok (.bipush 123, 2) := by decide +kernel
theorem d_Mod_type_27 : decode b_Mod_type 27 = .ok (.if_icmp .eq 27, 3) := by decide +kernel
theorem d_Mod_type_30 : decode b_Mod_type 30 = .ok (.iload_n 1, 1) := by decide +kernel
theorem d_Mod_type_31 : decode b_Mod_type 31 = .ok (.bipush 125, 2) := by decide +kernel
theorem d_Mod_type_33 : decode b_Mod_type 33 = .ok (.if_icmp .eq 21, 3) := by decide +kernel
theorem d_Mod_type_36 : decode b_Mod_type 36 = .ok (.iload_n 1, 1) := by decide +kernel
theorem d_Mod_type_37 : decode b_Mod_type 37 = .ok (.bipush 35, 2) := by decide +kernel
theorem d_Mod_type_39 : decode b_Mod_type 39 = .ok (.if_icmp .eq 15, 3) := by decide +kernel
theorem d_Mod_type_42 : decode b_Mod_type 42 = .ok (.iload_n 1, 1) := by decide +kernel
theorem d_Mod_type_43 : decode b_Mod_type 43 = .ok (.bipush 61, 2) := by decide +kernel
theorem d_Mod_type_45 : decode b_Mod_type 45 = .ok (.if_icmp .eq 9, 3) := by decide +kernel
theorem d_Mod_type_48 : decode b_Mod_type 48 = .ok (.iload_n 1, 1) := by decide +kernel
theorem d_Mod_type_49 : decode b_Mod_type 49 = .ok (.bipush 46, 2) := by decide +kernel
theorem d_Mod_type_51 : decode b_Mod_type 51 = .ok (.if_icmp .ne 7, 3) := by decide +kernel
theorem d_Mod_type_54 : decode b_Mod_type 54 = .ok (.iconst 1, 1) := by decide +kernel
theorem d_Mod_type_55 : decode b_Mod_type 55 = .ok (.goto 4, 3) := by decide +kernel
theorem d_Mod_type_58 : decode b_Mod_type 58 = .ok (.iconst 0, 1) := by decide +kernel
theorem d_Mod_type_59 : decode b_Mod_type 59 = .ok (.istore_n 2, 1) := by decide +kernel
theorem d_Mod_type_60 : decode b_Mod_type 60 = .ok (.iload_n 1, 1) := by decide +kernel
theorem d_Mod_type_61 : decode b_Mod_type 61 = .ok (.invokestatic 111, 3) := by decide +kernel
theorem d_Mod_type_64 : decode b_Mod_type 64 = .ok (.ifCond .ne 28, 3) := by decide +kernel
theorem d_Mod_type_67 : decode b_Mod_type 67 = .ok (.iload_n 1, 1) := by decide +kernel
theorem d_Mod_type_68 : decode b_Mod_type 68 = .ok (.invokestatic 115, 3) := by decide +kernel
theorem d_Mod_type_71 : decode b_Mod_type 71 = .ok (.ifCond .ne 21, 3) := by decide +kernel
theorem d_Mod_type_74 : decode b_Mod_type 74 = .ok (.iload_n 2, 1) := by decide +kernel
theorem d_Mod_type_75 : decode b_Mod_type 75 = .ok (.ifCond .ne 17, 3) := by decide +kernel
theorem d_Mod_type_78 : decode b_Mod_type 78 = .ok (.iload_n 1, 1) := by decide +kernel
theorem d_Mod_type_79 : decode b_Mod_type 79 = .ok (.bipush 65, 2) := by decide +kernel
theorem d_Mod_type_81 : decode b_Mod_type 81 = .ok (.if_icmp .lt 9, 3) := by decide +kernel
theorem d_Mod_type_84 : decode b_Mod_type 84 = .ok (.iload_n 1, 1) := by decide +kernel
theorem d_Mod_type_85 : decode b_Mod_type 85 = .ok (.bipush 68, 2) := by decide +kernel
theorem d_Mod_type_87 : decode b_Mod_type 87 = .ok (.if_icmp .le 5, 3) := by decide +kernel
theorem d_Mod_type_90 : decode b_Mod_type 90 = .ok (.iconst (-1), 1) := by decide +kernel
theorem d_Mod_type_91 : decode b_Mod_type 91 = .ok (.ireturn, 1) := by decide +kernel
theorem d_Mod_type_92 : decode b_Mod_type 92 = .ok (.aload_n 0, 1) := by decide +kernel
theorem d_Mod_type_93 : decode b_Mod_type 93 = .ok (.getfield 118, 3) := by decide +kernel
theorem d_Mod_type_96 : decode b_Mod_type 96 = .ok (.bipush 60, 2) := by decide +kernel
theorem d_Mod_type_98 : decode b_Mod_type 98 = .ok (.if_icmp .ne 6, 3) := by decide +kernel
theorem d_Mod_type_101 : decode b_Mod_type 101 = .ok (.bipush (-2), 2) := by decide +kernel
theorem d_Mod_type_103 : decode b_Mod_type 103 = .ok (.ireturn, 1) := by decide +kernel
theorem d_Mod_type_104 : decode b_Mod_type 104 = .ok (.aload_n 0, 1) := by decide +kernel
theorem d_Mod_type_105 : decode b_Mod_type 105 = .ok (.getfield 7, 3) := by decide +kernel
theorem d_Mod_type_108 : decode b_Mod_type 108 = .ok (.aload_n 0, 1) := by decide +kernel
theorem d_Mod_type_109 : decode b_Mod_type 109 = .ok (.getfield 118, 3) := by decide +kernel
theorem d_Mod_type_112 : decode b_Mod_type 112 = .ok (.iload_n 1, 1) := by decide +kernel
theorem d_Mod_type_113 : decode b_Mod_type 113 = .ok (.iastore, 1) := by decide +kernel
theorem d_Mod_type_114 : decode b_Mod_type 114 = .ok (.aload_n 0, 1) := by decide +kernel
theorem d_Mod_type_115 : decode b_Mod_type 115 = .ok (.dup, 1) := by decide +kernel
theorem d_Mod_type_116 : decode b_Mod_type 116 = .ok (.getfield 118, 3) := by decide +kernel
theorem d_Mod_type_119 : decode b_Mod_type 119 = .ok (.iconst 1, 1) := by decide +kernel
theorem d_Mod_type_120 : decode b_Mod_type 120 = .ok (.iadd, 1) := by decide +kernel
theorem d_Mod_type_121 : decode b_Mod_type 121 = .ok (.putfield 118, 3) := by decide +kernel
theorem d_Mod_type_124 : decode b_Mod_type 124 = .ok (.aload_n 0, 1) := by decide +kernel
theorem d_Mod_type_125 : decode b_Mod_type 125 = .ok (.getfield 118, 3) := by decide +kernel
theorem d_Mod_type_128 : decode b_Mod_type 128 = .ok (.ireturn, 1) := by decide +kernel
theorem d_Mod_letter_0 : decode b_Mod_letter 0 = .ok (.iload_n 0, 1) := by decide +kernel
theorem d_Mod_letter_1 : decode b_Mod_letter 1 = .ok (.bipush 97, 2) := by decide +kernel
theorem d_Mod_letter_3 : decode b_Mod_letter 3 = .ok (.if_icmp .lt 13, 3) := by decide +kernel
theorem d_Mod_letter_6 : decode b_Mod_letter 6 = .ok (.iload_n 0, 1) := by decide +kernel
theorem d_Mod_letter_7 : decode b_Mod_letter 7 = .ok (.bipush 122, 2) := by decide +kernel
theorem d_Mod_letter_9 : decode b_Mod_letter 9 = .ok (.if_icmp .gt 7, 3) := by decide +kernel
theorem d_Mod_letter_12 : decode b_Mod_letter 12 = .ok (.iconst 1, 1) := by decide +kernel
theorem d_Mod_letter_13 : decode b_Mod_letter 13 = .ok (.goto 4, 3) := by decide +kernel
theorem d_Mod_letter_16 : decode b_Mod_letter 16 = .ok (.iconst 0, 1) := by decide +kernel
theorem d_Mod_letter_17 : decode b_Mod_letter 17 = .ok (.ireturn, 1) := by decide +kernel
theorem d_Mod_digit_0 : decode b_Mod_digit 0 = .ok (.iload_n 0, 1) := by decide +kernel
theorem d_Mod_digit_1 : decode b_Mod_digit 1 = .ok (.bipush 48, 2) := by decide +kernel
theorem d_Mod_digit_3 : decode b_Mod_digit 3 = .ok (.if_icmp .lt 13, 3) := by decide +kernel
theorem d_Mod_digit_6 : decode b_Mod_digit 6 = .ok (.iload_n 0, 1) := by decide +kernel
theorem d_Mod_digit_7 : decode b_Mod_digit 7 = .ok (.bipush 57, 2) := by decide +kernel
theorem d_Mod_digit_9 : decode b_Mod_digit 9 = .ok (.if_icmp .gt 7, 3) := by decide +kernel
theorem d_Mod_digit_12 : decode b_Mod_digit 12 = .ok (.iconst 1, 1) := by decide +kernel
theorem d_Mod_digit_13 : decode b_Mod_digit 13 = .ok (.goto 4, 3) := by decide +kernel
theorem d_Mod_digit_16 : decode b_Mod_digit 16 = .ok (.iconst 0, 1) := by decide +kernel
theorem d_Mod_digit_17 : decode b_Mod_digit 17 = .ok (.ireturn, 1) := by decide +kernel
theorem d_Mod_wipe_0 : decode b_Mod_wipe 0 = .ok (.aload_n 0, 1) := by decide +kernel
theorem d_Mod_wipe_1 : decode b_Mod_wipe 1 = .ok (.iconst 0, 1) := by decide +kernel
theorem d_Mod_wipe_2 : decode b_Mod_wipe 2 = .ok (.putfield 118, 3) := by decide +kernel
theorem d_Mod_wipe_5 : decode b_Mod_wipe 5 = .ok (.iconst 0, 1) := by decide +kernel
theorem d_Mod_wipe_6 : decode b_Mod_wipe 6 = .ok (.ireturn, 1) := by decide +kernel
theorem d_Mod_width_0 : decode b_Mod_width 0 = .ok (.iload_n 1, 1) := by decide +kernel
theorem d_Mod_width_1 : decode b_Mod_width 1 = .ok (.invokestatic 111, 3) := by decide +kernel
theorem d_Mod_width_4 : decode b_Mod_width 4 = .ok (.ifCond .ne 9, 3) := by decide +kernel
theorem d_Mod_width_7 : decode b_Mod_width 7 = .ok (.iload_n 1, 1) := by decide +kernel
theorem d_Mod_width_8 : decode b_Mod_width 8 = .ok (.bipush 45, 2) := by decide +kernel
theorem d_Mod_width_10 : decode b_Mod_width 10 = .ok (.if_icmp .ne 14, 3) := by decide +kernel
theorem d_Mod_width_13 : decode b_Mod_width 13 = .ok (.iload_n 2, 1) := by decide +kernel
theorem d_Mod_width_14 : decode b_Mod_width 14 = .ok (.iconst 1, 1) := by decide +kernel
theorem d_Mod_width_15 : decode b_Mod_width 15 = .ok (.if_icmp .lt 9, 3) := by decide +kernel
theorem d_Mod_width_18 : decode b_Mod_width 18 = .ok (.iload_n 2, 1) := by decide +kernel
theorem d_Mod_width_19 : decode b_Mod_width 19 = .ok (.bipush 20, 2) := by decide +kernel
theorem d_Mod_width_21 : decode b_Mod_width 21 = .ok (.if_icmp .le 5, 3) := by decide +kernel
theorem d_Mod_width_24 : decode b_Mod_width 24 = .ok (.iconst (-1), 1) := by decide +kernel
theorem d_Mod_width_25 : decode b_Mod_width 25 = .ok (.ireturn, 1) := by decide +kernel
theorem d_Mod_width_26 : decode b_Mod_width 26 = .ok (.aload_n 0, 1) := by decide +kernel
theorem d_Mod_width_27 : decode b_Mod_width 27 = .ok (.getfield 13, 3) := by decide +kernel
theorem d_Mod_width_30 : decode b_Mod_width 30 = .ok (.iload_n 1, 1) := by decide +kernel
theorem d_Mod_width_31 : decode b_Mod_width 31 = .ok (.iload_n 2, 1) := by decide +kernel
theorem d_Mod_width_32 : decode b_Mod_width 32 = .ok (.iastore, 1) := by decide +kernel
theorem d_Mod_width_33 : decode b_Mod_width 33 = .ok (.iconst 0, 1) := by decide +kernel
theorem d_Mod_width_34 : decode b_Mod_width 34 = .ok (.ireturn, 1) := by decide +kernel
theorem d_Mod_parameter_0 : decode b_Mod_parameter 0 = .ok (.iload_n 1, 1) := by decide +kernel
theorem d_Mod_parameter_1 : decode b_Mod_parameter 1 = .ok (.ifCond .lt 8, 3) := by decide +kernel
theorem d_Mod_parameter_4 : decode b_Mod_parameter 4 = .ok (.iload_n 1, 1) := by decide +kernel
theorem d_Mod_parameter_5 : decode b_Mod_parameter 5 = .ok (.iconst 4, 1) := by decide +kernel
theorem d_Mod_parameter_6 : decode b_Mod_parameter 6 = .ok (.if_icmp .le 5, 3) := by decide +kernel
theorem d_Mod_parameter_9 : decode b_Mod_parameter 9 = .ok (.iconst (-1), 1) := by decide +kernel
theorem d_Mod_parameter_10 : decode b_Mod_parameter 10 = .ok (.ireturn, 1) := by decide +kernel
theorem d_Mod_parameter_11 : decode b_Mod_parameter 11 = .ok (.iload_n 1, 1) := by decide +kernel
theorem d_Mod_parameter_12 : decode b_Mod_parameter 12 = .ok (.ifCond .ne 8, 3) := by decide +kernel
theorem d_Mod_parameter_15 : decode b_Mod_parameter 15 = .ok (.bipush 10, 2) := by decide +kernel
theorem d_Mod_parameter_17 : decode b_Mod_parameter 17 = .ok (.goto 4, 3) := by decide +kernel
theorem d_Mod_parameter_20 : decode b_Mod_parameter 20 = .ok (.iconst 0, 1) := by decide +kernel
theorem d_Mod_parameter_21 : decode b_Mod_parameter 21 = .ok (.istore_n 3, 1) := by decide +kernel
theorem d_Mod_parameter_22 : decode b_Mod_parameter 22 = .ok (.iload_n 1, 1) := by decide +kernel
theorem d_Mod_parameter_23 : decode b_Mod_parameter 23 = .ok (.ifCond .ne 9, 3) := by decide +kernel
theorem d_Mod_parameter_26 : decode b_Mod_parameter 26 = .ok (.sipush 400, 3) := by decide +kernel
theorem d_Mod_parameter_29 : decode b_Mod_parameter 29 = .ok (.goto 27, 3) := by decide +kernel
theorem d_Mod_parameter_32 : decode b_Mod_parameter 32 = .ok (.iload_n 1, 1) := by decide +kernel
theorem d_Mod_parameter_33 : decode b_Mod_parameter 33 = .ok (.iconst 2, 1) := by decide +kernel
theorem d_Mod_parameter_34 : decode b_Mod_parameter 34 = .ok (.if_icmp .ne 8, 3) := by decide +kernel
theorem d_Mod_parameter_37 : decode b_Mod_parameter 37 = .ok (.bipush 100, 2) := by decide +kernel
theorem d_Mod_parameter_39 : decode b_Mod_parameter 39 = .ok (.goto 17, 3) := by decide +kernel
theorem d_Mod_parameter_42 : decode b_Mod_parameter 42 = .ok (.iload_n 1, 1) := by decide +kernel
theorem d_Mod_parameter_43 : decode b_Mod_parameter 43 = .ok (.iconst 3, 1) := by decide +kernel
theorem d_Mod_parameter_44 : decode b_Mod_parameter 44 = .ok (.if_icmp .ne 9, 3) := by decide +kernel
theorem d_Mod_parameter_47 : decode b_Mod_parameter 47 = .ok (.sipush 200, 3) := by decide +kernel
theorem d_Mod_parameter_50 : decode b_Mod_parameter 50 = .ok (.goto 6, 3) := by decide +kernel
theorem d_Mod_parameter_53 : decode b_Mod_parameter 53 = .ok (.sipush 10000, 3) := by decide +kernel
theorem d_Mod_parameter_56 : decode b_Mod_parameter 56 = .ok (.istore 4, 2) := by decide +kernel
theorem d_Mod_parameter_58 : decode b_Mod_parameter 58 = .ok (.iload_n 2, 1) := by decide +kernel
theorem d_Mod_parameter_59 : decode b_Mod_parameter 59 = .ok (.iload_n 3, 1) := by decide +kernel
theorem d_Mod_parameter_60 : decode b_Mod_parameter 60 = .ok (.if_icmp .lt 9, 3) := by decide +kernel
theorem d_Mod_parameter_63 : decode b_Mod_parameter 63 = .ok (.iload_n 2, 1) := by decide +kernel
theorem d_Mod_parameter_64 : decode b_Mod_parameter 64 = .ok (.iload 4, 2) := by decide +kernel
theorem d_Mod_parameter_66 : decode b_Mod_parameter 66 = .ok (.if_icmp .le 5, 3) := by decide +kernel
theorem d_Mod_parameter_69 : decode b_Mod_parameter 69 = .ok (.iconst (-1), 1) := by decide +kernel
theorem d_Mod_parameter_70 : decode b_Mod_parameter 70 = .ok (.ireturn, 1) := by decide +kernel
theorem d_Mod_parameter_71 : decode b_Mod_parameter 71 = .ok (.aload_n 0, 1) := by decide +kernel
theorem d_Mod_parameter_72 : decode b_Mod_parameter 72 = .ok (.getfield 16, 3) := by decide +kernel
theorem d_Mod_parameter_75 : decode b_Mod_parameter 75 = .ok (.iload_n 1, 1) := by decide +kernel
theorem d_Mod_parameter_76 : decode b_Mod_parameter 76 = .ok (.iload_n 2, 1) := by decide +kernel
theorem d_Mod_parameter_77 : decode b_Mod_parameter 77 = .ok (.iastore, 1) := by decide +kernel
theorem d_Mod_parameter_78 : decode b_Mod_parameter 78 = .ok (.iconst 0, 1) := by decide +kernel
theorem d_Mod_parameter_79 : decode b_Mod_parameter 79 = .ok (.ireturn, 1) := by decide +kernel
theorem d_Mod_define_0 : decode b_Mod_define 0 = .ok (.iload_n 1, 1) := by decide +kernel
theorem d_Mod_define_1 : decode b_Mod_define 1 = .ok (.ifCond .lt 8, 3) := by decide +kernel
theorem d_Mod_define_4 : decode b_Mod_define 4 = .ok (.iload_n 1, 1) := by decide +kernel
theorem d_Mod_define_5 : decode b_Mod_define 5 = .ok (.iconst 3, 1) := by decide +kernel
theorem d_Mod_define_6 : decode b_Mod_define 6 = .ok (.if_icmp .le 5, 3) := by decide +kernel
theorem d_Mod_define_9 : decode b_Mod_define 9 = .ok (.iconst (-1), 1) := by decide +kernel
theorem d_Mod_define_10 : decode b_Mod_define 10 = .ok (.ireturn, 1) := by decide +kernel
theorem d_Mod_define_11 : decode b_Mod_define 11 = .ok (.aload_n 0, 1) := by decide +kernel
theorem d_Mod_define_12 : decode b_Mod_define 12 = .ok (.getfield 118, 3) := by decide +kernel
theorem d_Mod_define_15 : decode b_Mod_define 15 = .ok (.bipush 24, 2) := by decide +kernel
theorem d_Mod_define_17 : decode b_Mod_define 17 = .ok (.if_icmp .le 6, 3) := by decide +kernel
theorem d_Mod_define_20 : decode b_Mod_define 20 = .ok (.bipush (-2), 2) := by decide +kernel
theorem d_Mod_define_22 : decode b_Mod_define 22 = .ok (.ireturn, 1) := by decide +kernel
theorem d_Mod_define_23 : decode b_Mod_define 23 = .ok (.iconst 0, 1) := by decide +kernel
theorem d_Mod_define_24 : decode b_Mod_define 24 = .ok (.istore_n 2, 1) := by decide +kernel
theorem d_Mod_define_25 : decode b_Mod_define 25 = .ok (.iload_n 2, 1) := by decide +kernel
theorem d_Mod_define_26 : decode b_Mod_define 26 = .ok (.aload_n 0, 1) := by decide +kernel
theorem d_Mod_define_27 : decode b_Mod_define 27 = .ok (.getfield 118, 3) := by decide +kernel
theorem d_Mod_define_30 : decode b_Mod_define 30 = .ok (.if_icmp .ge 26, 3) := by decide +kernel
theorem d_Mod_define_33 : decode b_Mod_define 33 = .ok (.aload_n 0, 1) := by decide +kernel
theorem d_Mod_define_34 : decode b_Mod_define 34 = .ok (.getfield 19, 3) := by decide +kernel
theorem d_Mod_define_37 : decode b_Mod_define 37 = .ok (.iload_n 1, 1) := by decide +kernel
theorem d_Mod_define_38 : decode b_Mod_define 38 = .ok (.bipush 24, 2) := by decide +kernel
theorem d_Mod_define_40 : decode b_Mod_define 40 = .ok (.imul, 1) := by decide +kernel
theorem d_Mod_define_41 : decode b_Mod_define 41 = .ok (.iload_n 2, 1) := by decide +kernel
theorem d_Mod_define_42 : decode b_Mod_define 42 = .ok (.iadd, 1) := by decide +kernel
theorem d_Mod_define_43 : decode b_Mod_define 43 = .ok (.aload_n 0, 1) := by decide +kernel
theorem d_Mod_define_44 : decode b_Mod_define 44 = .ok (.getfield 7, 3) := by decide +kernel
theorem d_Mod_define_47 : decode b_Mod_define 47 = .ok (.iload_n 2, 1) := by decide +kernel
theorem d_Mod_define_48 : decode b_Mod_define 48 = .ok (.iaload, 1) := by decide +kernel
theorem d_Mod_define_49 : decode b_Mod_define 49 = .ok (.iastore, 1) := by decide +kernel
theorem d_Mod_define_50 : decode b_Mod_define 50 = .ok (.iinc 2 1, 3) := by decide +kernel
theorem d_Mod_define_53 : decode b_Mod_define 53 = .ok (.goto (-28), 3) := by decide +kernel
theorem d_Mod_define_56 : decode b_Mod_define 56 = .ok (.aload_n 0, 1) := by decide +kernel
theorem d_Mod_define_57 : decode b_Mod_define 57 = .ok (.getfield 22, 3) := by decide +kernel
theorem d_Mod_define_60 : decode b_Mod_define 60 = .ok (.iload_n 1, 1) := by decide +kernel
theorem d_Mod_define_61 : decode b_Mod_define 61 = .ok (.aload_n 0, 1) := by decide +kernel
theorem d_Mod_define_62 : decode b_Mod_define 62 = .ok (.getfield 118, 3) := by decide +kernel
theorem d_Mod_define_65 : decode b_Mod_define 65 = .ok (.iastore, 1) := by decide +kernel
theorem d_Mod_define_66 : decode b_Mod_define 66 = .ok (.aload_n 0, 1) := by decide +kernel
theorem d_Mod_define_67 : decode b_Mod_define 67 = .ok (.iconst 0, 1) := by decide +kernel
theorem d_Mod_define_68 : decode b_Mod_define 68 = .ok (.putfield 118, 3) := by decide +kernel
theorem d_Mod_define_71 : decode b_Mod_define 71 = .ok (.iconst 0, 1) := by decide +kernel
theorem d_Mod_define_72 : decode b_Mod_define 72 = .ok (.ireturn, 1) := by decide +kernel
theorem d_Mod_pattern_0 : decode b_Mod_pattern 0 = .ok (.aload_n 0, 1) := by decide +kernel
theorem d_Mod_pattern_1 : decode b_Mod_pattern 1 = .ok (.getfield 122, 3) := by decide +kernel
theorem d_Mod_pattern_4 : decode b_Mod_pattern 4 = .ok (.bipush 20, 2) := by decide +kernel
theorem d_Mod_pattern_6 : decode b_Mod_pattern 6 = .ok (.if_icmp .ne 6, 3) := by decide +kernel
theorem d_Mod_pattern_9 : decode b_Mod_pattern 9 = .ok (.bipush (-2), 2) := by decide +kernel
theorem d_Mod_pattern_11 : decode b_Mod_pattern 11 = .ok (.ireturn, 1) := by decide +kernel
theorem d_Mod_pattern_12 : decode b_Mod_pattern 12 = .ok (.iconst 0, 1) := by decide +kernel
theorem d_Mod_pattern_13 : decode b_Mod_pattern 13 = .ok (.istore_n 1, 1) := by decide +kernel
theorem d_Mod_pattern_14 : decode b_Mod_pattern 14 = .ok (.iconst 0, 1) := by decide +kernel
theorem d_Mod_pattern_15 : decode b_Mod_pattern 15 = .ok (.istore_n 2, 1) := by decide +kernel
theorem d_Mod_pattern_16 : decode b_Mod_pattern 16 = .ok (.iload_n 2, 1) := by decide +kernel
theorem d_Mod_pattern_17 : decode b_Mod_pattern 17 = .ok (.aload_n 0, 1) := by decide +kernel
theorem d_Mod_pattern_18 : decode b_Mod_pattern 18 = .ok (.getfield 118, 3) := by decide +kernel
theorem d_Mod_pattern_21 : decode b_Mod_pattern 21 = .ok (.if_icmp .ge 95, 3) := by decide +kernel
theorem d_Mod_pattern_24 : decode b_Mod_pattern 24 = .ok (.aload_n 0, 1) := by decide +kernel
theorem d_Mod_pattern_25 : decode b_Mod_pattern 25 = .ok (.getfield 7, 3) := by decide +kernel
theorem d_Mod_pattern_28 : decode b_Mod_pattern 28 = .ok (.iload_n 2, 1) := by decide +kernel
theorem d_Mod_pattern_29 : decode b_Mod_pattern 29 = .ok (.iaload, 1) := by decide +kernel
theorem d_Mod_pattern_30 : decode b_Mod_pattern 30 = .ok (.invokestatic 115, 3) := by decide +kernel
theorem d_Mod_pattern_33 : decode b_Mod_pattern 33 = .ok (.ifCond .eq 24, 3) := by decide +kernel
theorem d_Mod_pattern_36 : decode b_Mod_pattern 36 = .ok (.iload_n 2, 1) := by decide +kernel
theorem d_Mod_pattern_37 : decode b_Mod_pattern 37 = .ok (.ifCond .le 20, 3) := by decide +kernel
theorem d_Mod_pattern_40 : decode b_Mod_pattern 40 = .ok (.aload_n 0, 1) := by decide +kernel
theorem d_Mod_pattern_41 : decode b_Mod_pattern 41 = .ok (.getfield 7, 3) := by decide +kernel
theorem d_Mod_pattern_44 : decode b_Mod_pattern 44 = .ok (.iload_n 2, 1) := by decide +kernel
theorem d_Mod_pattern_45 : decode b_Mod_pattern 45 = .ok (.iconst 1, 1) := by decide +kernel
theorem d_Mod_pattern_46 : decode b_Mod_pattern 46 = .ok (.isub, 1) := by decide +kernel
theorem d_Mod_pattern_47 : decode b_Mod_pattern 47 = .ok (.iaload, 1) := by decide +kernel
theorem d_Mod_pattern_48 : decode b_Mod_pattern 48 = .ok (.invokestatic 115, 3) := by decide +kernel
theorem d_Mod_pattern_51 : decode b_Mod_pattern 51 = .ok (.ifCond .eq 6, 3) := by decide +kernel
theorem d_Mod_pattern_54 : decode b_Mod_pattern 54 = .ok (.bipush (-3), 2) := by decide +kernel
theorem d_Mod_pattern_56 : decode b_Mod_pattern 56 = .ok (.ireturn, 1) := by decide +kernel
theorem d_Mod_pattern_57 : decode b_Mod_pattern 57 = .ok (.aload_n 0, 1) := by decide +kernel
theorem d_Mod_pattern_58 : decode b_Mod_pattern 58 = .ok (.getfield 7, 3) := by decide +kernel
theorem d_Mod_pattern_61 : decode b_Mod_pattern 61 = .ok (.iload_n 2, 1) := by decide +kernel
theorem d_Mod_pattern_62 : decode b_Mod_pattern 62 = .ok (.iaload, 1) := by decide +kernel
theorem d_Mod_pattern_63 : decode b_Mod_pattern 63 = .ok (.invokestatic 115, 3) := by decide +kernel
theorem d_Mod_pattern_66 : decode b_Mod_pattern 66 = .ok (.ifCond .ne 29, 3) := by decide +kernel
theorem d_Mod_pattern_69 : decode b_Mod_pattern 69 = .ok (.aload_n 0, 1) := by decide +kernel
theorem d_Mod_pattern_70 : decode b_Mod_pattern 70 = .ok (.getfield 7, 3) := by decide +kernel
theorem d_Mod_pattern_73 : decode b_Mod_pattern 73 = .ok (.iload_n 2, 1) := by decide +kernel
theorem d_Mod_pattern_74 : decode b_Mod_pattern 74 = .ok (.iaload, 1) := by decide +kernel
theorem d_Mod_pattern_75 : decode b_Mod_pattern 75 = .ok (.invokestatic 111, 3) := by decide +kernel
theorem d_Mod_pattern_78 : decode b_Mod_pattern 78 = .ok (.ifCond .ne 17, 3) := by decide +kernel
theorem d_Mod_pattern_81 : decode b_Mod_pattern 81 = .ok (.aload_n 0, 1) := by decide +kernel
theorem d_Mod_pattern_82 : decode b_Mod_pattern 82 = .ok (.getfield 7, 3) := by decide +kernel
theorem d_Mod_pattern_85 : decode b_Mod_pattern 85 = .ok (.iload_n 2, 1) := by decide +kernel
theorem d_Mod_pattern_86 : decode b_Mod_pattern 86 = .ok (.iaload, 1) := by decide +kernel
theorem d_Mod_pattern_87 : decode b_Mod_pattern 87 = .ok (.bipush 46, 2) := by decide +kernel
theorem d_Mod_pattern_89 : decode b_Mod_pattern 89 = .ok (.if_icmp .eq 6, 3) := by decide +kernel
theorem d_Mod_pattern_92 : decode b_Mod_pattern 92 = .ok (.bipush (-3), 2) := by decide +kernel
theorem d_Mod_pattern_94 : decode b_Mod_pattern 94 = .ok (.ireturn, 1) := by decide +kernel
theorem d_Mod_pattern_95 : decode b_Mod_pattern 95 = .ok (.aload_n 0, 1) := by decide +kernel
theorem d_Mod_pattern_96 : decode b_Mod_pattern 96 = .ok (.getfield 7, 3) := by decide +kernel
theorem d_Mod_pattern_99 : decode b_Mod_pattern 99 = .ok (.iload_n 2, 1) := by decide +kernel
theorem d_Mod_pattern_100 : decode b_Mod_pattern 100 = .ok (.iaload, 1) := by decide +kernel
theorem d_Mod_pattern_101 : decode b_Mod_pattern 101 = .ok (.invokestatic 115, 3) := by decide +kernel
theorem d_Mod_pattern_104 : decode b_Mod_pattern 104 = .ok (.ifCond .ne 6, 3) := by decide +kernel
theorem d_Mod_pattern_107 : decode b_Mod_pattern 107 = .ok (.iinc 1 1, 3) := by decide +kernel
theorem d_Mod_pattern_110 : decode b_Mod_pattern 110 = .ok (.iinc 2 1, 3) := by decide +kernel
theorem d_Mod_pattern_113 : decode b_Mod_pattern 113 = .ok (.goto (-97), 3) := by decide +kernel
theorem d_Mod_pattern_116 : decode b_Mod_pattern 116 = .ok (.iload_n 1, 1) := by decide +kernel
theorem d_Mod_pattern_117 : decode b_Mod_pattern 117 = .ok (.iconst 1, 1) := by decide +kernel
theorem d_Mod_pattern_118 : decode b_Mod_pattern 118 = .ok (.if_icmp .lt 8, 3) := by decide +kernel
theorem d_Mod_pattern_121 : decode b_Mod_pattern 121 = .ok (.iload_n 1, 1) := by decide +kernel
theorem d_Mod_pattern_122 : decode b_Mod_pattern 122 = .ok (.iconst 5, 1) := by decide +kernel
theorem d_Mod_pattern_123 : decode b_Mod_pattern 123 = .ok (.if_icmp .le 6, 3) := by decide +kernel
theorem d_Mod_pattern_126 : decode b_Mod_pattern 126 = .ok (.bipush (-3), 2) := by decide +kernel
theorem d_Mod_pattern_128 : decode b_Mod_pattern 128 = .ok (.ireturn, 1) := by decide +kernel
theorem d_Mod_pattern_129 : decode b_Mod_pattern 129 = .ok (.iconst 0, 1) := by decide +kernel
theorem d_Mod_pattern_130 : decode b_Mod_pattern 130 = .ok (.istore_n 2, 1) := by decide +kernel
theorem d_Mod_pattern_131 : decode b_Mod_pattern 131 = .ok (.iconst 0, 1) := by decide +kernel
theorem d_Mod_pattern_132 : decode b_Mod_pattern 132 = .ok (.istore_n 3, 1) := by decide +kernel
theorem d_Mod_pattern_133 : decode b_Mod_pattern 133 = .ok (.iload_n 3, 1) := by decide +kernel
theorem d_Mod_pattern_134 : decode b_Mod_pattern 134 = .ok (.aload_n 0, 1) := by decide +kernel
theorem d_Mod_pattern_135 : decode b_Mod_pattern 135 = .ok (.getfield 118, 3) := by decide +kernel
theorem d_Mod_pattern_138 : decode b_Mod_pattern 138 = .ok (.if_icmp .ge 52, 3) := by decide +kernel
theorem d_Mod_pattern_141 : decode b_Mod_pattern 141 = .ok (.aload_n 0, 1) := by decide +kernel
theorem d_Mod_pattern_142 : decode b_Mod_pattern 142 = .ok (.getfield 7, 3) := by decide +kernel
theorem d_Mod_pattern_145 : decode b_Mod_pattern 145 = .ok (.iload_n 3, 1) := by decide +kernel
theorem d_Mod_pattern_146 : decode b_Mod_pattern 146 = .ok (.iaload, 1) := by decide +kernel
theorem d_Mod_pattern_147 : decode b_Mod_pattern 147 = .ok (.invokestatic 115, 3) := by decide +kernel
theorem d_Mod_pattern_150 : decode b_Mod_pattern 150 = .ok (.ifCond .eq 6, 3) := by decide +kernel
theorem d_Mod_pattern_153 : decode b_Mod_pattern 153 = .ok (.goto 31, 3) := by decide +kernel
theorem d_Mod_pattern_156 : decode b_Mod_pattern 156 = .ok (.aload_n 0, 1) := by decide +kernel
theorem d_Mod_pattern_157 : decode b_Mod_pattern 157 = .ok (.getfield 7, 3) := by decide +kernel
theorem d_Mod_pattern_160 : decode b_Mod_pattern 160 = .ok (.iload_n 3, 1) := by decide +kernel
theorem d_Mod_pattern_161 : decode b_Mod_pattern 161 = .ok (.iaload, 1) := by decide +kernel
theorem d_Mod_pattern_162 : decode b_Mod_pattern 162 = .ok (.bipush 46, 2) := by decide +kernel
theorem d_Mod_pattern_164 : decode b_Mod_pattern 164 = .ok (.if_icmp .ne 17, 3) := by decide +kernel
theorem d_Mod_pattern_167 : decode b_Mod_pattern 167 = .ok (.iload_n 2, 1) := by decide +kernel
theorem d_Mod_pattern_168 : decode b_Mod_pattern 168 = .ok (.ifCond .le 13, 3) := by decide +kernel
theorem d_Mod_pattern_171 : decode b_Mod_pattern 171 = .ok (.iload_n 2, 1) := by decide +kernel
theorem d_Mod_pattern_172 : decode b_Mod_pattern 172 = .ok (.iload_n 1, 1) := by decide +kernel
theorem d_Mod_pattern_173 : decode b_Mod_pattern 173 = .ok (.iconst 1, 1) := by decide +kernel
theorem d_Mod_pattern_174 : decode b_Mod_pattern 174 = .ok (.isub, 1) := by decide +kernel
theorem d_Mod_pattern_175 : decode b_Mod_pattern 175 = .ok (.if_icmp .ge 6, 3) := by decide +kernel
theorem d_Mod_pattern_178 : decode b_Mod_pattern 178 = .ok (.bipush (-3), 2) := by decide +kernel
theorem d_Mod_pattern_180 : decode b_Mod_pattern 180 = .ok (.ireturn, 1) := by decide +kernel
theorem d_Mod_pattern_181 : decode b_Mod_pattern 181 = .ok (.iinc 2 1, 3) := by decide +kernel
theorem d_Mod_pattern_184 : decode b_Mod_pattern 184 = .ok (.iinc 3 1, 3) := by decide +kernel
theorem d_Mod_pattern_187 : decode b_Mod_pattern 187 = .ok (.goto (-54), 3) := by decide +kernel
theorem d_Mod_pattern_190 : decode b_Mod_pattern 190 = .ok (.iconst 0, 1) := by decide +kernel
theorem d_Mod_pattern_191 : decode b_Mod_pattern 191 = .ok (.istore_n 3, 1) := by decide +kernel
theorem d_Mod_pattern_192 : decode b_Mod_pattern 192 = .ok (.iload_n 3, 1) := by decide +kernel
theorem d_Mod_pattern_193 : decode b_Mod_pattern 193 = .ok (.bipush 6, 2) := by decide +kernel
theorem d_Mod_pattern_195 : decode b_Mod_pattern 195 = .ok (.if_icmp .ge 24, 3) := by decide +kernel
theorem d_Mod_pattern_198 : decode b_Mod_pattern 198 = .ok (.aload_n 0, 1) := by decide +kernel
theorem d_Mod_pattern_199 : decode b_Mod_pattern 199 = .ok (.getfield 28, 3) := by decide +kernel
theorem d_Mod_pattern_202 : decode b_Mod_pattern 202 = .ok (.aload_n 0, 1) := by decide +kernel
theorem d_Mod_pattern_203 : decode b_Mod_pattern 203 = .ok (.getfield 122, 3) := by decide +kernel
theorem d_Mod_pattern_206 : decode b_Mod_pattern 206 = .ok (.bipush 6, 2) := by decide +kernel
theorem d_Mod_pattern_208 : decode b_Mod_pattern 208 = .ok (.imul, 1) := by decide +kernel
theorem d_Mod_pattern_209 : decode b_Mod_pattern 209 = .ok (.iload_n 3, 1) := by decide +kernel
theorem d_Mod_pattern_210 : decode b_Mod_pattern 210 = .ok (.iadd, 1) := by decide +kernel
theorem d_Mod_pattern_211 : decode b_Mod_pattern 211 = .ok (.iconst 0, 1) := by decide +kernel
theorem d_Mod_pattern_212 : decode b_Mod_pattern 212 = .ok (.iastore, 1) := by decide +kernel
theorem d_Mod_pattern_213 : decode b_Mod_pattern 213 = .ok (.iinc 3 1, 3) := by decide +kernel
theorem d_Mod_pattern_216 : decode b_Mod_pattern 216 = .ok (.goto (-24), 3) := by decide +kernel
theorem d_Mod_pattern_219 : decode b_Mod_pattern 219 = .ok (.iconst 0, 1) := by decide +kernel
theorem d_Mod_pattern_220 : decode b_Mod_pattern 220 = .ok (.istore_n 2, 1) := by decide +kernel
theorem d_Mod_pattern_221 : decode b_Mod_pattern 221 = .ok (.iconst 0, 1) := by decide +kernel
theorem d_Mod_pattern_222 : decode b_Mod_pattern 222 = .ok (.istore_n 3, 1) := by decide +kernel
theorem d_Mod_pattern_223 : decode b_Mod_pattern 223 = .ok (.iload_n 3, 1) := by decide +kernel
theorem d_Mod_pattern_224 : decode b_Mod_pattern 224 = .ok (.aload_n 0, 1) := by decide +kernel
theorem d_Mod_pattern_225 : decode b_Mod_pattern 225 = .ok (.getfield 118, 3) := by decide +kernel
theorem d_Mod_pattern_228 : decode b_Mod_pattern 228 = .ok (.if_icmp .ge 69, 3) := by decide +kernel
theorem d_Mod_pattern_231 : decode b_Mod_pattern 231 = .ok (.aload_n 0, 1) := by decide +kernel
theorem d_Mod_pattern_232 : decode b_Mod_pattern 232 = .ok (.getfield 7, 3) := by decide +kernel
theorem d_Mod_pattern_235 : decode b_Mod_pattern 235 = .ok (.iload_n 3, 1) := by decide +kernel
theorem d_Mod_pattern_236 : decode b_Mod_pattern 236 = .ok (.iaload, 1) := by decide +kernel
theorem d_Mod_pattern_237 : decode b_Mod_pattern 237 = .ok (.invokestatic 115, 3) := by decide +kernel
theorem d_Mod_pattern_240 : decode b_Mod_pattern 240 = .ok (.ifCond .eq 29, 3) := by decide +kernel
theorem d_Mod_pattern_243 : decode b_Mod_pattern 243 = .ok (.aload_n 0, 1) := by decide +kernel
theorem d_Mod_pattern_244 : decode b_Mod_pattern 244 = .ok (.getfield 28, 3) := by decide +kernel
theorem d_Mod_pattern_247 : decode b_Mod_pattern 247 = .ok (.aload_n 0, 1) := by decide +kernel
theorem d_Mod_pattern_248 : decode b_Mod_pattern 248 = .ok (.getfield 122, 3) := by decide +kernel
theorem d_Mod_pattern_251 : decode b_Mod_pattern 251 = .ok (.bipush 6, 2) := by decide +kernel
theorem d_Mod_pattern_253 : decode b_Mod_pattern 253 = .ok (.imul, 1) := by decide +kernel
theorem d_Mod_pattern_254 : decode b_Mod_pattern 254 = .ok (.iload_n 2, 1) := by decide +kernel
theorem d_Mod_pattern_255 : decode b_Mod_pattern 255 = .ok (.iadd, 1) := by decide +kernel
theorem d_Mod_pattern_256 : decode b_Mod_pattern 256 = .ok (.aload_n 0, 1) := by decide +kernel
theorem d_Mod_pattern_257 : decode b_Mod_pattern 257 = .ok (.getfield 7, 3) := by decide +kernel
theorem d_Mod_pattern_260 : decode b_Mod_pattern 260 = .ok (.iload_n 3, 1) := by decide +kernel
theorem d_Mod_pattern_261 : decode b_Mod_pattern 261 = .ok (.iaload, 1) := by decide +kernel
theorem d_Mod_pattern_262 : decode b_Mod_pattern 262 = .ok (.bipush 48, 2) := by decide +kernel
theorem d_Mod_pattern_264 : decode b_Mod_pattern 264 = .ok (.isub, 1) := by decide +kernel
theorem d_Mod_pattern_265 : decode b_Mod_pattern 265 = .ok (.iastore, 1) := by decide +kernel
theorem d_Mod_pattern_266 : decode b_Mod_pattern 266 = .ok (.goto 25, 3) := by decide +kernel
theorem d_Mod_pattern_269 : decode b_Mod_pattern 269 = .ok (.aload_n 0, 1) := by decide +kernel
theorem d_Mod_pattern_270 : decode b_Mod_pattern 270 = .ok (.getfield 25, 3) := by decide +kernel
theorem d_Mod_pattern_273 : decode b_Mod_pattern 273 = .ok (.aload_n 0, 1) := by decide +kernel
theorem d_Mod_pattern_274 : decode b_Mod_pattern 274 = .ok (.getfield 122, 3) := by decide +kernel
theorem d_Mod_pattern_277 : decode b_Mod_pattern 277 = .ok (.iconst 5, 1) := by decide +kernel
theorem d_Mod_pattern_278 : decode b_Mod_pattern 278 = .ok (.imul, 1) := by decide +kernel
theorem d_Mod_pattern_279 : decode b_Mod_pattern 279 = .ok (.iload_n 2, 1) := by decide +kernel
theorem d_Mod_pattern_280 : decode b_Mod_pattern 280 = .ok (.iadd, 1) := by decide +kernel
theorem d_Mod_pattern_281 : decode b_Mod_pattern 281 = .ok (.aload_n 0, 1) := by decide +kernel
theorem d_Mod_pattern_282 : decode b_Mod_pattern 282 = .ok (.getfield 7, 3) := by decide +kernel
theorem d_Mod_pattern_285 : decode b_Mod_pattern 285 = .ok (.iload_n 3, 1) := by decide +kernel
theorem d_Mod_pattern_286 : decode b_Mod_pattern 286 = .ok (.iaload, 1) := by decide +kernel
theorem d_Mod_pattern_287 : decode b_Mod_pattern 287 = .ok (.iastore, 1) := by decide +kernel
theorem d_Mod_pattern_288 : decode b_Mod_pattern 288 = .ok (.iinc 2 1, 3) := by decide +kernel
theorem d_Mod_pattern_291 : decode b_Mod_pattern 291 = .ok (.iinc 3 1, 3) := by decide +kernel
theorem d_Mod_pattern_294 : decode b_Mod_pattern 294 = .ok (.goto (-71), 3) := by decide +kernel
theorem d_Mod_pattern_297 : decode b_Mod_pattern 297 = .ok (.aload_n 0, 1) := by decide +kernel
theorem d_Mod_pattern_298 : decode b_Mod_pattern 298 = .ok (.getfield 31, 3) := by decide +kernel
theorem d_Mod_pattern_301 : decode b_Mod_pattern 301 = .ok (.aload_n 0, 1) := by decide +kernel
theorem d_Mod_pattern_302 : decode b_Mod_pattern 302 = .ok (.getfield 122, 3) := by decide +kernel
theorem d_Mod_pattern_305 : decode b_Mod_pattern 305 = .ok (.iload_n 1, 1) := by decide +kernel
theorem d_Mod_pattern_306 : decode b_Mod_pattern 306 = .ok (.iastore, 1) := by decide +kernel
theorem d_Mod_pattern_307 : decode b_Mod_pattern 307 = .ok (.aload_n 0, 1) := by decide +kernel
theorem d_Mod_pattern_308 : decode b_Mod_pattern 308 = .ok (.dup, 1) := by decide +kernel
theorem d_Mod_pattern_309 : decode b_Mod_pattern 309 = .ok (.getfield 122, 3) := by decide +kernel
theorem d_Mod_pattern_312 : decode b_Mod_pattern 312 = .ok (.iconst 1, 1) := by decide +kernel
theorem d_Mod_pattern_313 : decode b_Mod_pattern 313 = .ok (.iadd, 1) := by decide +kernel
theorem d_Mod_pattern_314 : decode b_Mod_pattern 314 = .ok (.putfield 122, 3) := by decide +kernel
theorem d_Mod_pattern_317 : decode b_Mod_pattern 317 = .ok (.aload_n 0, 1) := by decide +kernel
theorem d_Mod_pattern_318 : decode b_Mod_pattern 318 = .ok (.iconst 0, 1) := by decide +kernel
theorem d_Mod_pattern_319 : decode b_Mod_pattern 319 = .ok (.putfield 118, 3) := by decide +kernel
theorem d_Mod_pattern_322 : decode b_Mod_pattern 322 = .ok (.aload_n 0, 1) := by decide +kernel
theorem d_Mod_pattern_323 : decode b_Mod_pattern 323 = .ok (.getfield 122, 3) := by decide +kernel
theorem d_Mod_pattern_326 : decode b_Mod_pattern 326 = .ok (.ireturn, 1) := by decide +kernel
theorem d_Mod_paragraph_0 : decode b_Mod_paragraph 0 = .ok (.aload_n 0, 1) := by decide +kernel
theorem d_Mod_paragraph_1 : decode b_Mod_paragraph 1 = .ok (.invokevirtual 218, 3) := by decide +kernel
theorem d_Mod_paragraph_4 : decode b_Mod_paragraph 4 = .ok (.istore_n 1, 1) := by decide +kernel
theorem d_Mod_paragraph_5 : decode b_Mod_paragraph 5 = .ok (.aload_n 0, 1) := by decide +kernel
theorem d_Mod_paragraph_6 : decode b_Mod_paragraph 6 = .ok (.iconst 0, 1) := by decide +kernel
theorem d_Mod_paragraph_7 : decode b_Mod_paragraph 7 = .ok (.putfield 118, 3) := by decide +kernel
theorem d_Mod_paragraph_10 : decode b_Mod_paragraph 10 = .ok (.iload_n 1, 1) := by decide +kernel
theorem d_Mod_paragraph_11 : decode b_Mod_paragraph 11 = .ok (.ifCond .ge 5, 3) := by decide +kernel
theorem d_Mod_paragraph_14 : decode b_Mod_paragraph 14 = .ok (.iload_n 1, 1) := by decide +kernel
theorem d_Mod_paragraph_15 : decode b_Mod_paragraph 15 = .ok (.ireturn, 1) := by decide +kernel
theorem d_Mod_paragraph_16 : decode b_Mod_paragraph 16 = .ok (.aload_n 0, 1) := by decide +kernel
theorem d_Mod_paragraph_17 : decode b_Mod_paragraph 17 = .ok (.invokevirtual 221, 3) := by decide +kernel
theorem d_Mod_paragraph_20 : decode b_Mod_paragraph 20 = .ok (.aload_n 0, 1) := by decide +kernel
theorem d_Mod_paragraph_21 : decode b_Mod_paragraph 21 = .ok (.invokevirtual 224, 3) := by decide +kernel
theorem d_Mod_paragraph_24 : decode b_Mod_paragraph 24 = .ok (.aload_n 0, 1) := by decide +kernel
theorem d_Mod_paragraph_25 : decode b_Mod_paragraph 25 = .ok (.getfield 142, 3) := by decide +kernel
theorem d_Mod_paragraph_28 : decode b_Mod_paragraph 28 = .ok (.ifCond .le 31, 3) := by decide +kernel
theorem d_Mod_paragraph_31 : decode b_Mod_paragraph 31 = .ok (.aload_n 0, 1) := by decide +kernel
theorem d_Mod_paragraph_32 : decode b_Mod_paragraph 32 = .ok (.invokevirtual 227, 3) := by decide +kernel
theorem d_Mod_paragraph_35 : decode b_Mod_paragraph 35 = .ok (.ifCond .ne 6, 3) := by decide +kernel
theorem d_Mod_paragraph_38 : decode b_Mod_paragraph 38 = .ok (.bipush (-4), 2) := by decide +kernel
theorem d_Mod_paragraph_40 : decode b_Mod_paragraph 40 = .ok (.ireturn, 1) := by decide +kernel
theorem d_Mod_paragraph_41 : decode b_Mod_paragraph 41 = .ok (.aload_n 0, 1) := by decide +kernel
theorem d_Mod_paragraph_42 : decode b_Mod_paragraph 42 = .ok (.invokevirtual 230, 3) := by decide +kernel
theorem d_Mod_paragraph_45 : decode b_Mod_paragraph 45 = .ok (.aload_n 0, 1) := by decide +kernel
theorem d_Mod_paragraph_46 : decode b_Mod_paragraph 46 = .ok (.getfield 74, 3) := by decide +kernel
theorem d_Mod_paragraph_49 : decode b_Mod_paragraph 49 = .ok (.iconst 0, 1) := by decide +kernel
theorem d_Mod_paragraph_50 : decode b_Mod_paragraph 50 = .ok (.laload, 1) := by decide +kernel
theorem d_Mod_paragraph_51 : decode b_Mod_paragraph 51 = .ok (.lconst 0, 1) := by decide +kernel
theorem d_Mod_paragraph_52 : decode b_Mod_paragraph 52 = .ok (.lcmp, 1) := by decide +kernel
theorem d_Mod_paragraph_53 : decode b_Mod_paragraph 53 = .ok (.ifCond .ge 6, 3) := by decide +kernel
theorem d_Mod_paragraph_56 : decode b_Mod_paragraph 56 = .ok (.bipush (-5), 2) := by decide +kernel
theorem d_Mod_paragraph_58 : decode b_Mod_paragraph 58 = .ok (.ireturn, 1) := by decide +kernel
theorem d_Mod_paragraph_59 : decode b_Mod_paragraph 59 = .ok (.aload_n 0, 1) := by decide +kernel
theorem d_Mod_paragraph_60 : decode b_Mod_paragraph 60 = .ok (.invokevirtual 233, 3) := by decide +kernel
theorem d_Mod_paragraph_63 : decode b_Mod_paragraph 63 = .ok (.aload_n 0, 1) := by decide +kernel
theorem d_Mod_paragraph_64 : decode b_Mod_paragraph 64 = .ok (.getfield 199, 3) := by decide +kernel
theorem d_Mod_paragraph_67 : decode b_Mod_paragraph 67 = .ok (.ireturn, 1) := by decide +kernel
theorem d_Mod_expand_0 : decode b_Mod_expand 0 = .ok (.iconst 4, 1) := by decide +kernel
theorem d_Mod_expand_1 : decode b_Mod_expand 1 = .ok (.istore_n 1, 1) := by decide +kernel
theorem d_Mod_expand_2 : decode b_Mod_expand 2 = .ok (.iconst 0, 1) := by decide +kernel
theorem d_Mod_expand_3 : decode b_Mod_expand 3 = .ok (.istore_n 2, 1) := by decide +kernel
theorem d_Mod_expand_4 : decode b_Mod_expand 4 = .ok (.aload_n 0, 1) := by decide +kernel
theorem d_Mod_expand_5 : decode b_Mod_expand 5 = .ok (.aload_n 0, 1) := by decide +kernel
theorem d_Mod_expand_6 : decode b_Mod_expand 6 = .ok (.iconst 0, 1) := by decide +kernel
theorem d_Mod_expand_7 : decode b_Mod_expand 7 = .ok (.dup_x1, 1) := by decide +kernel
theorem d_Mod_expand_8 : decode b_Mod_expand 8 = .ok (.putfield 142, 3) := by decide +kernel
theorem d_Mod_expand_11 : decode b_Mod_expand 11 = .ok (.putfield 135, 3) := by decide +kernel
theorem d_Mod_expand_14 : decode b_Mod_expand 14 = .ok (.aload_n 0, 1) := by decide +kernel
theorem d_Mod_expand_15 : decode b_Mod_expand 15 = .ok (.aload_n 0, 1) := by decide +kernel
theorem d_Mod_expand_16 : decode b_Mod_expand 16 = .ok (.getfield 118, 3) := by decide +kernel
theorem d_Mod_expand_19 : decode b_Mod_expand 19 = .ok (.putfield 125, 3) := by decide +kernel
theorem d_Mod_expand_22 : decode b_Mod_expand 22 = .ok (.iconst 0, 1) := by decide +kernel
theorem d_Mod_expand_23 : decode b_Mod_expand 23 = .ok (.istore_n 3, 1) := by decide +kernel
theorem d_Mod_expand_24 : decode b_Mod_expand 24 = .ok (.iload_n 3, 1) := by decide +kernel
theorem d_Mod_expand_25 : decode b_Mod_expand 25 = .ok (.aload_n 0, 1) := by decide +kernel
theorem d_Mod_expand_26 : decode b_Mod_expand 26 = .ok (.getfield 118, 3) := by decide +kernel
theorem d_Mod_expand_29 : decode b_Mod_expand 29 = .ok (.if_icmp .ge 21, 3) := by decide +kernel
theorem d_Mod_expand_32 : decode b_Mod_expand 32 = .ok (.aload_n 0, 1) := by decide +kernel
theorem d_Mod_expand_33 : decode b_Mod_expand 33 = .ok (.getfield 34, 3) := by decide +kernel
theorem d_Mod_expand_36 : decode b_Mod_expand 36 = .ok (.iload_n 3, 1) := by decide +kernel
theorem d_Mod_expand_37 : decode b_Mod_expand 37 = .ok (.aload_n 0, 1) := by decide +kernel
theorem d_Mod_expand_38 : decode b_Mod_expand 38 = .ok (.getfield 7, 3) := by decide +kernel
theorem d_Mod_expand_41 : decode b_Mod_expand 41 = .ok (.iload_n 3, 1) := by decide +kernel
theorem d_Mod_expand_42 : decode b_Mod_expand 42 = .ok (.iaload, 1) := by decide +kernel
theorem d_Mod_expand_43 : decode b_Mod_expand 43 = .ok (.iastore, 1) := by decide +kernel
theorem d_Mod_expand_44 : decode b_Mod_expand 44 = .ok (.iinc 3 1, 3) := by decide +kernel
theorem d_Mod_expand_47 : decode b_Mod_expand 47 = .ok (.goto (-23), 3) := by decide +kernel
theorem d_Mod_expand_50 : decode b_Mod_expand 50 = .ok (.aload_n 0, 1) := by decide +kernel
theorem d_Mod_expand_51 : decode b_Mod_expand 51 = .ok (.invokevirtual 131, 3) := by decide +kernel
theorem d_Mod_expand_54 : decode b_Mod_expand 54 = .ok (.istore_n 3, 1) := by decide +kernel
theorem d_Mod_expand_55 : decode b_Mod_expand 55 = .ok (.iload_n 3, 1) := by decide +kernel
theorem d_Mod_expand_56 : decode b_Mod_expand 56 = .ok (.ifCond .lt 215, 3) := by decide +kernel
theorem d_Mod_expand_59 : decode b_Mod_expand 59 = .ok (.iconst 0, 1) := by decide +kernel
theorem d_Mod_expand_60 : decode b_Mod_expand 60 = .ok (.istore 4, 2) := by decide +kernel
theorem d_Mod_expand_62 : decode b_Mod_expand 62 = .ok (.iload_n 3, 1) := by decide +kernel
theorem d_Mod_expand_63 : decode b_Mod_expand 63 = .ok (.bipush 65, 2) := by decide +kernel
theorem d_Mod_expand_65 : decode b_Mod_expand 65 = .ok (.if_icmp .lt 22, 3) := by decide +kernel
theorem d_Mod_expand_68 : decode b_Mod_expand 68 = .ok (.iload_n 3, 1) := by decide +kernel
theorem d_Mod_expand_69 : decode b_Mod_expand 69 = .ok (.bipush 68, 2) := by decide +kernel
theorem d_Mod_expand_71 : decode b_Mod_expand 71 = .ok (.if_icmp .gt 16, 3) := by decide +kernel
theorem d_Mod_expand_74 : decode b_Mod_expand 74 = .ok (.aload_n 0, 1) := by decide +kernel
theorem d_Mod_expand_75 : decode b_Mod_expand 75 = .ok (.iload_n 3, 1) := by decide +kernel
theorem d_Mod_expand_76 : decode b_Mod_expand 76 = .ok (.bipush 65, 2) := by decide +kernel
theorem d_Mod_expand_78 : decode b_Mod_expand 78 = .ok (.isub, 1) := by decide +kernel
theorem d_Mod_expand_79 : decode b_Mod_expand 79 = .ok (.invokevirtual 145, 3) := by decide +kernel
theorem d_Mod_expand_82 : decode b_Mod_expand 82 = .ok (.istore 4, 2) := by decide +kernel
theorem d_Mod_expand_84 : decode b_Mod_expand 84 = .ok (.goto 171, 3) := by decide +kernel
theorem d_Mod_expand_87 : decode b_Mod_expand 87 = .ok (.iload_n 3, 1) := by decide +kernel
theorem d_Mod_expand_88 : decode b_Mod_expand 88 = .ok (.bipush 123, 2) := by decide +kernel
theorem d_Mod_expand_90 : decode b_Mod_expand 90 = .ok (.if_icmp .ne 25, 3) := by decide +kernel
theorem d_Mod_expand_93 : decode b_Mod_expand 93 = .ok (.iload_n 2, 1) := by decide +kernel
theorem d_Mod_expand_94 : decode b_Mod_expand 94 = .ok (.bipush 8, 2) := by decide +kernel
theorem d_Mod_expand_96 : decode b_Mod_expand 96 = .ok (.if_icmp .ne 6, 3) := by decide +kernel
theorem d_Mod_expand_99 : decode b_Mod_expand 99 = .ok (.bipush (-4), 2) := by decide +kernel
theorem d_Mod_expand_101 : decode b_Mod_expand 101 = .ok (.ireturn, 1) := by decide +kernel
theorem d_Mod_expand_102 : decode b_Mod_expand 102 = .ok (.aload_n 0, 1) := by decide +kernel
theorem d_Mod_expand_103 : decode b_Mod_expand 103 = .ok (.getfield 43, 3) := by decide +kernel
theorem d_Mod_expand_106 : decode b_Mod_expand 106 = .ok (.iload_n 2, 1) := by decide +kernel
theorem d_Mod_expand_107 : decode b_Mod_expand 107 = .ok (.iload_n 1, 1) := by decide +kernel
theorem d_Mod_expand_108 : decode b_Mod_expand 108 = .ok (.iastore, 1) := by decide +kernel
theorem d_Mod_expand_109 : decode b_Mod_expand 109 = .ok (.iinc 2 1, 3) := by decide +kernel
theorem d_Mod_expand_112 : decode b_Mod_expand 112 = .ok (.goto 143, 3) := by decide +kernel
theorem d_Mod_expand_115 : decode b_Mod_expand 115 = .ok (.iload_n 3, 1) := by decide +kernel
theorem d_Mod_expand_116 : decode b_Mod_expand 116 = .ok (.bipush 125, 2) := by decide +kernel
theorem d_Mod_expand_118 : decode b_Mod_expand 118 = .ok (.if_icmp .ne 23, 3) := by decide +kernel
theorem d_Mod_expand_121 : decode b_Mod_expand 121 = .ok (.iload_n 2, 1) := by decide +kernel
theorem d_Mod_expand_122 : decode b_Mod_expand 122 = .ok (.ifCond .ne 6, 3) := by decide +kernel
theorem d_Mod_expand_125 : decode b_Mod_expand 125 = .ok (.bipush (-3), 2) := by decide +kernel
theorem d_Mod_expand_127 : decode b_Mod_expand 127 = .ok (.ireturn, 1) := by decide +kernel
theorem d_Mod_expand_128 : decode b_Mod_expand 128 = .ok (.iinc 2 (-1), 3) := by decide +kernel
theorem d_Mod_expand_131 : decode b_Mod_expand 131 = .ok (.aload_n 0, 1) := by decide +kernel
theorem d_Mod_expand_132 : decode b_Mod_expand 132 = .ok (.getfield 43, 3) := by decide +kernel
theorem d_Mod_expand_135 : decode b_Mod_expand 135 = .ok (.iload_n 2, 1) := by decide +kernel
theorem d_Mod_expand_136 : decode b_Mod_expand 136 = .ok (.iaload, 1) := by decide +kernel
theorem d_Mod_expand_137 : decode b_Mod_expand 137 = .ok (.istore_n 1, 1) := by decide +kernel
theorem d_Mod_expand_138 : decode b_Mod_expand 138 = .ok (.goto 117, 3) := by decide +kernel
theorem d_Mod_expand_141 : decode b_Mod_expand 141 = .ok (.iload_n 3, 1) := by decide +kernel
theorem d_Mod_expand_142 : decode b_Mod_expand 142 = .ok (.bipush 61, 2) := by decide +kernel
theorem d_Mod_expand_144 : decode b_Mod_expand 144 = .ok (.if_icmp .ne 31, 3) := by decide +kernel
theorem d_Mod_expand_147 : decode b_Mod_expand 147 = .ok (.aload_n 0, 1) := by decide +kernel
theorem d_Mod_expand_148 : decode b_Mod_expand 148 = .ok (.invokevirtual 131, 3) := by decide +kernel
theorem d_Mod_expand_151 : decode b_Mod_expand 151 = .ok (.istore_n 3, 1) := by decide +kernel
theorem d_Mod_expand_152 : decode b_Mod_expand 152 = .ok (.iload_n 3, 1) := by decide +kernel
theorem d_Mod_expand_153 : decode b_Mod_expand 153 = .ok (.bipush 49, 2) := by decide +kernel
theorem d_Mod_expand_155 : decode b_Mod_expand 155 = .ok (.if_icmp .lt 9, 3) := by decide +kernel
theorem d_Mod_expand_158 : decode b_Mod_expand 158 = .ok (.iload_n 3, 1) := by decide +kernel
theorem d_Mod_expand_159 : decode b_Mod_expand 159 = .ok (.bipush 57, 2) := by decide +kernel
theorem d_Mod_expand_161 : decode b_Mod_expand 161 = .ok (.if_icmp .le 6, 3) := by decide +kernel
theorem d_Mod_expand_164 : decode b_Mod_expand 164 = .ok (.bipush (-3), 2) := by decide +kernel
theorem d_Mod_expand_166 : decode b_Mod_expand 166 = .ok (.ireturn, 1) := by decide +kernel
theorem d_Mod_expand_167 : decode b_Mod_expand 167 = .ok (.iload_n 3, 1) := by decide +kernel
theorem d_Mod_expand_168 : decode b_Mod_expand 168 = .ok (.bipush 48, 2) := by decide +kernel
theorem d_Mod_expand_170 : decode b_Mod_expand 170 = .ok (.isub, 1) := by decide +kernel
theorem d_Mod_expand_171 : decode b_Mod_expand 171 = .ok (.istore_n 1, 1) := by decide +kernel
theorem d_Mod_expand_172 : decode b_Mod_expand 172 = .ok (.goto 83, 3) := by decide +kernel
theorem d_Mod_expand_175 : decode b_Mod_expand 175 = .ok (.iload_n 3, 1) := by decide +kernel
theorem d_Mod_expand_176 : decode b_Mod_expand 176 = .ok (.bipush 35, 2) := by decide +kernel
theorem d_Mod_expand_178 : decode b_Mod_expand 178 = .ok (.if_icmp .eq 16, 3) := by decide +kernel
theorem d_Mod_expand_181 : decode b_Mod_expand 181 = .ok (.iload_n 3, 1) := by decide +kernel
theorem d_Mod_expand_182 : decode b_Mod_expand 182 = .ok (.bipush 46, 2) := by decide +kernel
theorem d_Mod_expand_184 : decode b_Mod_expand 184 = .ok (.if_icmp .eq 10, 3) := by decide +kernel
theorem d_Mod_expand_187 : decode b_Mod_expand 187 = .ok (.iload_n 3, 1) := by decide +kernel
theorem d_Mod_expand_188 : decode b_Mod_expand 188 = .ok (.invokestatic 115, 3) := by decide +kernel
theorem d_Mod_expand_191 : decode b_Mod_expand 191 = .ok (.ifCond .eq 6, 3) := by decide +kernel
theorem d_Mod_expand_194 : decode b_Mod_expand 194 = .ok (.bipush (-3), 2) := by decide +kernel
theorem d_Mod_expand_196 : decode b_Mod_expand 196 = .ok (.ireturn, 1) := by decide +kernel
theorem d_Mod_expand_197 : decode b_Mod_expand 197 = .ok (.aload_n 0, 1) := by decide +kernel
theorem d_Mod_expand_198 : decode b_Mod_expand 198 = .ok (.getfield 142, 3) := by decide +kernel
theorem d_Mod_expand_201 : decode b_Mod_expand 201 = .ok (.bipush 120, 2) := by decide +kernel
theorem d_Mod_expand_203 : decode b_Mod_expand 203 = .ok (.if_icmp .ne 6, 3) := by decide +kernel
theorem d_Mod_expand_206 : decode b_Mod_expand 206 = .ok (.bipush (-4), 2) := by decide +kernel
theorem d_Mod_expand_208 : decode b_Mod_expand 208 = .ok (.ireturn, 1) := by decide +kernel
theorem d_Mod_expand_209 : decode b_Mod_expand 209 = .ok (.aload_n 0, 1) := by decide +kernel
theorem d_Mod_expand_210 : decode b_Mod_expand 210 = .ok (.getfield 46, 3) := by decide +kernel
theorem d_Mod_expand_213 : decode b_Mod_expand 213 = .ok (.aload_n 0, 1) := by decide +kernel
theorem d_Mod_expand_214 : decode b_Mod_expand 214 = .ok (.getfield 142, 3) := by decide +kernel
theorem d_Mod_expand_217 : decode b_Mod_expand 217 = .ok (.iload_n 3, 1) := by decide +kernel
theorem d_Mod_expand_218 : decode b_Mod_expand 218 = .ok (.iastore, 1) := by decide +kernel
theorem d_Mod_expand_219 : decode b_Mod_expand 219 = .ok (.aload_n 0, 1) := by decide +kernel
theorem d_Mod_expand_220 : decode b_Mod_expand 220 = .ok (.getfield 49, 3) := by decide +kernel
theorem d_Mod_expand_223 : decode b_Mod_expand 223 = .ok (.aload_n 0, 1) := by decide +kernel
theorem d_Mod_expand_224 : decode b_Mod_expand 224 = .ok (.getfield 142, 3) := by decide +kernel
theorem d_Mod_expand_227 : decode b_Mod_expand 227 = .ok (.iload_n 3, 1) := by decide +kernel
theorem d_Mod_expand_228 : decode b_Mod_expand 228 = .ok (.bipush 32, 2) := by decide +kernel
theorem d_Mod_expand_230 : decode b_Mod_expand 230 = .ok (.if_icmp .eq 9, 3) := by decide +kernel
theorem d_Mod_expand_233 : decode b_Mod_expand 233 = .ok (.iload_n 3, 1) := by decide +kernel
theorem d_Mod_expand_234 : decode b_Mod_expand 234 = .ok (.bipush 126, 2) := by decide +kernel
theorem d_Mod_expand_236 : decode b_Mod_expand 236 = .ok (.if_icmp .ne 7, 3) := by decide +kernel
theorem d_Mod_expand_239 : decode b_Mod_expand 239 = .ok (.iload_n 1, 1) := by decide +kernel
theorem d_Mod_expand_240 : decode b_Mod_expand 240 = .ok (.goto 4, 3) := by decide +kernel
theorem d_Mod_expand_243 : decode b_Mod_expand 243 = .ok (.iconst 0, 1) := by decide +kernel
theorem d_Mod_expand_244 : decode b_Mod_expand 244 = .ok (.iastore, 1) := by decide +kernel
theorem d_Mod_expand_245 : decode b_Mod_expand 245 = .ok (.aload_n 0, 1) := by decide +kernel
theorem d_Mod_expand_246 : decode b_Mod_expand 246 = .ok (.dup, 1) := by decide +kernel
theorem d_Mod_expand_247 : decode b_Mod_expand 247 = .ok (.getfield 142, 3) := by decide +kernel
theorem d_Mod_expand_250 : decode b_Mod_expand 250 = .ok (.iconst 1, 1) := by decide +kernel
theorem d_Mod_expand_251 : decode b_Mod_expand 251 = .ok (.iadd, 1) := by decide +kernel
theorem d_Mod_expand_252 : decode b_Mod_expand 252 = .ok (.putfield 142, 3) := by decide +kernel
theorem d_Mod_expand_255 : decode b_Mod_expand 255 = .ok (.iload 4, 2) := by decide +kernel
theorem d_Mod_expand_257 : decode b_Mod_expand 257 = .ok (.ifCond .eq 6, 3) := by decide +kernel
theorem d_Mod_expand_260 : decode b_Mod_expand 260 = .ok (.iload 4, 2) := by decide +kernel
theorem d_Mod_expand_262 : decode b_Mod_expand 262 = .ok (.ireturn, 1) := by decide +kernel
theorem d_Mod_expand_263 : decode b_Mod_expand 263 = .ok (.aload_n 0, 1) := by decide +kernel
theorem d_Mod_expand_264 : decode b_Mod_expand 264 = .ok (.invokevirtual 131, 3) := by decide +kernel
theorem d_Mod_expand_267 : decode b_Mod_expand 267 = .ok (.istore_n 3, 1) := by decide +kernel
theorem d_Mod_expand_268 : decode b_Mod_expand 268 = .ok (.goto (-213), 3) := by decide +kernel
theorem d_Mod_expand_271 : decode b_Mod_expand 271 = .ok (.iload_n 2, 1) := by decide +kernel
theorem d_Mod_expand_272 : decode b_Mod_expand 272 = .ok (.ifCond .le 8, 3) := by decide +kernel
theorem d_Mod_expand_275 : decode b_Mod_expand 275 = .ok (.bipush (-3), 2) := by decide +kernel
theorem d_Mod_expand_277 : decode b_Mod_expand 277 = .ok (.goto 4, 3) := by decide +kernel
theorem d_Mod_expand_280 : decode b_Mod_expand 280 = .ok (.iconst 0, 1) := by decide +kernel
theorem d_Mod_expand_281 : decode b_Mod_expand 281 = .ok (.ireturn, 1) := by decide +kernel
theorem d_Mod_take_0 : decode b_Mod_take 0 = .ok (.aload_n 0, 1) := by decide +kernel
theorem d_Mod_take_1 : decode b_Mod_take 1 = .ok (.getfield 125, 3) := by decide +kernel
theorem d_Mod_take_4 : decode b_Mod_take 4 = .ok (.ifCond .ne 5, 3) := by decide +kernel
theorem d_Mod_take_7 : decode b_Mod_take 7 = .ok (.iconst (-1), 1) := by decide +kernel
theorem d_Mod_take_8 : decode b_Mod_take 8 = .ok (.ireturn, 1) := by decide +kernel
theorem d_Mod_take_9 : decode b_Mod_take 9 = .ok (.aload_n 0, 1) := by decide +kernel
theorem d_Mod_take_10 : decode b_Mod_take 10 = .ok (.getfield 34, 3) := by decide +kernel
theorem d_Mod_take_13 : decode b_Mod_take 13 = .ok (.iconst 0, 1) := by decide +kernel
theorem d_Mod_take_14 : decode b_Mod_take 14 = .ok (.iaload, 1) := by decide +kernel
theorem d_Mod_take_15 : decode b_Mod_take 15 = .ok (.istore_n 1, 1) := by decide +kernel
theorem d_Mod_take_16 : decode b_Mod_take 16 = .ok (.aload_n 0, 1) := by decide +kernel
theorem d_Mod_take_17 : decode b_Mod_take 17 = .ok (.dup, 1) := by decide +kernel
theorem d_Mod_take_18 : decode b_Mod_take 18 = .ok (.getfield 125, 3) := by decide +kernel
theorem d_Mod_take_21 : decode b_Mod_take 21 = .ok (.iconst 1, 1) := by decide +kernel
theorem d_Mod_take_22 : decode b_Mod_take 22 = .ok (.isub, 1) := by decide +kernel
theorem d_Mod_take_23 : decode b_Mod_take 23 = .ok (.putfield 125, 3) := by decide +kernel
theorem d_Mod_take_26 : decode b_Mod_take 26 = .ok (.iconst 0, 1) := by decide +kernel
theorem d_Mod_take_27 : decode b_Mod_take 27 = .ok (.istore_n 2, 1) := by decide +kernel
theorem d_Mod_take_28 : decode b_Mod_take 28 = .ok (.iload_n 2, 1) := by decide +kernel
theorem d_Mod_take_29 : decode b_Mod_take 29 = .ok (.aload_n 0, 1) := by decide +kernel
theorem d_Mod_take_30 : decode b_Mod_take 30 = .ok (.getfield 125, 3) := by decide +kernel
theorem d_Mod_take_33 : decode b_Mod_take 33 = .ok (.if_icmp .ge 23, 3) := by decide +kernel
theorem d_Mod_take_36 : decode b_Mod_take 36 = .ok (.aload_n 0, 1) := by decide +kernel
theorem d_Mod_take_37 : decode b_Mod_take 37 = .ok (.getfield 34, 3) := by decide +kernel
theorem d_Mod_take_40 : decode b_Mod_take 40 = .ok (.iload_n 2, 1) := by decide +kernel
theorem d_Mod_take_41 : decode b_Mod_take 41 = .ok (.aload_n 0, 1) := by decide +kernel
theorem d_Mod_take_42 : decode b_Mod_take 42 = .ok (.getfield 34, 3) := by decide +kernel
theorem d_Mod_take_45 : decode b_Mod_take 45 = .ok (.iload_n 2, 1) := by decide +kernel
theorem d_Mod_take_46 : decode b_Mod_take 46 = .ok (.iconst 1, 1) := by decide +kernel
theorem d_Mod_take_47 : decode b_Mod_take 47 = .ok (.iadd, 1) := by decide +kernel
theorem d_Mod_take_48 : decode b_Mod_take 48 = .ok (.iaload, 1) := by decide +kernel
theorem d_Mod_take_49 : decode b_Mod_take 49 = .ok (.iastore, 1) := by decide +kernel
theorem d_Mod_take_50 : decode b_Mod_take 50 = .ok (.iinc 2 1, 3) := by decide +kernel
theorem d_Mod_take_53 : decode b_Mod_take 53 = .ok (.goto (-25), 3) := by decide +kernel
theorem d_Mod_take_56 : decode b_Mod_take 56 = .ok (.iload_n 1, 1) := by decide +kernel
theorem d_Mod_take_57 : decode b_Mod_take 57 = .ok (.ireturn, 1) := by decide +kernel
theorem d_Mod_call_0 : decode b_Mod_call 0 = .ok (.aload_n 0, 1) := by decide +kernel
theorem d_Mod_call_1 : decode b_Mod_call 1 = .ok (.getfield 22, 3) := by decide +kernel
theorem d_Mod_call_4 : decode b_Mod_call 4 = .ok (.iload_n 1, 1) := by decide +kernel
theorem d_Mod_call_5 : decode b_Mod_call 5 = .ok (.iaload, 1) := by decide +kernel
theorem d_Mod_call_6 : decode b_Mod_call 6 = .ok (.ifCond .ge 6, 3) := by decide +kernel
theorem d_Mod_call_9 : decode b_Mod_call 9 = .ok (.bipush (-3), 2) := by decide +kernel
theorem d_Mod_call_11 : decode b_Mod_call 11 = .ok (.ireturn, 1) := by decide +kernel
theorem d_Mod_call_12 : decode b_Mod_call 12 = .ok (.aload_n 0, 1) := by decide +kernel
theorem d_Mod_call_13 : decode b_Mod_call 13 = .ok (.getfield 135, 3) := by decide +kernel
theorem d_Mod_call_16 : decode b_Mod_call 16 = .ok (.bipush 40, 2) := by decide +kernel
theorem d_Mod_call_18 : decode b_Mod_call 18 = .ok (.if_icmp .ne 6, 3) := by decide +kernel
theorem d_Mod_call_21 : decode b_Mod_call 21 = .ok (.bipush (-4), 2) := by decide +kernel
theorem d_Mod_call_23 : decode b_Mod_call 23 = .ok (.ireturn, 1) := by decide +kernel
theorem d_Mod_call_24 : decode b_Mod_call 24 = .ok (.aload_n 0, 1) := by decide +kernel
theorem d_Mod_call_25 : decode b_Mod_call 25 = .ok (.dup, 1) := by decide +kernel
theorem d_Mod_call_26 : decode b_Mod_call 26 = .ok (.getfield 135, 3) := by decide +kernel
theorem d_Mod_call_29 : decode b_Mod_call 29 = .ok (.iconst 1, 1) := by decide +kernel
theorem d_Mod_call_30 : decode b_Mod_call 30 = .ok (.iadd, 1) := by decide +kernel
theorem d_Mod_call_31 : decode b_Mod_call 31 = .ok (.putfield 135, 3) := by decide +kernel
theorem d_Mod_call_34 : decode b_Mod_call 34 = .ok (.iconst 0, 1) := by decide +kernel
theorem d_Mod_call_35 : decode b_Mod_call 35 = .ok (.istore_n 2, 1) := by decide +kernel
theorem d_Mod_call_36 : decode b_Mod_call 36 = .ok (.aload_n 0, 1) := by decide +kernel
theorem d_Mod_call_37 : decode b_Mod_call 37 = .ok (.getfield 22, 3) := by decide +kernel
theorem d_Mod_call_40 : decode b_Mod_call 40 = .ok (.iload_n 1, 1) := by decide +kernel
theorem d_Mod_call_41 : decode b_Mod_call 41 = .ok (.iaload, 1) := by decide +kernel
theorem d_Mod_call_42 : decode b_Mod_call 42 = .ok (.istore_n 3, 1) := by decide +kernel
theorem d_Mod_call_43 : decode b_Mod_call 43 = .ok (.iconst 0, 1) := by decide +kernel
theorem d_Mod_call_44 : decode b_Mod_call 44 = .ok (.istore 4, 2) := by decide +kernel
theorem d_Mod_call_46 : decode b_Mod_call 46 = .ok (.iload 4, 2) := by decide +kernel
theorem d_Mod_call_48 : decode b_Mod_call 48 = .ok (.iload_n 3, 1) := by decide +kernel
theorem d_Mod_call_49 : decode b_Mod_call 49 = .ok (.if_icmp .ge 29, 3) := by decide +kernel
theorem d_Mod_call_52 : decode b_Mod_call 52 = .ok (.aload_n 0, 1) := by decide +kernel
theorem d_Mod_call_53 : decode b_Mod_call 53 = .ok (.getfield 19, 3) := by decide +kernel
theorem d_Mod_call_56 : decode b_Mod_call 56 = .ok (.iload_n 1, 1) := by decide +kernel
theorem d_Mod_call_57 : decode b_Mod_call 57 = .ok (.bipush 24, 2) := by decide +kernel
theorem d_Mod_call_59 : decode b_Mod_call 59 = .ok (.imul, 1) := by decide +kernel
theorem d_Mod_call_60 : decode b_Mod_call 60 = .ok (.iload 4, 2) := by decide +kernel
theorem d_Mod_call_62 : decode b_Mod_call 62 = .ok (.iadd, 1) := by decide +kernel
theorem d_Mod_call_63 : decode b_Mod_call 63 = .ok (.iaload, 1) := by decide +kernel
theorem d_Mod_call_64 : decode b_Mod_call 64 = .ok (.bipush 35, 2) := by decide +kernel
theorem d_Mod_call_66 : decode b_Mod_call 66 = .ok (.if_icmp .ne 6, 3) := by decide +kernel
theorem d_Mod_call_69 : decode b_Mod_call 69 = .ok (.iinc 2 1, 3) := by decide +kernel
theorem d_Mod_call_72 : decode b_Mod_call 72 = .ok (.iinc 4 1, 3) := by decide +kernel
theorem d_Mod_call_75 : decode b_Mod_call 75 = .ok (.goto (-29), 3) := by decide +kernel
theorem d_Mod_call_78 : decode b_Mod_call 78 = .ok (.iload_n 2, 1) := by decide +kernel
theorem d_Mod_call_79 : decode b_Mod_call 79 = .ok (.ifCond .le 13, 3) := by decide +kernel
theorem d_Mod_call_82 : decode b_Mod_call 82 = .ok (.aload_n 0, 1) := by decide +kernel
theorem d_Mod_call_83 : decode b_Mod_call 83 = .ok (.invokevirtual 138, 3) := by decide +kernel
theorem d_Mod_call_86 : decode b_Mod_call 86 = .ok (.ifCond .ne 6, 3) := by decide +kernel
theorem d_Mod_call_89 : decode b_Mod_call 89 = .ok (.bipush (-3), 2) := by decide +kernel
theorem d_Mod_call_91 : decode b_Mod_call 91 = .ok (.ireturn, 1) := by decide +kernel
theorem d_Mod_call_92 : decode b_Mod_call 92 = .ok (.iload_n 2, 1) := by decide +kernel
theorem d_Mod_call_93 : decode b_Mod_call 93 = .ok (.ifCond .le 14, 3) := by decide +kernel
theorem d_Mod_call_96 : decode b_Mod_call 96 = .ok (.iload_n 3, 1) := by decide +kernel
theorem d_Mod_call_97 : decode b_Mod_call 97 = .ok (.iload_n 2, 1) := by decide +kernel
theorem d_Mod_call_98 : decode b_Mod_call 98 = .ok (.aload_n 0, 1) := by decide +kernel
theorem d_Mod_call_99 : decode b_Mod_call 99 = .ok (.getfield 128, 3) := by decide +kernel
theorem d_Mod_call_102 : decode b_Mod_call 102 = .ok (.iconst 1, 1) := by decide +kernel
theorem d_Mod_call_103 : decode b_Mod_call 103 = .ok (.isub, 1) := by decide +kernel
theorem d_Mod_call_104 : decode b_Mod_call 104 = .ok (.imul, 1) := by decide +kernel
theorem d_Mod_call_105 : decode b_Mod_call 105 = .ok (.iadd, 1) := by decide +kernel
theorem d_Mod_call_106 : decode b_Mod_call 106 = .ok (.istore_n 3, 1) := by decide +kernel
theorem d_Mod_call_107 : decode b_Mod_call 107 = .ok (.iload_n 3, 1) := by decide +kernel
theorem d_Mod_call_108 : decode b_Mod_call 108 = .ok (.aload_n 0, 1) := by decide +kernel
theorem d_Mod_call_109 : decode b_Mod_call 109 = .ok (.getfield 125, 3) := by decide +kernel
theorem d_Mod_call_112 : decode b_Mod_call 112 = .ok (.iadd, 1) := by decide +kernel
theorem d_Mod_call_113 : decode b_Mod_call 113 = .ok (.sipush 200, 3) := by decide +kernel
theorem d_Mod_call_116 : decode b_Mod_call 116 = .ok (.if_icmp .le 6, 3) := by decide +kernel
theorem d_Mod_call_119 : decode b_Mod_call 119 = .ok (.bipush (-4), 2) := by decide +kernel
theorem d_Mod_call_121 : decode b_Mod_call 121 = .ok (.ireturn, 1) := by decide +kernel
theorem d_Mod_call_122 : decode b_Mod_call 122 = .ok (.iconst 0, 1) := by decide +kernel
theorem d_Mod_call_123 : decode b_Mod_call 123 = .ok (.istore 4, 2) := by decide +kernel
theorem d_Mod_call_125 : decode b_Mod_call 125 = .ok (.iload 4, 2) := by decide +kernel
theorem d_Mod_call_127 : decode b_Mod_call 127 = .ok (.aload_n 0, 1) := by decide +kernel
theorem d_Mod_call_128 : decode b_Mod_call 128 = .ok (.getfield 125, 3) := by decide +kernel
theorem d_Mod_call_131 : decode b_Mod_call 131 = .ok (.if_icmp .ge 23, 3) := by decide +kernel
theorem d_Mod_call_134 : decode b_Mod_call 134 = .ok (.aload_n 0, 1) := by decide +kernel
theorem d_Mod_call_135 : decode b_Mod_call 135 = .ok (.getfield 37, 3) := by decide +kernel
theorem d_Mod_call_138 : decode b_Mod_call 138 = .ok (.iload 4, 2) := by decide +kernel
theorem d_Mod_call_140 : decode b_Mod_call 140 = .ok (.aload_n 0, 1) := by decide +kernel
theorem d_Mod_call_141 : decode b_Mod_call 141 = .ok (.getfield 34, 3) := by decide +kernel
theorem d_Mod_call_144 : decode b_Mod_call 144 = .ok (.iload 4, 2) := by decide +kernel
theorem d_Mod_call_146 : decode b_Mod_call 146 = .ok (.iaload, 1) := by decide +kernel
theorem d_Mod_call_147 : decode b_Mod_call 147 = .ok (.iastore, 1) := by decide +kernel
theorem d_Mod_call_148 : decode b_Mod_call 148 = .ok (.iinc 4 1, 3) := by decide +kernel
theorem d_Mod_call_151 : decode b_Mod_call 151 = .ok (.goto (-26), 3) := by decide +kernel
theorem d_Mod_call_154 : decode b_Mod_call 154 = .ok (.iconst 0, 1) := by decide +kernel
theorem d_Mod_call_155 : decode b_Mod_call 155 = .ok (.istore 4, 2) := by decide +kernel
theorem d_Mod_call_157 : decode b_Mod_call 157 = .ok (.iconst 0, 1) := by decide +kernel
theorem d_Mod_call_158 : decode b_Mod_call 158 = .ok (.istore 5, 2) := by decide +kernel
theorem d_Mod_call_160 : decode b_Mod_call 160 = .ok (.iload 5, 2) := by decide +kernel
theorem d_Mod_call_162 : decode b_Mod_call 162 = .ok (.aload_n 0, 1) := by decide +kernel
theorem d_Mod_call_163 : decode b_Mod_call 163 = .ok (.getfield 22, 3) := by decide +kernel
theorem d_Mod_call_166 : decode b_Mod_call 166 = .ok (.iload_n 1, 1) := by decide +kernel
theorem d_Mod_call_167 : decode b_Mod_call 167 = .ok (.iaload, 1) := by decide +kernel
theorem d_Mod_call_168 : decode b_Mod_call 168 = .ok (.if_icmp .ge 87, 3) := by decide +kernel
theorem d_Mod_call_171 : decode b_Mod_call 171 = .ok (.aload_n 0, 1) := by decide +kernel
theorem d_Mod_call_172 : decode b_Mod_call 172 = .ok (.getfield 19, 3) := by decide +kernel
theorem d_Mod_call_175 : decode b_Mod_call 175 = .ok (.iload_n 1, 1) := by decide +kernel
theorem d_Mod_call_176 : decode b_Mod_call 176 = .ok (.bipush 24, 2) := by decide +kernel
theorem d_Mod_call_178 : decode b_Mod_call 178 = .ok (.imul, 1) := by decide +kernel
theorem d_Mod_call_179 : decode b_Mod_call 179 = .ok (.iload 5, 2) := by decide +kernel
theorem d_Mod_call_181 : decode b_Mod_call 181 = .ok (.iadd, 1) := by decide +kernel
theorem d_Mod_call_182 : decode b_Mod_call 182 = .ok (.iaload, 1) := by decide +kernel
theorem d_Mod_call_183 : decode b_Mod_call 183 = .ok (.istore 6, 2) := by decide +kernel
theorem d_Mod_call_185 : decode b_Mod_call 185 = .ok (.iconst 0, 1) := by decide +kernel
theorem d_Mod_call_186 : decode b_Mod_call 186 = .ok (.istore 7, 2) := by decide +kernel
theorem d_Mod_call_188 : decode b_Mod_call 188 = .ok (.iload 6, 2) := by decide +kernel
theorem d_Mod_call_190 : decode b_Mod_call 190 = .ok (.bipush 35, 2) := by decide +kernel
theorem d_Mod_call_192 : decode b_Mod_call 192 = .ok (.if_icmp .ne 35, 3) := by decide +kernel
theorem d_Mod_call_195 : decode b_Mod_call 195 = .ok (.iload 7, 2) := by decide +kernel
theorem d_Mod_call_197 : decode b_Mod_call 197 = .ok (.aload_n 0, 1) := by decide +kernel
theorem d_Mod_call_198 : decode b_Mod_call 198 = .ok (.getfield 128, 3) := by decide +kernel
theorem d_Mod_call_201 : decode b_Mod_call 201 = .ok (.if_icmp .ge 26, 3) := by decide +kernel
theorem d_Mod_call_204 : decode b_Mod_call 204 = .ok (.aload_n 0, 1) := by decide +kernel
theorem d_Mod_call_205 : decode b_Mod_call 205 = .ok (.getfield 34, 3) := by decide +kernel
theorem d_Mod_call_208 : decode b_Mod_call 208 = .ok (.iload 4, 2) := by decide +kernel
theorem d_Mod_call_210 : decode b_Mod_call 210 = .ok (.aload_n 0, 1) := by decide +kernel
theorem d_Mod_call_211 : decode b_Mod_call 211 = .ok (.getfield 40, 3) := by decide +kernel
theorem d_Mod_call_214 : decode b_Mod_call 214 = .ok (.iload 7, 2) := by decide +kernel
theorem d_Mod_call_216 : decode b_Mod_call 216 = .ok (.iaload, 1) := by decide +kernel
theorem d_Mod_call_217 : decode b_Mod_call 217 = .ok (.iastore, 1) := by decide +kernel
theorem d_Mod_call_218 : decode b_Mod_call 218 = .ok (.iinc 4 1, 3) := by decide +kernel
theorem d_Mod_call_221 : decode b_Mod_call 221 = .ok (.iinc 7 1, 3) := by decide +kernel
theorem d_Mod_call_224 : decode b_Mod_call 224 = .ok (.goto (-36), 3) := by decide +kernel
theorem d_Mod_call_227 : decode b_Mod_call 227 = .ok (.iload 6, 2) := by decide +kernel
theorem d_Mod_call_229 : decode b_Mod_call 229 = .ok (.bipush 35, 2) := by decide +kernel
theorem d_Mod_call_231 : decode b_Mod_call 231 = .ok (.if_icmp .ne 6, 3) := by decide +kernel
theorem d_Mod_call_234 : decode b_Mod_call 234 = .ok (.goto 15, 3) := by decide +kernel
theorem d_Mod_call_237 : decode b_Mod_call 237 = .ok (.aload_n 0, 1) := by decide +kernel
theorem d_Mod_call_238 : decode b_Mod_call 238 = .ok (.getfield 34, 3) := by decide +kernel
theorem d_Mod_call_241 : decode b_Mod_call 241 = .ok (.iload 4, 2) := by decide +kernel
theorem d_Mod_call_243 : decode b_Mod_call 243 = .ok (.iload 6, 2) := by decide +kernel
theorem d_Mod_call_245 : decode b_Mod_call 245 = .ok (.iastore, 1) := by decide +kernel
theorem d_Mod_call_246 : decode b_Mod_call 246 = .ok (.iinc 4 1, 3) := by decide +kernel
theorem d_Mod_call_249 : decode b_Mod_call 249 = .ok (.iinc 5 1, 3) := by decide +kernel
theorem d_Mod_call_252 : decode b_Mod_call 252 = .ok (.goto (-92), 3) := by decide +kernel
theorem d_Mod_call_255 : decode b_Mod_call 255 = .ok (.iconst 0, 1) := by decide +kernel
theorem d_Mod_call_256 : decode b_Mod_call 256 = .ok (.istore 5, 2) := by decide +kernel
theorem d_Mod_call_258 : decode b_Mod_call 258 = .ok (.iload 5, 2) := by decide +kernel
theorem d_Mod_call_260 : decode b_Mod_call 260 = .ok (.aload_n 0, 1) := by decide +kernel
theorem d_Mod_call_261 : decode b_Mod_call 261 = .ok (.getfield 125, 3) := by decide +kernel
theorem d_Mod_call_264 : decode b_Mod_call 264 = .ok (.if_icmp .ge 26, 3) := by decide +kernel
theorem d_Mod_call_267 : decode b_Mod_call 267 = .ok (.aload_n 0, 1) := by decide +kernel
theorem d_Mod_call_268 : decode b_Mod_call 268 = .ok (.getfield 34, 3) := by decide +kernel
theorem d_Mod_call_271 : decode b_Mod_call 271 = .ok (.iload 4, 2) := by decide +kernel
theorem d_Mod_call_273 : decode b_Mod_call 273 = .ok (.iload 5, 2) := by decide +kernel
theorem d_Mod_call_275 : decode b_Mod_call 275 = .ok (.iadd, 1) := by decide +kernel
theorem d_Mod_call_276 : decode b_Mod_call 276 = .ok (.aload_n 0, 1) := by decide +kernel
theorem d_Mod_call_277 : decode b_Mod_call 277 = .ok (.getfield 37, 3) := by decide +kernel
theorem d_Mod_call_280 : decode b_Mod_call 280 = .ok (.iload 5, 2) := by decide +kernel
theorem d_Mod_call_282 : decode b_Mod_call 282 = .ok (.iaload, 1) := by decide +kernel
theorem d_Mod_call_283 : decode b_Mod_call 283 = .ok (.iastore, 1) := by decide +kernel
theorem d_Mod_call_284 : decode b_Mod_call 284 = .ok (.iinc 5 1, 3) := by decide +kernel
theorem d_Mod_call_287 : decode b_Mod_call 287 = .ok (.goto (-29), 3) := by decide +kernel
theorem d_Mod_call_290 : decode b_Mod_call 290 = .ok (.aload_n 0, 1) := by decide +kernel
theorem d_Mod_call_291 : decode b_Mod_call 291 = .ok (.dup, 1) := by decide +kernel
theorem d_Mod_call_292 : decode b_Mod_call 292 = .ok (.getfield 125, 3) := by decide +kernel
theorem d_Mod_call_295 : decode b_Mod_call 295 = .ok (.iload 4, 2) := by decide +kernel
theorem d_Mod_call_297 : decode b_Mod_call 297 = .ok (.iadd, 1) := by decide +kernel
theorem d_Mod_call_298 : decode b_Mod_call 298 = .ok (.putfield 125, 3) := by decide +kernel
theorem d_Mod_call_301 : decode b_Mod_call 301 = .ok (.iconst 0, 1) := by decide +kernel
theorem d_Mod_call_302 : decode b_Mod_call 302 = .ok (.ireturn, 1) := by decide +kernel
theorem d_Mod_takeArgument_0 : decode b_Mod_takeArgument 0 = .ok (.aload_n 0, 1) := by decide +kernel
theorem d_Mod_takeArgument_1 : decode b_Mod_takeArgument 1 = .ok (.iconst 0, 1) := by decide +kernel
theorem d_Mod_takeArgument_2 : decode b_Mod_takeArgument 2 = .ok (.putfield 128, 3) := by decide +kernel
theorem d_Mod_takeArgument_5 : decode b_Mod_takeArgument 5 = .ok (.aload_n 0, 1) := by decide +kernel
theorem d_Mod_takeArgument_6 : decode b_Mod_takeArgument 6 = .ok (.invokevirtual 131, 3) := by decide +kernel
theorem d_Mod_takeArgument_9 : decode b_Mod_takeArgument 9 = .ok (.istore_n 1, 1) := by decide +kernel
theorem d_Mod_takeArgument_10 : decode b_Mod_takeArgument 10 = .ok (.iload_n 1, 1) := by decide +kernel
theorem d_Mod_takeArgument_11 : decode b_Mod_takeArgument 11 = .ok (.ifCond .lt 9, 3) := by decide +kernel
theorem d_Mod_takeArgument_14 : decode b_Mod_takeArgument 14 = .ok (.iload_n 1, 1) := by decide +kernel
theorem d_Mod_takeArgument_15 : decode b_Mod_takeArgument 15 = .ok (.bipush 125, 2) := by decide +kernel
theorem d_Mod_takeArgument_17 : decode b_Mod_takeArgument 17 = .ok (.if_icmp .ne 5, 3) := by decide +kernel
theorem d_Mod_takeArgument_20 : decode b_Mod_takeArgument 20 = .ok (.iconst 0, 1) := by decide +kernel
theorem d_Mod_takeArgument_21 : decode b_Mod_takeArgument 21 = .ok (.ireturn, 1) := by decide +kernel
theorem d_Mod_takeArgument_22 : decode b_Mod_takeArgument 22 = .ok (.iload_n 1, 1) := by decide +kernel
theorem d_Mod_takeArgument_23 : decode b_Mod_takeArgument 23 = .ok (.bipush 123, 2) := by decide +kernel
theorem d_Mod_takeArgument_25 : decode b_Mod_takeArgument 25 = .ok (.if_icmp .eq 17, 3) := by decide +kernel
theorem d_Mod_takeArgument_28 : decode b_Mod_takeArgument 28 = .ok (.aload_n 0, 1) := by decide +kernel
theorem d_Mod_takeArgument_29 : decode b_Mod_takeArgument 29 = .ok (.getfield 40, 3) := by decide +kernel
theorem d_Mod_takeArgument_32 : decode b_Mod_takeArgument 32 = .ok (.iconst 0, 1) := by decide +kernel
theorem d_Mod_takeArgument_33 : decode b_Mod_takeArgument 33 = .ok (.iload_n 1, 1) := by decide +kernel
theorem d_Mod_takeArgument_34 : decode b_Mod_takeArgument 34 = .ok (.iastore, 1) := by decide +kernel
theorem d_Mod_takeArgument_35 : decode b_Mod_takeArgument 35 = .ok (.aload_n 0, 1) := by decide +kernel
theorem d_Mod_takeArgument_36 : decode b_Mod_takeArgument 36 = .ok (.iconst 1, 1) := by decide +kernel
theorem d_Mod_takeArgument_37 : decode b_Mod_takeArgument 37 = .ok (.putfield 128, 3) := by decide +kernel
theorem d_Mod_takeArgument_40 : decode b_Mod_takeArgument 40 = .ok (.iconst 1, 1) := by decide +kernel
theorem d_Mod_takeArgument_41 : decode b_Mod_takeArgument 41 = .ok (.ireturn, 1) := by decide +kernel
theorem d_Mod_takeArgument_42 : decode b_Mod_takeArgument 42 = .ok (.iconst 1, 1) := by decide +kernel
theorem d_Mod_takeArgument_43 : decode b_Mod_takeArgument 43 = .ok (.istore_n 2, 1) := by decide +kernel
theorem d_Mod_takeArgument_44 : decode b_Mod_takeArgument 44 = .ok (.iconst 0, 1) := by decide +kernel
theorem d_Mod_takeArgument_45 : decode b_Mod_takeArgument 45 = .ok (.istore_n 3, 1) := by decide +kernel
theorem d_Mod_takeArgument_46 : decode b_Mod_takeArgument 46 = .ok (.iload_n 3, 1) := by decide +kernel
theorem d_Mod_takeArgument_47 : decode b_Mod_takeArgument 47 = .ok (.sipush 201, 3) := by decide +kernel
theorem d_Mod_takeArgument_50 : decode b_Mod_takeArgument 50 = .ok (.if_icmp .ge 64, 3) := by decide +kernel
theorem d_Mod_takeArgument_53 : decode b_Mod_takeArgument 53 = .ok (.aload_n 0, 1) := by decide +kernel
theorem d_Mod_takeArgument_54 : decode b_Mod_takeArgument 54 = .ok (.invokevirtual 131, 3) := by decide +kernel
theorem d_Mod_takeArgument_57 : decode b_Mod_takeArgument 57 = .ok (.istore_n 1, 1) := by decide +kernel
theorem d_Mod_takeArgument_58 : decode b_Mod_takeArgument 58 = .ok (.iload_n 1, 1) := by decide +kernel
theorem d_Mod_takeArgument_59 : decode b_Mod_takeArgument 59 = .ok (.ifCond .ge 5, 3) := by decide +kernel
theorem d_Mod_takeArgument_62 : decode b_Mod_takeArgument 62 = .ok (.iconst 0, 1) := by decide +kernel
theorem d_Mod_takeArgument_63 : decode b_Mod_takeArgument 63 = .ok (.ireturn, 1) := by decide +kernel
theorem d_Mod_takeArgument_64 : decode b_Mod_takeArgument 64 = .ok (.iload_n 1, 1) := by decide +kernel
theorem d_Mod_takeArgument_65 : decode b_Mod_takeArgument 65 = .ok (.bipush 123, 2) := by decide +kernel
theorem d_Mod_takeArgument_67 : decode b_Mod_takeArgument 67 = .ok (.if_icmp .ne 6, 3) := by decide +kernel
theorem d_Mod_takeArgument_70 : decode b_Mod_takeArgument 70 = .ok (.iinc 2 1, 3) := by decide +kernel
theorem d_Mod_takeArgument_73 : decode b_Mod_takeArgument 73 = .ok (.iload_n 1, 1) := by decide +kernel
theorem d_Mod_takeArgument_74 : decode b_Mod_takeArgument 74 = .ok (.bipush 125, 2) := by decide +kernel
theorem d_Mod_takeArgument_76 : decode b_Mod_takeArgument 76 = .ok (.if_icmp .ne 6, 3) := by decide +kernel
theorem d_Mod_takeArgument_79 : decode b_Mod_takeArgument 79 = .ok (.iinc 2 (-1), 3) := by decide +kernel
theorem d_Mod_takeArgument_82 : decode b_Mod_takeArgument 82 = .ok (.iload_n 2, 1) := by decide +kernel
theorem d_Mod_takeArgument_83 : decode b_Mod_takeArgument 83 = .ok (.ifCond .ne 5, 3) := by decide +kernel
theorem d_Mod_takeArgument_86 : decode b_Mod_takeArgument 86 = .ok (.iconst 1, 1) := by decide +kernel
theorem d_Mod_takeArgument_87 : decode b_Mod_takeArgument 87 = .ok (.ireturn, 1) := by decide +kernel
theorem d_Mod_takeArgument_88 : decode b_Mod_takeArgument 88 = .ok (.aload_n 0, 1) := by decide +kernel
theorem d_Mod_takeArgument_89 : decode b_Mod_takeArgument 89 = .ok (.getfield 40, 3) := by decide +kernel
theorem d_Mod_takeArgument_92 : decode b_Mod_takeArgument 92 = .ok (.aload_n 0, 1) := by decide +kernel
theorem d_Mod_takeArgument_93 : decode b_Mod_takeArgument 93 = .ok (.getfield 128, 3) := by decide +kernel
theorem d_Mod_takeArgument_96 : decode b_Mod_takeArgument 96 = .ok (.iload_n 1, 1) := by decide +kernel
theorem d_Mod_takeArgument_97 : decode b_Mod_takeArgument 97 = .ok (.iastore, 1) := by decide +kernel
theorem d_Mod_takeArgument_98 : decode b_Mod_takeArgument 98 = .ok (.aload_n 0, 1) := by decide +kernel
theorem d_Mod_takeArgument_99 : decode b_Mod_takeArgument 99 = .ok (.dup, 1) := by decide +kernel
theorem d_Mod_takeArgument_100 : decode b_Mod_takeArgument 100 = .ok (.getfield 128, 3) := by decide +kernel
theorem d_Mod_takeArgument_103 : decode b_Mod_takeArgument 103 = .ok (.iconst 1, 1) := by decide +kernel
theorem d_Mod_takeArgument_104 : decode b_Mod_takeArgument 104 = .ok (.iadd, 1) := by decide +kernel
theorem d_Mod_takeArgument_105 : decode b_Mod_takeArgument 105 = .ok (.putfield 128, 3) := by decide +kernel
theorem d_Mod_takeArgument_108 : decode b_Mod_takeArgument 108 = .ok (.iinc 3 1, 3) := by decide +kernel
theorem d_Mod_takeArgument_111 : decode b_Mod_takeArgument 111 = .ok (.goto (-65), 3) := by decide +kernel
theorem d_Mod_takeArgument_114 : decode b_Mod_takeArgument 114 = .ok (.iconst 0, 1) := by decide +kernel
theorem d_Mod_takeArgument_115 : decode b_Mod_takeArgument 115 = .ok (.ireturn, 1) := by decide +kernel
theorem d_Mod_clean_0 : decode b_Mod_clean 0 = .ok (.iconst 0, 1) := by decide +kernel
theorem d_Mod_clean_1 : decode b_Mod_clean 1 = .ok (.istore_n 1, 1) := by decide +kernel
theorem d_Mod_clean_2 : decode b_Mod_clean 2 = .ok (.iload_n 1, 1) := by decide +kernel
theorem d_Mod_clean_3 : decode b_Mod_clean 3 = .ok (.aload_n 0, 1) := by decide +kernel
theorem d_Mod_clean_4 : decode b_Mod_clean 4 = .ok (.getfield 142, 3) := by decide +kernel
theorem d_Mod_clean_7 : decode b_Mod_clean 7 = .ok (.if_icmp .ge 68, 3) := by decide +kernel
theorem d_Mod_clean_10 : decode b_Mod_clean 10 = .ok (.iload_n 1, 1) := by decide +kernel
theorem d_Mod_clean_11 : decode b_Mod_clean 11 = .ok (.ifCond .eq 29, 3) := by decide +kernel
theorem d_Mod_clean_14 : decode b_Mod_clean 14 = .ok (.aload_n 0, 1) := by decide +kernel
theorem d_Mod_clean_15 : decode b_Mod_clean 15 = .ok (.getfield 46, 3) := by decide +kernel
theorem d_Mod_clean_18 : decode b_Mod_clean 18 = .ok (.iload_n 1, 1) := by decide +kernel
theorem d_Mod_clean_19 : decode b_Mod_clean 19 = .ok (.iconst 1, 1) := by decide +kernel
theorem d_Mod_clean_20 : decode b_Mod_clean 20 = .ok (.isub, 1) := by decide +kernel
theorem d_Mod_clean_21 : decode b_Mod_clean 21 = .ok (.iaload, 1) := by decide +kernel
theorem d_Mod_clean_22 : decode b_Mod_clean 22 = .ok (.bipush 32, 2) := by decide +kernel
theorem d_Mod_clean_24 : decode b_Mod_clean 24 = .ok (.if_icmp .eq 16, 3) := by decide +kernel
theorem d_Mod_clean_27 : decode b_Mod_clean 27 = .ok (.aload_n 0, 1) := by decide +kernel
theorem d_Mod_clean_28 : decode b_Mod_clean 28 = .ok (.getfield 46, 3) := by decide +kernel
theorem d_Mod_clean_31 : decode b_Mod_clean 31 = .ok (.iload_n 1, 1) := by decide +kernel
theorem d_Mod_clean_32 : decode b_Mod_clean 32 = .ok (.iconst 1, 1) := by decide +kernel
theorem d_Mod_clean_33 : decode b_Mod_clean 33 = .ok (.isub, 1) := by decide +kernel
theorem d_Mod_clean_34 : decode b_Mod_clean 34 = .ok (.iaload, 1) := by decide +kernel
theorem d_Mod_clean_35 : decode b_Mod_clean 35 = .ok (.bipush 124, 2) := by decide +kernel
theorem d_Mod_clean_37 : decode b_Mod_clean 37 = .ok (.if_icmp .ne 7, 3) := by decide +kernel
theorem d_Mod_clean_40 : decode b_Mod_clean 40 = .ok (.iconst 1, 1) := by decide +kernel
theorem d_Mod_clean_41 : decode b_Mod_clean 41 = .ok (.goto 4, 3) := by decide +kernel
theorem d_Mod_clean_44 : decode b_Mod_clean 44 = .ok (.iconst 0, 1) := by decide +kernel
theorem d_Mod_clean_45 : decode b_Mod_clean 45 = .ok (.istore_n 2, 1) := by decide +kernel
theorem d_Mod_clean_46 : decode b_Mod_clean 46 = .ok (.aload_n 0, 1) := by decide +kernel
theorem d_Mod_clean_47 : decode b_Mod_clean 47 = .ok (.getfield 46, 3) := by decide +kernel
theorem d_Mod_clean_50 : decode b_Mod_clean 50 = .ok (.iload_n 1, 1) := by decide +kernel
theorem d_Mod_clean_51 : decode b_Mod_clean 51 = .ok (.iaload, 1) := by decide +kernel
theorem d_Mod_clean_52 : decode b_Mod_clean 52 = .ok (.bipush 32, 2) := by decide +kernel
theorem d_Mod_clean_54 : decode b_Mod_clean 54 = .ok (.if_icmp .ne 15, 3) := by decide +kernel
theorem d_Mod_clean_57 : decode b_Mod_clean 57 = .ok (.iload_n 2, 1) := by decide +kernel
theorem d_Mod_clean_58 : decode b_Mod_clean 58 = .ok (.ifCond .eq 11, 3) := by decide +kernel
theorem d_Mod_clean_61 : decode b_Mod_clean 61 = .ok (.aload_n 0, 1) := by decide +kernel
theorem d_Mod_clean_62 : decode b_Mod_clean 62 = .ok (.iload_n 1, 1) := by decide +kernel
theorem d_Mod_clean_63 : decode b_Mod_clean 63 = .ok (.invokevirtual 149, 3) := by decide +kernel
theorem d_Mod_clean_66 : decode b_Mod_clean 66 = .ok (.goto 6, 3) := by decide +kernel
theorem d_Mod_clean_69 : decode b_Mod_clean 69 = .ok (.iinc 1 1, 3) := by decide +kernel
theorem d_Mod_clean_72 : decode b_Mod_clean 72 = .ok (.goto (-70), 3) := by decide +kernel
theorem d_Mod_clean_75 : decode b_Mod_clean 75 = .ok (.aload_n 0, 1) := by decide +kernel
theorem d_Mod_clean_76 : decode b_Mod_clean 76 = .ok (.getfield 142, 3) := by decide +kernel
theorem d_Mod_clean_79 : decode b_Mod_clean 79 = .ok (.iconst 1, 1) := by decide +kernel
theorem d_Mod_clean_80 : decode b_Mod_clean 80 = .ok (.isub, 1) := by decide +kernel
theorem d_Mod_clean_81 : decode b_Mod_clean 81 = .ok (.istore_n 1, 1) := by decide +kernel
theorem d_Mod_clean_82 : decode b_Mod_clean 82 = .ok (.iload_n 1, 1) := by decide +kernel
theorem d_Mod_clean_83 : decode b_Mod_clean 83 = .ok (.ifCond .lt 48, 3) := by decide +kernel
theorem d_Mod_clean_86 : decode b_Mod_clean 86 = .ok (.aload_n 0, 1) := by decide +kernel
theorem d_Mod_clean_87 : decode b_Mod_clean 87 = .ok (.getfield 46, 3) := by decide +kernel
theorem d_Mod_clean_90 : decode b_Mod_clean 90 = .ok (.iload_n 1, 1) := by decide +kernel
theorem d_Mod_clean_91 : decode b_Mod_clean 91 = .ok (.iaload, 1) := by decide +kernel
theorem d_Mod_clean_92 : decode b_Mod_clean 92 = .ok (.bipush 32, 2) := by decide +kernel
theorem d_Mod_clean_94 : decode b_Mod_clean 94 = .ok (.if_icmp .ne 31, 3) := by decide +kernel
theorem d_Mod_clean_97 : decode b_Mod_clean 97 = .ok (.iload_n 1, 1) := by decide +kernel
theorem d_Mod_clean_98 : decode b_Mod_clean 98 = .ok (.aload_n 0, 1) := by decide +kernel
theorem d_Mod_clean_99 : decode b_Mod_clean 99 = .ok (.getfield 142, 3) := by decide +kernel
theorem d_Mod_clean_102 : decode b_Mod_clean 102 = .ok (.iconst 1, 1) := by decide +kernel
theorem d_Mod_clean_103 : decode b_Mod_clean 103 = .ok (.isub, 1) := by decide +kernel
theorem d_Mod_clean_104 : decode b_Mod_clean 104 = .ok (.if_icmp .eq 16, 3) := by decide +kernel
theorem d_Mod_clean_107 : decode b_Mod_clean 107 = .ok (.aload_n 0, 1) := by decide +kernel
theorem d_Mod_clean_108 : decode b_Mod_clean 108 = .ok (.getfield 46, 3) := by decide +kernel
theorem d_Mod_clean_111 : decode b_Mod_clean 111 = .ok (.iload_n 1, 1) := by decide +kernel
theorem d_Mod_clean_112 : decode b_Mod_clean 112 = .ok (.iconst 1, 1) := by decide +kernel
theorem d_Mod_clean_113 : decode b_Mod_clean 113 = .ok (.iadd, 1) := by decide +kernel
theorem d_Mod_clean_114 : decode b_Mod_clean 114 = .ok (.iaload, 1) := by decide +kernel
theorem d_Mod_clean_115 : decode b_Mod_clean 115 = .ok (.bipush 124, 2) := by decide +kernel
theorem d_Mod_clean_117 : decode b_Mod_clean 117 = .ok (.if_icmp .ne 8, 3) := by decide +kernel
theorem d_Mod_clean_120 : decode b_Mod_clean 120 = .ok (.aload_n 0, 1) := by decide +kernel
theorem d_Mod_clean_121 : decode b_Mod_clean 121 = .ok (.iload_n 1, 1) := by decide +kernel
theorem d_Mod_clean_122 : decode b_Mod_clean 122 = .ok (.invokevirtual 149, 3) := by decide +kernel
theorem d_Mod_clean_125 : decode b_Mod_clean 125 = .ok (.iinc 1 (-1), 3) := by decide +kernel
theorem d_Mod_clean_128 : decode b_Mod_clean 128 = .ok (.goto (-46), 3) := by decide +kernel
theorem d_Mod_clean_131 : decode b_Mod_clean 131 = .ok (.iconst 0, 1) := by decide +kernel
theorem d_Mod_clean_132 : decode b_Mod_clean 132 = .ok (.istore_n 1, 1) := by decide +kernel
theorem d_Mod_clean_133 : decode b_Mod_clean 133 = .ok (.iload_n 1, 1) := by decide +kernel
theorem d_Mod_clean_134 : decode b_Mod_clean 134 = .ok (.aload_n 0, 1) := by decide +kernel
theorem d_Mod_clean_135 : decode b_Mod_clean 135 = .ok (.getfield 142, 3) := by decide +kernel
theorem d_Mod_clean_138 : decode b_Mod_clean 138 = .ok (.if_icmp .ge 55, 3) := by decide +kernel
theorem d_Mod_clean_141 : decode b_Mod_clean 141 = .ok (.iload_n 1, 1) := by decide +kernel
theorem d_Mod_clean_142 : decode b_Mod_clean 142 = .ok (.ifCond .eq 16, 3) := by decide +kernel
theorem d_Mod_clean_145 : decode b_Mod_clean 145 = .ok (.aload_n 0, 1) := by decide +kernel
theorem d_Mod_clean_146 : decode b_Mod_clean 146 = .ok (.getfield 46, 3) := by decide +kernel
theorem d_Mod_clean_149 : decode b_Mod_clean 149 = .ok (.iload_n 1, 1) := by decide +kernel
theorem d_Mod_clean_150 : decode b_Mod_clean 150 = .ok (.iconst 1, 1) := by decide +kernel
theorem d_Mod_clean_151 : decode b_Mod_clean 151 = .ok (.isub, 1) := by decide +kernel
theorem d_Mod_clean_152 : decode b_Mod_clean 152 = .ok (.iaload, 1) := by decide +kernel
theorem d_Mod_clean_153 : decode b_Mod_clean 153 = .ok (.bipush 124, 2) := by decide +kernel
theorem d_Mod_clean_155 : decode b_Mod_clean 155 = .ok (.if_icmp .ne 7, 3) := by decide +kernel
theorem d_Mod_clean_158 : decode b_Mod_clean 158 = .ok (.iconst 1, 1) := by decide +kernel
theorem d_Mod_clean_159 : decode b_Mod_clean 159 = .ok (.goto 4, 3) := by decide +kernel
theorem d_Mod_clean_162 : decode b_Mod_clean 162 = .ok (.iconst 0, 1) := by decide +kernel
theorem d_Mod_clean_163 : decode b_Mod_clean 163 = .ok (.istore_n 2, 1) := by decide +kernel
theorem d_Mod_clean_164 : decode b_Mod_clean 164 = .ok (.aload_n 0, 1) := by decide +kernel
theorem d_Mod_clean_165 : decode b_Mod_clean 165 = .ok (.getfield 46, 3) := by decide +kernel
theorem d_Mod_clean_168 : decode b_Mod_clean 168 = .ok (.iload_n 1, 1) := by decide +kernel
theorem d_Mod_clean_169 : decode b_Mod_clean 169 = .ok (.iaload, 1) := by decide +kernel
theorem d_Mod_clean_170 : decode b_Mod_clean 170 = .ok (.bipush 124, 2) := by decide +kernel
theorem d_Mod_clean_172 : decode b_Mod_clean 172 = .ok (.if_icmp .ne 15, 3) := by decide +kernel
theorem d_Mod_clean_175 : decode b_Mod_clean 175 = .ok (.iload_n 2, 1) := by decide +kernel
theorem d_Mod_clean_176 : decode b_Mod_clean 176 = .ok (.ifCond .eq 11, 3) := by decide +kernel
theorem d_Mod_clean_179 : decode b_Mod_clean 179 = .ok (.aload_n 0, 1) := by decide +kernel
theorem d_Mod_clean_180 : decode b_Mod_clean 180 = .ok (.iload_n 1, 1) := by decide +kernel
theorem d_Mod_clean_181 : decode b_Mod_clean 181 = .ok (.invokevirtual 149, 3) := by decide +kernel
theorem d_Mod_clean_184 : decode b_Mod_clean 184 = .ok (.goto 6, 3) := by decide +kernel
theorem d_Mod_clean_187 : decode b_Mod_clean 187 = .ok (.iinc 1 1, 3) := by decide +kernel
theorem d_Mod_clean_190 : decode b_Mod_clean 190 = .ok (.goto (-57), 3) := by decide +kernel
theorem d_Mod_clean_193 : decode b_Mod_clean 193 = .ok (.aload_n 0, 1) := by decide +kernel
theorem d_Mod_clean_194 : decode b_Mod_clean 194 = .ok (.getfield 142, 3) := by decide +kernel
theorem d_Mod_clean_197 : decode b_Mod_clean 197 = .ok (.ifCond .le 32, 3) := by decide +kernel
theorem d_Mod_clean_200 : decode b_Mod_clean 200 = .ok (.aload_n 0, 1) := by decide +kernel
theorem d_Mod_clean_201 : decode b_Mod_clean 201 = .ok (.getfield 46, 3) := by decide +kernel
theorem d_Mod_clean_204 : decode b_Mod_clean 204 = .ok (.aload_n 0, 1) := by decide +kernel
theorem d_Mod_clean_205 : decode b_Mod_clean 205 = .ok (.getfield 142, 3) := by decide +kernel
theorem d_Mod_clean_208 : decode b_Mod_clean 208 = .ok (.iconst 1, 1) := by decide +kernel
theorem d_Mod_clean_209 : decode b_Mod_clean 209 = .ok (.isub, 1) := by decide +kernel
theorem d_Mod_clean_210 : decode b_Mod_clean 210 = .ok (.iaload, 1) := by decide +kernel
theorem d_Mod_clean_211 : decode b_Mod_clean 211 = .ok (.bipush 124, 2) := by decide +kernel
theorem d_Mod_clean_213 : decode b_Mod_clean 213 = .ok (.if_icmp .ne 16, 3) := by decide +kernel
theorem d_Mod_clean_216 : decode b_Mod_clean 216 = .ok (.aload_n 0, 1) := by decide +kernel
theorem d_Mod_clean_217 : decode b_Mod_clean 217 = .ok (.dup, 1) := by decide +kernel
theorem d_Mod_clean_218 : decode b_Mod_clean 218 = .ok (.getfield 142, 3) := by decide +kernel
theorem d_Mod_clean_221 : decode b_Mod_clean 221 = .ok (.iconst 1, 1) := by decide +kernel
theorem d_Mod_clean_222 : decode b_Mod_clean 222 = .ok (.isub, 1) := by decide +kernel
theorem d_Mod_clean_223 : decode b_Mod_clean 223 = .ok (.putfield 142, 3) := by decide +kernel
theorem d_Mod_clean_226 : decode b_Mod_clean 226 = .ok (.goto (-33), 3) := by decide +kernel
theorem d_Mod_clean_229 : decode b_Mod_clean 229 = .ok (.return_, 1) := by decide +kernel
theorem d_Mod_drop_0 : decode b_Mod_drop 0 = .ok (.aload_n 0, 1) := by decide +kernel
theorem d_Mod_drop_1 : decode b_Mod_drop 1 = .ok (.dup, 1) := by decide +kernel
theorem d_Mod_drop_2 : decode b_Mod_drop 2 = .ok (.getfield 142, 3) := by decide +kernel
theorem d_Mod_drop_5 : decode b_Mod_drop 5 = .ok (.iconst 1, 1) := by decide +kernel
theorem d_Mod_drop_6 : decode b_Mod_drop 6 = .ok (.isub, 1) := by decide +kernel
theorem d_Mod_drop_7 : decode b_Mod_drop 7 = .ok (.putfield 142, 3) := by decide +kernel
theorem d_Mod_drop_10 : decode b_Mod_drop 10 = .ok (.iload_n 1, 1) := by decide +kernel
theorem d_Mod_drop_11 : decode b_Mod_drop 11 = .ok (.istore_n 2, 1) := by decide +kernel
theorem d_Mod_drop_12 : decode b_Mod_drop 12 = .ok (.iload_n 2, 1) := by decide +kernel
theorem d_Mod_drop_13 : decode b_Mod_drop 13 = .ok (.aload_n 0, 1) := by decide +kernel
theorem d_Mod_drop_14 : decode b_Mod_drop 14 = .ok (.getfield 142, 3) := by decide +kernel
theorem d_Mod_drop_17 : decode b_Mod_drop 17 = .ok (.if_icmp .ge 37, 3) := by decide +kernel
theorem d_Mod_drop_20 : decode b_Mod_drop 20 = .ok (.aload_n 0, 1) := by decide +kernel
theorem d_Mod_drop_21 : decode b_Mod_drop 21 = .ok (.getfield 46, 3) := by decide +kernel
theorem d_Mod_drop_24 : decode b_Mod_drop 24 = .ok (.iload_n 2, 1) := by decide +kernel
theorem d_Mod_drop_25 : decode b_Mod_drop 25 = .ok (.aload_n 0, 1) := by decide +kernel
theorem d_Mod_drop_26 : decode b_Mod_drop 26 = .ok (.getfield 46, 3) := by decide +kernel
theorem d_Mod_drop_29 : decode b_Mod_drop 29 = .ok (.iload_n 2, 1) := by decide +kernel
theorem d_Mod_drop_30 : decode b_Mod_drop 30 = .ok (.iconst 1, 1) := by decide +kernel
theorem d_Mod_drop_31 : decode b_Mod_drop 31 = .ok (.iadd, 1) := by decide +kernel
theorem d_Mod_drop_32 : decode b_Mod_drop 32 = .ok (.iaload, 1) := by decide +kernel
theorem d_Mod_drop_33 : decode b_Mod_drop 33 = .ok (.iastore, 1) := by decide +kernel
theorem d_Mod_drop_34 : decode b_Mod_drop 34 = .ok (.aload_n 0, 1) := by decide +kernel
theorem d_Mod_drop_35 : decode b_Mod_drop 35 = .ok (.getfield 49, 3) := by decide +kernel
theorem d_Mod_drop_38 : decode b_Mod_drop 38 = .ok (.iload_n 2, 1) := by decide +kernel
theorem d_Mod_drop_39 : decode b_Mod_drop 39 = .ok (.aload_n 0, 1) := by decide +kernel
theorem d_Mod_drop_40 : decode b_Mod_drop 40 = .ok (.getfield 49, 3) := by decide +kernel
theorem d_Mod_drop_43 : decode b_Mod_drop 43 = .ok (.iload_n 2, 1) := by decide +kernel
theorem d_Mod_drop_44 : decode b_Mod_drop 44 = .ok (.iconst 1, 1) := by decide +kernel
theorem d_Mod_drop_45 : decode b_Mod_drop 45 = .ok (.iadd, 1) := by decide +kernel
theorem d_Mod_drop_46 : decode b_Mod_drop 46 = .ok (.iaload, 1) := by decide +kernel
theorem d_Mod_drop_47 : decode b_Mod_drop 47 = .ok (.iastore, 1) := by decide +kernel
theorem d_Mod_drop_48 : decode b_Mod_drop 48 = .ok (.iinc 2 1, 3) := by decide +kernel
theorem d_Mod_drop_51 : decode b_Mod_drop 51 = .ok (.goto (-39), 3) := by decide +kernel
theorem d_Mod_drop_54 : decode b_Mod_drop 54 = .ok (.return_, 1) := by decide +kernel
theorem d_Mod_hyphenate_0 : decode b_Mod_hyphenate 0 = .ok (.aload_n 0, 1) := by decide +kernel
theorem d_Mod_hyphenate_1 : decode b_Mod_hyphenate 1 = .ok (.iconst 0, 1) := by decide +kernel
theorem d_Mod_hyphenate_2 : decode b_Mod_hyphenate 2 = .ok (.putfield 157, 3) := by decide +kernel
theorem d_Mod_hyphenate_5 : decode b_Mod_hyphenate 5 = .ok (.iconst 0, 1) := by decide +kernel
theorem d_Mod_hyphenate_6 : decode b_Mod_hyphenate 6 = .ok (.istore_n 1, 1) := by decide +kernel
theorem d_Mod_hyphenate_7 : decode b_Mod_hyphenate 7 = .ok (.iload_n 1, 1) := by decide +kernel
theorem d_Mod_hyphenate_8 : decode b_Mod_hyphenate 8 = .ok (.aload_n 0, 1) := by decide +kernel
theorem d_Mod_hyphenate_9 : decode b_Mod_hyphenate 9 = .ok (.getfield 142, 3) := by decide +kernel
theorem d_Mod_hyphenate_12 : decode b_Mod_hyphenate 12 = .ok (.if_icmp .gt 16, 3) := by decide +kernel
theorem d_Mod_hyphenate_15 : decode b_Mod_hyphenate 15 = .ok (.aload_n 0, 1) := by decide +kernel
theorem d_Mod_hyphenate_16 : decode b_Mod_hyphenate 16 = .ok (.getfield 61, 3) := by decide +kernel
theorem d_Mod_hyphenate_19 : decode b_Mod_hyphenate 19 = .ok (.iload_n 1, 1) := by decide +kernel
theorem d_Mod_hyphenate_20 : decode b_Mod_hyphenate 20 = .ok (.iconst 0, 1) := by decide +kernel
theorem d_Mod_hyphenate_21 : decode b_Mod_hyphenate 21 = .ok (.bastore, 1) := by decide +kernel
theorem d_Mod_hyphenate_22 : decode b_Mod_hyphenate 22 = .ok (.iinc 1 1, 3) := by decide +kernel
theorem d_Mod_hyphenate_25 : decode b_Mod_hyphenate 25 = .ok (.goto (-18), 3) := by decide +kernel
theorem d_Mod_hyphenate_28 : decode b_Mod_hyphenate 28 = .ok (.iconst 0, 1) := by decide +kernel
theorem d_Mod_hyphenate_29 : decode b_Mod_hyphenate 29 = .ok (.istore_n 1, 1) := by decide +kernel
theorem d_Mod_hyphenate_30 : decode b_Mod_hyphenate 30 = .ok (.iload_n 1, 1) := by decide +kernel
theorem d_Mod_hyphenate_31 : decode b_Mod_hyphenate 31 = .ok (.aload_n 0, 1) := by decide +kernel
theorem d_Mod_hyphenate_32 : decode b_Mod_hyphenate 32 = .ok (.getfield 142, 3) := by decide +kernel
theorem d_Mod_hyphenate_35 : decode b_Mod_hyphenate 35 = .ok (.if_icmp .ge 93, 3) := by decide +kernel
theorem d_Mod_hyphenate_38 : decode b_Mod_hyphenate 38 = .ok (.iconst 0, 1) := by decide +kernel
theorem d_Mod_hyphenate_39 : decode b_Mod_hyphenate 39 = .ok (.istore_n 2, 1) := by decide +kernel
theorem d_Mod_hyphenate_40 : decode b_Mod_hyphenate 40 = .ok (.iload_n 1, 1) := by decide +kernel
theorem d_Mod_hyphenate_41 : decode b_Mod_hyphenate 41 = .ok (.iload_n 2, 1) := by decide +kernel
theorem d_Mod_hyphenate_42 : decode b_Mod_hyphenate 42 = .ok (.iadd, 1) := by decide +kernel
theorem d_Mod_hyphenate_43 : decode b_Mod_hyphenate 43 = .ok (.aload_n 0, 1) := by decide +kernel
theorem d_Mod_hyphenate_44 : decode b_Mod_hyphenate 44 = .ok (.getfield 142, 3) := by decide +kernel
theorem d_Mod_hyphenate_47 : decode b_Mod_hyphenate 47 = .ok (.if_icmp .ge 23, 3) := by decide +kernel
theorem d_Mod_hyphenate_50 : decode b_Mod_hyphenate 50 = .ok (.aload_n 0, 1) := by decide +kernel
theorem d_Mod_hyphenate_51 : decode b_Mod_hyphenate 51 = .ok (.getfield 46, 3) := by decide +kernel
theorem d_Mod_hyphenate_54 : decode b_Mod_hyphenate 54 = .ok (.iload_n 1, 1) := by decide +kernel
theorem d_Mod_hyphenate_55 : decode b_Mod_hyphenate 55 = .ok (.iload_n 2, 1) := by decide +kernel
theorem d_Mod_hyphenate_56 : decode b_Mod_hyphenate 56 = .ok (.iadd, 1) := by decide +kernel
theorem d_Mod_hyphenate_57 : decode b_Mod_hyphenate 57 = .ok (.iaload, 1) := by decide +kernel
theorem d_Mod_hyphenate_58 : decode b_Mod_hyphenate 58 = .ok (.invokestatic 111, 3) := by decide +kernel
theorem d_Mod_hyphenate_61 : decode b_Mod_hyphenate 61 = .ok (.ifCond .eq 9, 3) := by decide +kernel
theorem d_Mod_hyphenate_64 : decode b_Mod_hyphenate 64 = .ok (.iinc 2 1, 3) := by decide +kernel
theorem d_Mod_hyphenate_67 : decode b_Mod_hyphenate 67 = .ok (.goto (-27), 3) := by decide +kernel
theorem d_Mod_hyphenate_70 : decode b_Mod_hyphenate 70 = .ok (.iconst 2, 1) := by decide +kernel
theorem d_Mod_hyphenate_71 : decode b_Mod_hyphenate 71 = .ok (.istore_n 3, 1) := by decide +kernel
theorem d_Mod_hyphenate_72 : decode b_Mod_hyphenate 72 = .ok (.iload_n 3, 1) := by decide +kernel
theorem d_Mod_hyphenate_73 : decode b_Mod_hyphenate 73 = .ok (.iload_n 2, 1) := by decide +kernel
theorem d_Mod_hyphenate_74 : decode b_Mod_hyphenate 74 = .ok (.iconst 2, 1) := by decide +kernel
theorem d_Mod_hyphenate_75 : decode b_Mod_hyphenate 75 = .ok (.isub, 1) := by decide +kernel
theorem d_Mod_hyphenate_76 : decode b_Mod_hyphenate 76 = .ok (.if_icmp .gt 43, 3) := by decide +kernel
theorem d_Mod_hyphenate_79 : decode b_Mod_hyphenate 79 = .ok (.aload_n 0, 1) := by decide +kernel
theorem d_Mod_hyphenate_80 : decode b_Mod_hyphenate 80 = .ok (.iload_n 1, 1) := by decide +kernel
theorem d_Mod_hyphenate_81 : decode b_Mod_hyphenate 81 = .ok (.iload_n 2, 1) := by decide +kernel
theorem d_Mod_hyphenate_82 : decode b_Mod_hyphenate 82 = .ok (.iload_n 3, 1) := by decide +kernel
theorem d_Mod_hyphenate_83 : decode b_Mod_hyphenate 83 = .ok (.invokevirtual 160, 3) := by decide +kernel
theorem d_Mod_hyphenate_86 : decode b_Mod_hyphenate 86 = .ok (.iconst 2, 1) := by decide +kernel
theorem d_Mod_hyphenate_87 : decode b_Mod_hyphenate 87 = .ok (.irem, 1) := by decide +kernel
theorem d_Mod_hyphenate_88 : decode b_Mod_hyphenate 88 = .ok (.ifCond .ne 6, 3) := by decide +kernel
theorem d_Mod_hyphenate_91 : decode b_Mod_hyphenate 91 = .ok (.goto 22, 3) := by decide +kernel
theorem d_Mod_hyphenate_94 : decode b_Mod_hyphenate 94 = .ok (.aload_n 0, 1) := by decide +kernel
theorem d_Mod_hyphenate_95 : decode b_Mod_hyphenate 95 = .ok (.getfield 61, 3) := by decide +kernel
theorem d_Mod_hyphenate_98 : decode b_Mod_hyphenate 98 = .ok (.iload_n 1, 1) := by decide +kernel
theorem d_Mod_hyphenate_99 : decode b_Mod_hyphenate 99 = .ok (.iload_n 3, 1) := by decide +kernel
theorem d_Mod_hyphenate_100 : decode b_Mod_hyphenate 100 = .ok (.iadd, 1) := by decide +kernel
theorem d_Mod_hyphenate_101 : decode b_Mod_hyphenate 101 = .ok (.iconst 1, 1) := by decide +kernel
theorem d_Mod_hyphenate_102 : decode b_Mod_hyphenate 102 = .ok (.bastore, 1) := by decide +kernel
theorem d_Mod_hyphenate_103 : decode b_Mod_hyphenate 103 = .ok (.aload_n 0, 1) := by decide +kernel
theorem d_Mod_hyphenate_104 : decode b_Mod_hyphenate 104 = .ok (.dup, 1) := by decide +kernel
theorem d_Mod_hyphenate_105 : decode b_Mod_hyphenate 105 = .ok (.getfield 157, 3) := by decide +kernel
theorem d_Mod_hyphenate_108 : decode b_Mod_hyphenate 108 = .ok (.iconst 1, 1) := by decide +kernel
theorem d_Mod_hyphenate_109 : decode b_Mod_hyphenate 109 = .ok (.iadd, 1) := by decide +kernel
theorem d_Mod_hyphenate_110 : decode b_Mod_hyphenate 110 = .ok (.putfield 157, 3) := by decide +kernel
theorem d_Mod_hyphenate_113 : decode b_Mod_hyphenate 113 = .ok (.iinc 3 1, 3) := by decide +kernel
theorem d_Mod_hyphenate_116 : decode b_Mod_hyphenate 116 = .ok (.goto (-44), 3) := by decide +kernel
theorem d_Mod_hyphenate_119 : decode b_Mod_hyphenate 119 = .ok (.iload_n 1, 1) := by decide +kernel
theorem d_Mod_hyphenate_120 : decode b_Mod_hyphenate 120 = .ok (.iload_n 2, 1) := by decide +kernel
theorem d_Mod_hyphenate_121 : decode b_Mod_hyphenate 121 = .ok (.iconst 1, 1) := by decide +kernel
theorem d_Mod_hyphenate_122 : decode b_Mod_hyphenate 122 = .ok (.iadd, 1) := by decide +kernel
theorem d_Mod_hyphenate_123 : decode b_Mod_hyphenate 123 = .ok (.iadd, 1) := by decide +kernel
theorem d_Mod_hyphenate_124 : decode b_Mod_hyphenate 124 = .ok (.istore_n 1, 1) := by decide +kernel
theorem d_Mod_hyphenate_125 : decode b_Mod_hyphenate 125 = .ok (.goto (-95), 3) := by decide +kernel
theorem d_Mod_hyphenate_128 : decode b_Mod_hyphenate 128 = .ok (.return_, 1) := by decide +kernel
end
section
theorem d_Mod_greatest_0 : decode b_Mod_greatest 0 = .ok (.iconst 0, 1) := by decide +kernel
theorem d_Mod_greatest_1 : decode b_Mod_greatest 1 = .ok (.istore 4, 2) := by decide +kernel
theorem d_Mod_greatest_3 : decode b_Mod_greatest 3 = .ok (.iconst 0, 1) := by decide +kernel
theorem d_Mod_greatest_4 : decode b_Mod_greatest 4 = .ok (.istore 5, 2) := by decide +kernel
theorem d_Mod_greatest_6 : decode b_Mod_greatest 6 = .ok (.iload 5, 2) := by decide +kernel
theorem d_Mod_greatest_8 : decode b_Mod_greatest 8 = .ok (.aload_n 0, 1) := by decide +kernel
theorem d_Mod_greatest_9 : decode b_Mod_greatest 9 = .ok (.getfield 122, 3) := by decide +kernel
theorem d_Mod_greatest_12 : decode b_Mod_greatest 12 = .ok (.if_icmp .ge 150, 3) := by decide +kernel
theorem d_Mod_greatest_15 : decode b_Mod_greatest 15 = .ok (.iconst 0, 1) := by decide +kernel
theorem d_Mod_greatest_16 : decode b_Mod_greatest 16 = .ok (.istore 6, 2) := by decide +kernel
theorem d_Mod_greatest_18 : decode b_Mod_greatest 18 = .ok (.iload 6, 2) := by decide +kernel
theorem d_Mod_greatest_20 : decode b_Mod_greatest 20 = .ok (.aload_n 0, 1) := by decide +kernel
theorem d_Mod_greatest_21 : decode b_Mod_greatest 21 = .ok (.getfield 31, 3) := by decide +kernel
theorem d_Mod_greatest_24 : decode b_Mod_greatest 24 = .ok (.iload 5, 2) := by decide +kernel
theorem d_Mod_greatest_26 : decode b_Mod_greatest 26 = .ok (.iaload, 1) := by decide +kernel
theorem d_Mod_greatest_27 : decode b_Mod_greatest 27 = .ok (.iadd, 1) := by decide +kernel
theorem d_Mod_greatest_28 : decode b_Mod_greatest 28 = .ok (.iload_n 2, 1) := by decide +kernel
theorem d_Mod_greatest_29 : decode b_Mod_greatest 29 = .ok (.iconst 2, 1) := by decide +kernel
theorem d_Mod_greatest_30 : decode b_Mod_greatest 30 = .ok (.iadd, 1) := by decide +kernel
theorem d_Mod_greatest_31 : decode b_Mod_greatest 31 = .ok (.if_icmp .gt 125, 3) := by decide +kernel
theorem d_Mod_greatest_34 : decode b_Mod_greatest 34 = .ok (.iconst 1, 1) := by decide +kernel
theorem d_Mod_greatest_35 : decode b_Mod_greatest 35 = .ok (.istore 7, 2) := by decide +kernel
theorem d_Mod_greatest_37 : decode b_Mod_greatest 37 = .ok (.iconst 0, 1) := by decide +kernel
theorem d_Mod_greatest_38 : decode b_Mod_greatest 38 = .ok (.istore 8, 2) := by decide +kernel
theorem d_Mod_greatest_40 : decode b_Mod_greatest 40 = .ok (.iload 8, 2) := by decide +kernel
theorem d_Mod_greatest_42 : decode b_Mod_greatest 42 = .ok (.aload_n 0, 1) := by decide +kernel
theorem d_Mod_greatest_43 : decode b_Mod_greatest 43 = .ok (.getfield 31, 3) := by decide +kernel
theorem d_Mod_greatest_46 : decode b_Mod_greatest 46 = .ok (.iload 5, 2) := by decide +kernel
theorem d_Mod_greatest_48 : decode b_Mod_greatest 48 = .ok (.iaload, 1) := by decide +kernel
theorem d_Mod_greatest_49 : decode b_Mod_greatest 49 = .ok (.if_icmp .ge 38, 3) := by decide +kernel
theorem d_Mod_greatest_52 : decode b_Mod_greatest 52 = .ok (.aload_n 0, 1) := by decide +kernel
theorem d_Mod_greatest_53 : decode b_Mod_greatest 53 = .ok (.getfield 25, 3) := by decide +kernel
theorem d_Mod_greatest_56 : decode b_Mod_greatest 56 = .ok (.iload 5, 2) := by decide +kernel
theorem d_Mod_greatest_58 : decode b_Mod_greatest 58 = .ok (.iconst 5, 1) := by decide +kernel
theorem d_Mod_greatest_59 : decode b_Mod_greatest 59 = .ok (.imul, 1) := by decide +kernel
theorem d_Mod_greatest_60 : decode b_Mod_greatest 60 = .ok (.iload 8, 2) := by decide +kernel
theorem d_Mod_greatest_62 : decode b_Mod_greatest 62 = .ok (.iadd, 1) := by decide +kernel
theorem d_Mod_greatest_63 : decode b_Mod_greatest 63 = .ok (.iaload, 1) := by decide +kernel
theorem d_Mod_greatest_64 : decode b_Mod_greatest 64 = .ok (.aload_n 0, 1) := by decide +kernel
theorem d_Mod_greatest_65 : decode b_Mod_greatest 65 = .ok (.iload_n 1, 1) := by decide +kernel
theorem d_Mod_greatest_66 : decode b_Mod_greatest 66 = .ok (.iload_n 2, 1) := by decide +kernel
theorem d_Mod_greatest_67 : decode b_Mod_greatest 67 = .ok (.iload 6, 2) := by decide +kernel
theorem d_Mod_greatest_69 : decode b_Mod_greatest 69 = .ok (.iload 8, 2) := by decide +kernel
theorem d_Mod_greatest_71 : decode b_Mod_greatest 71 = .ok (.iadd, 1) := by decide +kernel
theorem d_Mod_greatest_72 : decode b_Mod_greatest 72 = .ok (.invokevirtual 153, 3) := by decide +kernel
theorem d_Mod_greatest_75 : decode b_Mod_greatest 75 = .ok (.if_icmp .eq 6, 3) := by decide +kernel
theorem d_Mod_greatest_78 : decode b_Mod_greatest 78 = .ok (.iconst 0, 1) := by decide +kernel
theorem d_Mod_greatest_79 : decode b_Mod_greatest 79 = .ok (.istore 7, 2) := by decide +kernel
theorem d_Mod_greatest_81 : decode b_Mod_greatest 81 = .ok (.iinc 8 1, 3) := by decide +kernel
theorem d_Mod_greatest_84 : decode b_Mod_greatest 84 = .ok (.goto (-44), 3) := by decide +kernel
theorem d_Mod_greatest_87 : decode b_Mod_greatest 87 = .ok (.iload_n 3, 1) := by decide +kernel
theorem d_Mod_greatest_88 : decode b_Mod_greatest 88 = .ok (.iconst 1, 1) := by decide +kernel
theorem d_Mod_greatest_89 : decode b_Mod_greatest 89 = .ok (.iadd, 1) := by decide +kernel
theorem d_Mod_greatest_90 : decode b_Mod_greatest 90 = .ok (.iload 6, 2) := by decide +kernel
theorem d_Mod_greatest_92 : decode b_Mod_greatest 92 = .ok (.isub, 1) := by decide +kernel
theorem d_Mod_greatest_93 : decode b_Mod_greatest 93 = .ok (.istore 8, 2) := by decide +kernel
theorem d_Mod_greatest_95 : decode b_Mod_greatest 95 = .ok (.iload 7, 2) := by decide +kernel
theorem d_Mod_greatest_97 : decode b_Mod_greatest 97 = .ok (.ifCond .eq 53, 3) := by decide +kernel
theorem d_Mod_greatest_100 : decode b_Mod_greatest 100 = .ok (.iload 8, 2) := by decide +kernel
theorem d_Mod_greatest_102 : decode b_Mod_greatest 102 = .ok (.ifCond .lt 48, 3) := by decide +kernel
theorem d_Mod_greatest_105 : decode b_Mod_greatest 105 = .ok (.iload 8, 2) := by decide +kernel
theorem d_Mod_greatest_107 : decode b_Mod_greatest 107 = .ok (.aload_n 0, 1) := by decide +kernel
theorem d_Mod_greatest_108 : decode b_Mod_greatest 108 = .ok (.getfield 31, 3) := by decide +kernel
theorem d_Mod_greatest_111 : decode b_Mod_greatest 111 = .ok (.iload 5, 2) := by decide +kernel
theorem d_Mod_greatest_113 : decode b_Mod_greatest 113 = .ok (.iaload, 1) := by decide +kernel
theorem d_Mod_greatest_114 : decode b_Mod_greatest 114 = .ok (.if_icmp .gt 36, 3) := by decide +kernel
theorem d_Mod_greatest_117 : decode b_Mod_greatest 117 = .ok (.aload_n 0, 1) := by decide +kernel
theorem d_Mod_greatest_118 : decode b_Mod_greatest 118 = .ok (.getfield 28, 3) := by decide +kernel
theorem d_Mod_greatest_121 : decode b_Mod_greatest 121 = .ok (.iload 5, 2) := by decide +kernel
theorem d_Mod_greatest_123 : decode b_Mod_greatest 123 = .ok (.bipush 6, 2) := by decide +kernel
theorem d_Mod_greatest_125 : decode b_Mod_greatest 125 = .ok (.imul, 1) := by decide +kernel
theorem d_Mod_greatest_126 : decode b_Mod_greatest 126 = .ok (.iload 8, 2) := by decide +kernel
theorem d_Mod_greatest_128 : decode b_Mod_greatest 128 = .ok (.iadd, 1) := by decide +kernel
theorem d_Mod_greatest_129 : decode b_Mod_greatest 129 = .ok (.iaload, 1) := by decide +kernel
theorem d_Mod_greatest_130 : decode b_Mod_greatest 130 = .ok (.iload 4, 2) := by decide +kernel
theorem d_Mod_greatest_132 : decode b_Mod_greatest 132 = .ok (.if_icmp .le 18, 3) := by decide +kernel
theorem d_Mod_greatest_135 : decode b_Mod_greatest 135 = .ok (.aload_n 0, 1) := by decide +kernel
theorem d_Mod_greatest_136 : decode b_Mod_greatest 136 = .ok (.getfield 28, 3) := by decide +kernel
theorem d_Mod_greatest_139 : decode b_Mod_greatest 139 = .ok (.iload 5, 2) := by decide +kernel
theorem d_Mod_greatest_141 : decode b_Mod_greatest 141 = .ok (.bipush 6, 2) := by decide +kernel
theorem d_Mod_greatest_143 : decode b_Mod_greatest 143 = .ok (.imul, 1) := by decide +kernel
theorem d_Mod_greatest_144 : decode b_Mod_greatest 144 = .ok (.iload 8, 2) := by decide +kernel
theorem d_Mod_greatest_146 : decode b_Mod_greatest 146 = .ok (.iadd, 1) := by decide +kernel
theorem d_Mod_greatest_147 : decode b_Mod_greatest 147 = .ok (.iaload, 1) := by decide +kernel
theorem d_Mod_greatest_148 : decode b_Mod_greatest 148 = .ok (.istore 4, 2) := by decide +kernel
theorem d_Mod_greatest_150 : decode b_Mod_greatest 150 = .ok (.iinc 6 1, 3) := by decide +kernel
theorem d_Mod_greatest_153 : decode b_Mod_greatest 153 = .ok (.goto (-135), 3) := by decide +kernel
theorem d_Mod_greatest_156 : decode b_Mod_greatest 156 = .ok (.iinc 5 1, 3) := by decide +kernel
theorem d_Mod_greatest_159 : decode b_Mod_greatest 159 = .ok (.goto (-153), 3) := by decide +kernel
theorem d_Mod_greatest_162 : decode b_Mod_greatest 162 = .ok (.iload 4, 2) := by decide +kernel
theorem d_Mod_greatest_164 : decode b_Mod_greatest 164 = .ok (.ireturn, 1) := by decide +kernel
theorem d_Mod_signOf_0 : decode b_Mod_signOf 0 = .ok (.iload_n 3, 1) := by decide +kernel
theorem d_Mod_signOf_1 : decode b_Mod_signOf 1 = .ok (.ifCond .eq 10, 3) := by decide +kernel
theorem d_Mod_signOf_4 : decode b_Mod_signOf 4 = .ok (.iload_n 3, 1) := by decide +kernel
theorem d_Mod_signOf_5 : decode b_Mod_signOf 5 = .ok (.iload_n 2, 1) := by decide +kernel
theorem d_Mod_signOf_6 : decode b_Mod_signOf 6 = .ok (.iconst 1, 1) := by decide +kernel
theorem d_Mod_signOf_7 : decode b_Mod_signOf 7 = .ok (.iadd, 1) := by decide +kernel
theorem d_Mod_signOf_8 : decode b_Mod_signOf 8 = .ok (.if_icmp .ne 8, 3) := by decide +kernel
theorem d_Mod_signOf_11 : decode b_Mod_signOf 11 = .ok (.bipush 46, 2) := by decide +kernel
theorem d_Mod_signOf_13 : decode b_Mod_signOf 13 = .ok (.goto 13, 3) := by decide +kernel
theorem d_Mod_signOf_16 : decode b_Mod_signOf 16 = .ok (.aload_n 0, 1) := by decide +kernel
theorem d_Mod_signOf_17 : decode b_Mod_signOf 17 = .ok (.getfield 46, 3) := by decide +kernel
theorem d_Mod_signOf_20 : decode b_Mod_signOf 20 = .ok (.iload_n 1, 1) := by decide +kernel
theorem d_Mod_signOf_21 : decode b_Mod_signOf 21 = .ok (.iload_n 3, 1) := by decide +kernel
theorem d_Mod_signOf_22 : decode b_Mod_signOf 22 = .ok (.iadd, 1) := by decide +kernel
theorem d_Mod_signOf_23 : decode b_Mod_signOf 23 = .ok (.iconst 1, 1) := by decide +kernel
theorem d_Mod_signOf_24 : decode b_Mod_signOf 24 = .ok (.isub, 1) := by decide +kernel
theorem d_Mod_signOf_25 : decode b_Mod_signOf 25 = .ok (.iaload, 1) := by decide +kernel
theorem d_Mod_signOf_26 : decode b_Mod_signOf 26 = .ok (.ireturn, 1) := by decide +kernel
theorem d_Mod_findBreaks_0 : decode b_Mod_findBreaks 0 = .ok (.aload_n 0, 1) := by decide +kernel
theorem d_Mod_findBreaks_1 : decode b_Mod_findBreaks 1 = .ok (.iconst 0, 1) := by decide +kernel
theorem d_Mod_findBreaks_2 : decode b_Mod_findBreaks 2 = .ok (.putfield 163, 3) := by decide +kernel
theorem d_Mod_findBreaks_5 : decode b_Mod_findBreaks 5 = .ok (.aload_n 0, 1) := by decide +kernel
theorem d_Mod_findBreaks_6 : decode b_Mod_findBreaks 6 = .ok (.getfield 65, 3) := by decide +kernel
theorem d_Mod_findBreaks_9 : decode b_Mod_findBreaks 9 = .ok (.iconst 0, 1) := by decide +kernel
theorem d_Mod_findBreaks_10 : decode b_Mod_findBreaks 10 = .ok (.aload_n 0, 1) := by decide +kernel
theorem d_Mod_findBreaks_11 : decode b_Mod_findBreaks 11 = .ok (.getfield 71, 3) := by decide +kernel
theorem d_Mod_findBreaks_14 : decode b_Mod_findBreaks 14 = .ok (.iconst 0, 1) := by decide +kernel
theorem d_Mod_findBreaks_15 : decode b_Mod_findBreaks 15 = .ok (.iconst 0, 1) := by decide +kernel
theorem d_Mod_findBreaks_16 : decode b_Mod_findBreaks 16 = .ok (.dup_x2, 1) := by decide +kernel
theorem d_Mod_findBreaks_17 : decode b_Mod_findBreaks 17 = .ok (.iastore, 1) := by decide +kernel
theorem d_Mod_findBreaks_18 : decode b_Mod_findBreaks 18 = .ok (.iastore, 1) := by decide +kernel
theorem d_Mod_findBreaks_19 : decode b_Mod_findBreaks 19 = .ok (.iconst 0, 1) := by decide +kernel
theorem d_Mod_findBreaks_20 : decode b_Mod_findBreaks 20 = .ok (.istore_n 1, 1) := by decide +kernel
theorem d_Mod_findBreaks_21 : decode b_Mod_findBreaks 21 = .ok (.iload_n 1, 1) := by decide +kernel
theorem d_Mod_findBreaks_22 : decode b_Mod_findBreaks 22 = .ok (.aload_n 0, 1) := by decide +kernel
theorem d_Mod_findBreaks_23 : decode b_Mod_findBreaks 23 = .ok (.getfield 142, 3) := by decide +kernel
theorem d_Mod_findBreaks_26 : decode b_Mod_findBreaks 26 = .ok (.if_icmp .ge 117, 3) := by decide +kernel
theorem d_Mod_findBreaks_29 : decode b_Mod_findBreaks 29 = .ok (.aload_n 0, 1) := by decide +kernel
theorem d_Mod_findBreaks_30 : decode b_Mod_findBreaks 30 = .ok (.getfield 61, 3) := by decide +kernel
theorem d_Mod_findBreaks_33 : decode b_Mod_findBreaks 33 = .ok (.iload_n 1, 1) := by decide +kernel
theorem d_Mod_findBreaks_34 : decode b_Mod_findBreaks 34 = .ok (.baload, 1) := by decide +kernel
theorem d_Mod_findBreaks_35 : decode b_Mod_findBreaks 35 = .ok (.ifCond .eq 15, 3) := by decide +kernel
theorem d_Mod_findBreaks_38 : decode b_Mod_findBreaks 38 = .ok (.aload_n 0, 1) := by decide +kernel
theorem d_Mod_findBreaks_39 : decode b_Mod_findBreaks 39 = .ok (.iconst 2, 1) := by decide +kernel
theorem d_Mod_findBreaks_40 : decode b_Mod_findBreaks 40 = .ok (.iload_n 1, 1) := by decide +kernel
theorem d_Mod_findBreaks_41 : decode b_Mod_findBreaks 41 = .ok (.iload_n 1, 1) := by decide +kernel
theorem d_Mod_findBreaks_42 : decode b_Mod_findBreaks 42 = .ok (.invokevirtual 166, 3) := by decide +kernel
theorem d_Mod_findBreaks_45 : decode b_Mod_findBreaks 45 = .ok (.ifCond .ne 5, 3) := by decide +kernel
theorem d_Mod_findBreaks_48 : decode b_Mod_findBreaks 48 = .ok (.iconst 0, 1) := by decide +kernel
theorem d_Mod_findBreaks_49 : decode b_Mod_findBreaks 49 = .ok (.ireturn, 1) := by decide +kernel
theorem d_Mod_findBreaks_50 : decode b_Mod_findBreaks 50 = .ok (.aload_n 0, 1) := by decide +kernel
theorem d_Mod_findBreaks_51 : decode b_Mod_findBreaks 51 = .ok (.getfield 46, 3) := by decide +kernel
theorem d_Mod_findBreaks_54 : decode b_Mod_findBreaks 54 = .ok (.iload_n 1, 1) := by decide +kernel
theorem d_Mod_findBreaks_55 : decode b_Mod_findBreaks 55 = .ok (.iaload, 1) := by decide +kernel
theorem d_Mod_findBreaks_56 : decode b_Mod_findBreaks 56 = .ok (.bipush 32, 2) := by decide +kernel
theorem d_Mod_findBreaks_58 : decode b_Mod_findBreaks 58 = .ok (.if_icmp .ne 17, 3) := by decide +kernel
theorem d_Mod_findBreaks_61 : decode b_Mod_findBreaks 61 = .ok (.aload_n 0, 1) := by decide +kernel
theorem d_Mod_findBreaks_62 : decode b_Mod_findBreaks 62 = .ok (.iconst 0, 1) := by decide +kernel
theorem d_Mod_findBreaks_63 : decode b_Mod_findBreaks 63 = .ok (.iload_n 1, 1) := by decide +kernel
theorem d_Mod_findBreaks_64 : decode b_Mod_findBreaks 64 = .ok (.iload_n 1, 1) := by decide +kernel
theorem d_Mod_findBreaks_65 : decode b_Mod_findBreaks 65 = .ok (.iconst 1, 1) := by decide +kernel
theorem d_Mod_findBreaks_66 : decode b_Mod_findBreaks 66 = .ok (.iadd, 1) := by decide +kernel
theorem d_Mod_findBreaks_67 : decode b_Mod_findBreaks 67 = .ok (.invokevirtual 166, 3) := by decide +kernel
theorem d_Mod_findBreaks_70 : decode b_Mod_findBreaks 70 = .ok (.ifCond .ne 5, 3) := by decide +kernel
theorem d_Mod_findBreaks_73 : decode b_Mod_findBreaks 73 = .ok (.iconst 0, 1) := by decide +kernel
theorem d_Mod_findBreaks_74 : decode b_Mod_findBreaks 74 = .ok (.ireturn, 1) := by decide +kernel
theorem d_Mod_findBreaks_75 : decode b_Mod_findBreaks 75 = .ok (.aload_n 0, 1) := by decide +kernel
theorem d_Mod_findBreaks_76 : decode b_Mod_findBreaks 76 = .ok (.getfield 46, 3) := by decide +kernel
theorem d_Mod_findBreaks_79 : decode b_Mod_findBreaks 79 = .ok (.iload_n 1, 1) := by decide +kernel
theorem d_Mod_findBreaks_80 : decode b_Mod_findBreaks 80 = .ok (.iaload, 1) := by decide +kernel
theorem d_Mod_findBreaks_81 : decode b_Mod_findBreaks 81 = .ok (.bipush 124, 2) := by decide +kernel
theorem d_Mod_findBreaks_83 : decode b_Mod_findBreaks 83 = .ok (.if_icmp .ne 17, 3) := by decide +kernel
theorem d_Mod_findBreaks_86 : decode b_Mod_findBreaks 86 = .ok (.aload_n 0, 1) := by decide +kernel
theorem d_Mod_findBreaks_87 : decode b_Mod_findBreaks 87 = .ok (.iconst 3, 1) := by decide +kernel
theorem d_Mod_findBreaks_88 : decode b_Mod_findBreaks 88 = .ok (.iload_n 1, 1) := by decide +kernel
theorem d_Mod_findBreaks_89 : decode b_Mod_findBreaks 89 = .ok (.iload_n 1, 1) := by decide +kernel
theorem d_Mod_findBreaks_90 : decode b_Mod_findBreaks 90 = .ok (.iconst 1, 1) := by decide +kernel
theorem d_Mod_findBreaks_91 : decode b_Mod_findBreaks 91 = .ok (.iadd, 1) := by decide +kernel
theorem d_Mod_findBreaks_92 : decode b_Mod_findBreaks 92 = .ok (.invokevirtual 166, 3) := by decide +kernel
theorem d_Mod_findBreaks_95 : decode b_Mod_findBreaks 95 = .ok (.ifCond .ne 5, 3) := by decide +kernel
theorem d_Mod_findBreaks_98 : decode b_Mod_findBreaks 98 = .ok (.iconst 0, 1) := by decide +kernel
theorem d_Mod_findBreaks_99 : decode b_Mod_findBreaks 99 = .ok (.ireturn, 1) := by decide +kernel
theorem d_Mod_findBreaks_100 : decode b_Mod_findBreaks 100 = .ok (.aload_n 0, 1) := by decide +kernel
theorem d_Mod_findBreaks_101 : decode b_Mod_findBreaks 101 = .ok (.getfield 46, 3) := by decide +kernel
theorem d_Mod_findBreaks_104 : decode b_Mod_findBreaks 104 = .ok (.iload_n 1, 1) := by decide +kernel
theorem d_Mod_findBreaks_105 : decode b_Mod_findBreaks 105 = .ok (.iaload, 1) := by decide +kernel
theorem d_Mod_findBreaks_106 : decode b_Mod_findBreaks 106 = .ok (.bipush 45, 2) := by decide +kernel
theorem d_Mod_findBreaks_108 : decode b_Mod_findBreaks 108 = .ok (.if_icmp .ne 29, 3) := by decide +kernel
theorem d_Mod_findBreaks_111 : decode b_Mod_findBreaks 111 = .ok (.iload_n 1, 1) := by decide +kernel
theorem d_Mod_findBreaks_112 : decode b_Mod_findBreaks 112 = .ok (.aload_n 0, 1) := by decide +kernel
theorem d_Mod_findBreaks_113 : decode b_Mod_findBreaks 113 = .ok (.getfield 142, 3) := by decide +kernel
theorem d_Mod_findBreaks_116 : decode b_Mod_findBreaks 116 = .ok (.iconst 1, 1) := by decide +kernel
theorem d_Mod_findBreaks_117 : decode b_Mod_findBreaks 117 = .ok (.isub, 1) := by decide +kernel
theorem d_Mod_findBreaks_118 : decode b_Mod_findBreaks 118 = .ok (.if_icmp .ge 19, 3) := by decide +kernel
theorem d_Mod_findBreaks_121 : decode b_Mod_findBreaks 121 = .ok (.aload_n 0, 1) := by decide +kernel
theorem d_Mod_findBreaks_122 : decode b_Mod_findBreaks 122 = .ok (.iconst 1, 1) := by decide +kernel
theorem d_Mod_findBreaks_123 : decode b_Mod_findBreaks 123 = .ok (.iload_n 1, 1) := by decide +kernel
theorem d_Mod_findBreaks_124 : decode b_Mod_findBreaks 124 = .ok (.iconst 1, 1) := by decide +kernel
theorem d_Mod_findBreaks_125 : decode b_Mod_findBreaks 125 = .ok (.iadd, 1) := by decide +kernel
theorem d_Mod_findBreaks_126 : decode b_Mod_findBreaks 126 = .ok (.iload_n 1, 1) := by decide +kernel
theorem d_Mod_findBreaks_127 : decode b_Mod_findBreaks 127 = .ok (.iconst 1, 1) := by decide +kernel
theorem d_Mod_findBreaks_128 : decode b_Mod_findBreaks 128 = .ok (.iadd, 1) := by decide +kernel
theorem d_Mod_findBreaks_129 : decode b_Mod_findBreaks 129 = .ok (.invokevirtual 166, 3) := by decide +kernel
theorem d_Mod_findBreaks_132 : decode b_Mod_findBreaks 132 = .ok (.ifCond .ne 5, 3) := by decide +kernel
theorem d_Mod_findBreaks_135 : decode b_Mod_findBreaks 135 = .ok (.iconst 0, 1) := by decide +kernel
theorem d_Mod_findBreaks_136 : decode b_Mod_findBreaks 136 = .ok (.ireturn, 1) := by decide +kernel
theorem d_Mod_findBreaks_137 : decode b_Mod_findBreaks 137 = .ok (.iinc 1 1, 3) := by decide +kernel
theorem d_Mod_findBreaks_140 : decode b_Mod_findBreaks 140 = .ok (.goto (-119), 3) := by decide +kernel
theorem d_Mod_findBreaks_143 : decode b_Mod_findBreaks 143 = .ok (.aload_n 0, 1) := by decide +kernel
theorem d_Mod_findBreaks_144 : decode b_Mod_findBreaks 144 = .ok (.iconst 4, 1) := by decide +kernel
theorem d_Mod_findBreaks_145 : decode b_Mod_findBreaks 145 = .ok (.aload_n 0, 1) := by decide +kernel
theorem d_Mod_findBreaks_146 : decode b_Mod_findBreaks 146 = .ok (.getfield 142, 3) := by decide +kernel
theorem d_Mod_findBreaks_149 : decode b_Mod_findBreaks 149 = .ok (.aload_n 0, 1) := by decide +kernel
theorem d_Mod_findBreaks_150 : decode b_Mod_findBreaks 150 = .ok (.getfield 142, 3) := by decide +kernel
theorem d_Mod_findBreaks_153 : decode b_Mod_findBreaks 153 = .ok (.invokevirtual 166, 3) := by decide +kernel
theorem d_Mod_findBreaks_156 : decode b_Mod_findBreaks 156 = .ok (.ireturn, 1) := by decide +kernel
theorem d_Mod_addBreak_0 : decode b_Mod_addBreak 0 = .ok (.aload_n 0, 1) := by decide +kernel
theorem d_Mod_addBreak_1 : decode b_Mod_addBreak 1 = .ok (.getfield 163, 3) := by decide +kernel
theorem d_Mod_addBreak_4 : decode b_Mod_addBreak 4 = .ok (.bipush 24, 2) := by decide +kernel
theorem d_Mod_addBreak_6 : decode b_Mod_addBreak 6 = .ok (.if_icmp .ne 5, 3) := by decide +kernel
theorem d_Mod_addBreak_9 : decode b_Mod_addBreak 9 = .ok (.iconst 0, 1) := by decide +kernel
theorem d_Mod_addBreak_10 : decode b_Mod_addBreak 10 = .ok (.ireturn, 1) := by decide +kernel
theorem d_Mod_addBreak_11 : decode b_Mod_addBreak 11 = .ok (.aload_n 0, 1) := by decide +kernel
theorem d_Mod_addBreak_12 : decode b_Mod_addBreak 12 = .ok (.dup, 1) := by decide +kernel
theorem d_Mod_addBreak_13 : decode b_Mod_addBreak 13 = .ok (.getfield 163, 3) := by decide +kernel
theorem d_Mod_addBreak_16 : decode b_Mod_addBreak 16 = .ok (.iconst 1, 1) := by decide +kernel
theorem d_Mod_addBreak_17 : decode b_Mod_addBreak 17 = .ok (.iadd, 1) := by decide +kernel
theorem d_Mod_addBreak_18 : decode b_Mod_addBreak 18 = .ok (.putfield 163, 3) := by decide +kernel
theorem d_Mod_addBreak_21 : decode b_Mod_addBreak 21 = .ok (.aload_n 0, 1) := by decide +kernel
theorem d_Mod_addBreak_22 : decode b_Mod_addBreak 22 = .ok (.getfield 65, 3) := by decide +kernel
theorem d_Mod_addBreak_25 : decode b_Mod_addBreak 25 = .ok (.aload_n 0, 1) := by decide +kernel
theorem d_Mod_addBreak_26 : decode b_Mod_addBreak 26 = .ok (.getfield 163, 3) := by decide +kernel
theorem d_Mod_addBreak_29 : decode b_Mod_addBreak 29 = .ok (.iload_n 1, 1) := by decide +kernel
theorem d_Mod_addBreak_30 : decode b_Mod_addBreak 30 = .ok (.iastore, 1) := by decide +kernel
theorem d_Mod_addBreak_31 : decode b_Mod_addBreak 31 = .ok (.aload_n 0, 1) := by decide +kernel
theorem d_Mod_addBreak_32 : decode b_Mod_addBreak 32 = .ok (.getfield 68, 3) := by decide +kernel
theorem d_Mod_addBreak_35 : decode b_Mod_addBreak 35 = .ok (.aload_n 0, 1) := by decide +kernel
theorem d_Mod_addBreak_36 : decode b_Mod_addBreak 36 = .ok (.getfield 163, 3) := by decide +kernel
theorem d_Mod_addBreak_39 : decode b_Mod_addBreak 39 = .ok (.iload_n 2, 1) := by decide +kernel
theorem d_Mod_addBreak_40 : decode b_Mod_addBreak 40 = .ok (.iastore, 1) := by decide +kernel
theorem d_Mod_addBreak_41 : decode b_Mod_addBreak 41 = .ok (.aload_n 0, 1) := by decide +kernel
theorem d_Mod_addBreak_42 : decode b_Mod_addBreak 42 = .ok (.getfield 71, 3) := by decide +kernel
theorem d_Mod_addBreak_45 : decode b_Mod_addBreak 45 = .ok (.aload_n 0, 1) := by decide +kernel
theorem d_Mod_addBreak_46 : decode b_Mod_addBreak 46 = .ok (.getfield 163, 3) := by decide +kernel
theorem d_Mod_addBreak_49 : decode b_Mod_addBreak 49 = .ok (.iload_n 3, 1) := by decide +kernel
theorem d_Mod_addBreak_50 : decode b_Mod_addBreak 50 = .ok (.iastore, 1) := by decide +kernel
theorem d_Mod_addBreak_51 : decode b_Mod_addBreak 51 = .ok (.iconst 1, 1) := by decide +kernel
theorem d_Mod_addBreak_52 : decode b_Mod_addBreak 52 = .ok (.ireturn, 1) := by decide +kernel
theorem d_Mod_solve_0 : decode b_Mod_solve 0 = .ok (.aload_n 0, 1) := by decide +kernel
theorem d_Mod_solve_1 : decode b_Mod_solve 1 = .ok (.getfield 74, 3) := by decide +kernel
theorem d_Mod_solve_4 : decode b_Mod_solve 4 = .ok (.aload_n 0, 1) := by decide +kernel
theorem d_Mod_solve_5 : decode b_Mod_solve 5 = .ok (.getfield 163, 3) := by decide +kernel
theorem d_Mod_solve_8 : decode b_Mod_solve 8 = .ok (.lconst 0, 1) := by decide +kernel
theorem d_Mod_solve_9 : decode b_Mod_solve 9 = .ok (.lastore, 1) := by decide +kernel
theorem d_Mod_solve_10 : decode b_Mod_solve 10 = .ok (.aload_n 0, 1) := by decide +kernel
theorem d_Mod_solve_11 : decode b_Mod_solve 11 = .ok (.getfield 78, 3) := by decide +kernel
theorem d_Mod_solve_14 : decode b_Mod_solve 14 = .ok (.aload_n 0, 1) := by decide +kernel
theorem d_Mod_solve_15 : decode b_Mod_solve 15 = .ok (.getfield 163, 3) := by decide +kernel
theorem d_Mod_solve_18 : decode b_Mod_solve 18 = .ok (.iconst 0, 1) := by decide +kernel
theorem d_Mod_solve_19 : decode b_Mod_solve 19 = .ok (.iastore, 1) := by decide +kernel
theorem d_Mod_solve_20 : decode b_Mod_solve 20 = .ok (.aload_n 0, 1) := by decide +kernel
theorem d_Mod_solve_21 : decode b_Mod_solve 21 = .ok (.getfield 163, 3) := by decide +kernel
theorem d_Mod_solve_24 : decode b_Mod_solve 24 = .ok (.iconst 1, 1) := by decide +kernel
theorem d_Mod_solve_25 : decode b_Mod_solve 25 = .ok (.isub, 1) := by decide +kernel
theorem d_Mod_solve_26 : decode b_Mod_solve 26 = .ok (.istore_n 1, 1) := by decide +kernel
theorem d_Mod_solve_27 : decode b_Mod_solve 27 = .ok (.iload_n 1, 1) := by decide +kernel
theorem d_Mod_solve_28 : decode b_Mod_solve 28 = .ok (.ifCond .lt 166, 3) := by decide +kernel
theorem d_Mod_solve_31 : decode b_Mod_solve 31 = .ok (.aload_n 0, 1) := by decide +kernel
theorem d_Mod_solve_32 : decode b_Mod_solve 32 = .ok (.getfield 74, 3) := by decide +kernel
theorem d_Mod_solve_35 : decode b_Mod_solve 35 = .ok (.iload_n 1, 1) := by decide +kernel
theorem d_Mod_solve_36 : decode b_Mod_solve 36 = .ok (.ldc2_w 189, 3) := by decide +kernel
theorem d_Mod_solve_39 : decode b_Mod_solve 39 = .ok (.lastore, 1) := by decide +kernel
theorem d_Mod_solve_40 : decode b_Mod_solve 40 = .ok (.iload_n 1, 1) := by decide +kernel
theorem d_Mod_solve_41 : decode b_Mod_solve 41 = .ok (.iconst 1, 1) := by decide +kernel
theorem d_Mod_solve_42 : decode b_Mod_solve 42 = .ok (.iadd, 1) := by decide +kernel
theorem d_Mod_solve_43 : decode b_Mod_solve 43 = .ok (.istore_n 2, 1) := by decide +kernel
theorem d_Mod_solve_44 : decode b_Mod_solve 44 = .ok (.iload_n 2, 1) := by decide +kernel
theorem d_Mod_solve_45 : decode b_Mod_solve 45 = .ok (.aload_n 0, 1) := by decide +kernel
theorem d_Mod_solve_46 : decode b_Mod_solve 46 = .ok (.getfield 163, 3) := by decide +kernel
theorem d_Mod_solve_49 : decode b_Mod_solve 49 = .ok (.if_icmp .gt 139, 3) := by decide +kernel
theorem d_Mod_solve_52 : decode b_Mod_solve 52 = .ok (.aload_n 0, 1) := by decide +kernel
theorem d_Mod_solve_53 : decode b_Mod_solve 53 = .ok (.getfield 74, 3) := by decide +kernel
theorem d_Mod_solve_56 : decode b_Mod_solve 56 = .ok (.iload_n 2, 1) := by decide +kernel
theorem d_Mod_solve_57 : decode b_Mod_solve 57 = .ok (.laload, 1) := by decide +kernel
theorem d_Mod_solve_58 : decode b_Mod_solve 58 = .ok (.lconst 0, 1) := by decide +kernel
theorem d_Mod_solve_59 : decode b_Mod_solve 59 = .ok (.lcmp, 1) := by decide +kernel
theorem d_Mod_solve_60 : decode b_Mod_solve 60 = .ok (.ifCond .lt 122, 3) := by decide +kernel
theorem d_Mod_solve_63 : decode b_Mod_solve 63 = .ok (.aload_n 0, 1) := by decide +kernel
theorem d_Mod_solve_64 : decode b_Mod_solve 64 = .ok (.iload_n 1, 1) := by decide +kernel
theorem d_Mod_solve_65 : decode b_Mod_solve 65 = .ok (.iload_n 2, 1) := by decide +kernel
theorem d_Mod_solve_66 : decode b_Mod_solve 66 = .ok (.invokevirtual 191, 3) := by decide +kernel
theorem d_Mod_solve_69 : decode b_Mod_solve 69 = .ok (.ifCond .ne 6, 3) := by decide +kernel
theorem d_Mod_solve_72 : decode b_Mod_solve 72 = .ok (.goto 110, 3) := by decide +kernel
theorem d_Mod_solve_75 : decode b_Mod_solve 75 = .ok (.aload_n 0, 1) := by decide +kernel
theorem d_Mod_solve_76 : decode b_Mod_solve 76 = .ok (.iload_n 1, 1) := by decide +kernel
theorem d_Mod_solve_77 : decode b_Mod_solve 77 = .ok (.iload_n 2, 1) := by decide +kernel
theorem d_Mod_solve_78 : decode b_Mod_solve 78 = .ok (.invokevirtual 195, 3) := by decide +kernel
theorem d_Mod_solve_81 : decode b_Mod_solve 81 = .ok (.aload_n 0, 1) := by decide +kernel
theorem d_Mod_solve_82 : decode b_Mod_solve 82 = .ok (.getfield 74, 3) := by decide +kernel
theorem d_Mod_solve_85 : decode b_Mod_solve 85 = .ok (.iload_n 2, 1) := by decide +kernel
theorem d_Mod_solve_86 : decode b_Mod_solve 86 = .ok (.laload, 1) := by decide +kernel
theorem d_Mod_solve_87 : decode b_Mod_solve 87 = .ok (.ladd, 1) := by decide +kernel
theorem d_Mod_solve_88 : decode b_Mod_solve 88 = .ok (.lstore_n 3, 1) := by decide +kernel
theorem d_Mod_solve_89 : decode b_Mod_solve 89 = .ok (.aload_n 0, 1) := by decide +kernel
theorem d_Mod_solve_90 : decode b_Mod_solve 90 = .ok (.getfield 74, 3) := by decide +kernel
theorem d_Mod_solve_93 : decode b_Mod_solve 93 = .ok (.iload_n 1, 1) := by decide +kernel
theorem d_Mod_solve_94 : decode b_Mod_solve 94 = .ok (.laload, 1) := by decide +kernel
theorem d_Mod_solve_95 : decode b_Mod_solve 95 = .ok (.lconst 0, 1) := by decide +kernel
theorem d_Mod_solve_96 : decode b_Mod_solve 96 = .ok (.lcmp, 1) := by decide +kernel
theorem d_Mod_solve_97 : decode b_Mod_solve 97 = .ok (.ifCond .lt 42, 3) := by decide +kernel
theorem d_Mod_solve_100 : decode b_Mod_solve 100 = .ok (.lload_n 3, 1) := by decide +kernel
theorem d_Mod_solve_101 : decode b_Mod_solve 101 = .ok (.aload_n 0, 1) := by decide +kernel
theorem d_Mod_solve_102 : decode b_Mod_solve 102 = .ok (.getfield 74, 3) := by decide +kernel
theorem d_Mod_solve_105 : decode b_Mod_solve 105 = .ok (.iload_n 1, 1) := by decide +kernel
theorem d_Mod_solve_106 : decode b_Mod_solve 106 = .ok (.laload, 1) := by decide +kernel
theorem d_Mod_solve_107 : decode b_Mod_solve 107 = .ok (.lcmp, 1) := by decide +kernel
theorem d_Mod_solve_108 : decode b_Mod_solve 108 = .ok (.ifCond .lt 31, 3) := by decide +kernel
theorem d_Mod_solve_111 : decode b_Mod_solve 111 = .ok (.lload_n 3, 1) := by decide +kernel
theorem d_Mod_solve_112 : decode b_Mod_solve 112 = .ok (.aload_n 0, 1) := by decide +kernel
theorem d_Mod_solve_113 : decode b_Mod_solve 113 = .ok (.getfield 74, 3) := by decide +kernel
theorem d_Mod_solve_116 : decode b_Mod_solve 116 = .ok (.iload_n 1, 1) := by decide +kernel
theorem d_Mod_solve_117 : decode b_Mod_solve 117 = .ok (.laload, 1) := by decide +kernel
theorem d_Mod_solve_118 : decode b_Mod_solve 118 = .ok (.lcmp, 1) := by decide +kernel
theorem d_Mod_solve_119 : decode b_Mod_solve 119 = .ok (.ifCond .ne 24, 3) := by decide +kernel
theorem d_Mod_solve_122 : decode b_Mod_solve 122 = .ok (.aload_n 0, 1) := by decide +kernel
theorem d_Mod_solve_123 : decode b_Mod_solve 123 = .ok (.getfield 78, 3) := by decide +kernel
theorem d_Mod_solve_126 : decode b_Mod_solve 126 = .ok (.iload_n 2, 1) := by decide +kernel
theorem d_Mod_solve_127 : decode b_Mod_solve 127 = .ok (.iaload, 1) := by decide +kernel
theorem d_Mod_solve_128 : decode b_Mod_solve 128 = .ok (.iconst 1, 1) := by decide +kernel
theorem d_Mod_solve_129 : decode b_Mod_solve 129 = .ok (.iadd, 1) := by decide +kernel
theorem d_Mod_solve_130 : decode b_Mod_solve 130 = .ok (.aload_n 0, 1) := by decide +kernel
theorem d_Mod_solve_131 : decode b_Mod_solve 131 = .ok (.getfield 78, 3) := by decide +kernel
theorem d_Mod_solve_134 : decode b_Mod_solve 134 = .ok (.iload_n 1, 1) := by decide +kernel
theorem d_Mod_solve_135 : decode b_Mod_solve 135 = .ok (.iaload, 1) := by decide +kernel
theorem d_Mod_solve_136 : decode b_Mod_solve 136 = .ok (.if_icmp .ge 7, 3) := by decide +kernel
theorem d_Mod_solve_139 : decode b_Mod_solve 139 = .ok (.iconst 1, 1) := by decide +kernel
theorem d_Mod_solve_140 : decode b_Mod_solve 140 = .ok (.goto 4, 3) := by decide +kernel
theorem d_Mod_solve_143 : decode b_Mod_solve 143 = .ok (.iconst 0, 1) := by decide +kernel
theorem d_Mod_solve_144 : decode b_Mod_solve 144 = .ok (.istore 5, 2) := by decide +kernel
theorem d_Mod_solve_146 : decode b_Mod_solve 146 = .ok (.iload 5, 2) := by decide +kernel
theorem d_Mod_solve_148 : decode b_Mod_solve 148 = .ok (.ifCond .ne 6, 3) := by decide +kernel
theorem d_Mod_solve_151 : decode b_Mod_solve 151 = .ok (.goto 31, 3) := by decide +kernel
theorem d_Mod_solve_154 : decode b_Mod_solve 154 = .ok (.aload_n 0, 1) := by decide +kernel
theorem d_Mod_solve_155 : decode b_Mod_solve 155 = .ok (.getfield 74, 3) := by decide +kernel
theorem d_Mod_solve_158 : decode b_Mod_solve 158 = .ok (.iload_n 1, 1) := by decide +kernel
theorem d_Mod_solve_159 : decode b_Mod_solve 159 = .ok (.lload_n 3, 1) := by decide +kernel
theorem d_Mod_solve_160 : decode b_Mod_solve 160 = .ok (.lastore, 1) := by decide +kernel
theorem d_Mod_solve_161 : decode b_Mod_solve 161 = .ok (.aload_n 0, 1) := by decide +kernel
theorem d_Mod_solve_162 : decode b_Mod_solve 162 = .ok (.getfield 78, 3) := by decide +kernel
theorem d_Mod_solve_165 : decode b_Mod_solve 165 = .ok (.iload_n 1, 1) := by decide +kernel
theorem d_Mod_solve_166 : decode b_Mod_solve 166 = .ok (.aload_n 0, 1) := by decide +kernel
theorem d_Mod_solve_167 : decode b_Mod_solve 167 = .ok (.getfield 78, 3) := by decide +kernel
theorem d_Mod_solve_170 : decode b_Mod_solve 170 = .ok (.iload_n 2, 1) := by decide +kernel
theorem d_Mod_solve_171 : decode b_Mod_solve 171 = .ok (.iaload, 1) := by decide +kernel
theorem d_Mod_solve_172 : decode b_Mod_solve 172 = .ok (.iconst 1, 1) := by decide +kernel
theorem d_Mod_solve_173 : decode b_Mod_solve 173 = .ok (.iadd, 1) := by decide +kernel
theorem d_Mod_solve_174 : decode b_Mod_solve 174 = .ok (.iastore, 1) := by decide +kernel
theorem d_Mod_solve_175 : decode b_Mod_solve 175 = .ok (.aload_n 0, 1) := by decide +kernel
theorem d_Mod_solve_176 : decode b_Mod_solve 176 = .ok (.getfield 81, 3) := by decide +kernel
theorem d_Mod_solve_179 : decode b_Mod_solve 179 = .ok (.iload_n 1, 1) := by decide +kernel
theorem d_Mod_solve_180 : decode b_Mod_solve 180 = .ok (.iload_n 2, 1) := by decide +kernel
theorem d_Mod_solve_181 : decode b_Mod_solve 181 = .ok (.iastore, 1) := by decide +kernel
theorem d_Mod_solve_182 : decode b_Mod_solve 182 = .ok (.iinc 2 1, 3) := by decide +kernel
theorem d_Mod_solve_185 : decode b_Mod_solve 185 = .ok (.goto (-141), 3) := by decide +kernel
theorem d_Mod_solve_188 : decode b_Mod_solve 188 = .ok (.iinc 1 (-1), 3) := by decide +kernel
theorem d_Mod_solve_191 : decode b_Mod_solve 191 = .ok (.goto (-164), 3) := by decide +kernel
theorem d_Mod_solve_194 : decode b_Mod_solve 194 = .ok (.return_, 1) := by decide +kernel
theorem d_Mod_measure_0 : decode b_Mod_measure 0 = .ok (.iload_n 1, 1) := by decide +kernel
theorem d_Mod_measure_1 : decode b_Mod_measure 1 = .ok (.iconst 1, 1) := by decide +kernel
theorem d_Mod_measure_2 : decode b_Mod_measure 2 = .ok (.iadd, 1) := by decide +kernel
theorem d_Mod_measure_3 : decode b_Mod_measure 3 = .ok (.istore_n 3, 1) := by decide +kernel
theorem d_Mod_measure_4 : decode b_Mod_measure 4 = .ok (.iload_n 3, 1) := by decide +kernel
theorem d_Mod_measure_5 : decode b_Mod_measure 5 = .ok (.iload_n 2, 1) := by decide +kernel
theorem d_Mod_measure_6 : decode b_Mod_measure 6 = .ok (.if_icmp .ge 21, 3) := by decide +kernel
theorem d_Mod_measure_9 : decode b_Mod_measure 9 = .ok (.aload_n 0, 1) := by decide +kernel
theorem d_Mod_measure_10 : decode b_Mod_measure 10 = .ok (.getfield 65, 3) := by decide +kernel
theorem d_Mod_measure_13 : decode b_Mod_measure 13 = .ok (.iload_n 3, 1) := by decide +kernel
theorem d_Mod_measure_14 : decode b_Mod_measure 14 = .ok (.iaload, 1) := by decide +kernel
theorem d_Mod_measure_15 : decode b_Mod_measure 15 = .ok (.iconst 3, 1) := by decide +kernel
theorem d_Mod_measure_16 : decode b_Mod_measure 16 = .ok (.if_icmp .ne 5, 3) := by decide +kernel
theorem d_Mod_measure_19 : decode b_Mod_measure 19 = .ok (.iconst 0, 1) := by decide +kernel
theorem d_Mod_measure_20 : decode b_Mod_measure 20 = .ok (.ireturn, 1) := by decide +kernel
theorem d_Mod_measure_21 : decode b_Mod_measure 21 = .ok (.iinc 3 1, 3) := by decide +kernel
theorem d_Mod_measure_24 : decode b_Mod_measure 24 = .ok (.goto (-20), 3) := by decide +kernel
theorem d_Mod_measure_27 : decode b_Mod_measure 27 = .ok (.aload_n 0, 1) := by decide +kernel
theorem d_Mod_measure_28 : decode b_Mod_measure 28 = .ok (.aload_n 0, 1) := by decide +kernel
theorem d_Mod_measure_29 : decode b_Mod_measure 29 = .ok (.getfield 71, 3) := by decide +kernel
theorem d_Mod_measure_32 : decode b_Mod_measure 32 = .ok (.iload_n 1, 1) := by decide +kernel
theorem d_Mod_measure_33 : decode b_Mod_measure 33 = .ok (.iaload, 1) := by decide +kernel
theorem d_Mod_measure_34 : decode b_Mod_measure 34 = .ok (.putfield 170, 3) := by decide +kernel
theorem d_Mod_measure_37 : decode b_Mod_measure 37 = .ok (.aload_n 0, 1) := by decide +kernel
theorem d_Mod_measure_38 : decode b_Mod_measure 38 = .ok (.getfield 170, 3) := by decide +kernel
theorem d_Mod_measure_41 : decode b_Mod_measure 41 = .ok (.aload_n 0, 1) := by decide +kernel
theorem d_Mod_measure_42 : decode b_Mod_measure 42 = .ok (.getfield 68, 3) := by decide +kernel
theorem d_Mod_measure_45 : decode b_Mod_measure 45 = .ok (.iload_n 2, 1) := by decide +kernel
theorem d_Mod_measure_46 : decode b_Mod_measure 46 = .ok (.iaload, 1) := by decide +kernel
theorem d_Mod_measure_47 : decode b_Mod_measure 47 = .ok (.if_icmp .ge 30, 3) := by decide +kernel
theorem d_Mod_measure_50 : decode b_Mod_measure 50 = .ok (.aload_n 0, 1) := by decide +kernel
theorem d_Mod_measure_51 : decode b_Mod_measure 51 = .ok (.getfield 46, 3) := by decide +kernel
theorem d_Mod_measure_54 : decode b_Mod_measure 54 = .ok (.aload_n 0, 1) := by decide +kernel
theorem d_Mod_measure_55 : decode b_Mod_measure 55 = .ok (.getfield 170, 3) := by decide +kernel
theorem d_Mod_measure_58 : decode b_Mod_measure 58 = .ok (.iaload, 1) := by decide +kernel
theorem d_Mod_measure_59 : decode b_Mod_measure 59 = .ok (.bipush 32, 2) := by decide +kernel
theorem d_Mod_measure_61 : decode b_Mod_measure 61 = .ok (.if_icmp .ne 16, 3) := by decide +kernel
theorem d_Mod_measure_64 : decode b_Mod_measure 64 = .ok (.aload_n 0, 1) := by decide +kernel
theorem d_Mod_measure_65 : decode b_Mod_measure 65 = .ok (.dup, 1) := by decide +kernel
theorem d_Mod_measure_66 : decode b_Mod_measure 66 = .ok (.getfield 170, 3) := by decide +kernel
theorem d_Mod_measure_69 : decode b_Mod_measure 69 = .ok (.iconst 1, 1) := by decide +kernel
theorem d_Mod_measure_70 : decode b_Mod_measure 70 = .ok (.iadd, 1) := by decide +kernel
theorem d_Mod_measure_71 : decode b_Mod_measure 71 = .ok (.putfield 170, 3) := by decide +kernel
theorem d_Mod_measure_74 : decode b_Mod_measure 74 = .ok (.goto (-37), 3) := by decide +kernel
theorem d_Mod_measure_77 : decode b_Mod_measure 77 = .ok (.aload_n 0, 1) := by decide +kernel
theorem d_Mod_measure_78 : decode b_Mod_measure 78 = .ok (.aload_n 0, 1) := by decide +kernel
theorem d_Mod_measure_79 : decode b_Mod_measure 79 = .ok (.getfield 65, 3) := by decide +kernel
theorem d_Mod_measure_82 : decode b_Mod_measure 82 = .ok (.iload_n 2, 1) := by decide +kernel
theorem d_Mod_measure_83 : decode b_Mod_measure 83 = .ok (.iaload, 1) := by decide +kernel
theorem d_Mod_measure_84 : decode b_Mod_measure 84 = .ok (.iconst 2, 1) := by decide +kernel
theorem d_Mod_measure_85 : decode b_Mod_measure 85 = .ok (.if_icmp .ne 13, 3) := by decide +kernel
theorem d_Mod_measure_88 : decode b_Mod_measure 88 = .ok (.aload_n 0, 1) := by decide +kernel
theorem d_Mod_measure_89 : decode b_Mod_measure 89 = .ok (.getfield 13, 3) := by decide +kernel
theorem d_Mod_measure_92 : decode b_Mod_measure 92 = .ok (.bipush 45, 2) := by decide +kernel
theorem d_Mod_measure_94 : decode b_Mod_measure 94 = .ok (.iaload, 1) := by decide +kernel
theorem d_Mod_measure_95 : decode b_Mod_measure 95 = .ok (.goto 4, 3) := by decide +kernel
theorem d_Mod_measure_98 : decode b_Mod_measure 98 = .ok (.iconst 0, 1) := by decide +kernel
theorem d_Mod_measure_99 : decode b_Mod_measure 99 = .ok (.putfield 173, 3) := by decide +kernel
theorem d_Mod_measure_102 : decode b_Mod_measure 102 = .ok (.aload_n 0, 1) := by decide +kernel
theorem d_Mod_measure_103 : decode b_Mod_measure 103 = .ok (.aload_n 0, 1) := by decide +kernel
theorem d_Mod_measure_104 : decode b_Mod_measure 104 = .ok (.aload_n 0, 1) := by decide +kernel
theorem d_Mod_measure_105 : decode b_Mod_measure 105 = .ok (.iconst 0, 1) := by decide +kernel
theorem d_Mod_measure_106 : decode b_Mod_measure 106 = .ok (.dup_x1, 1) := by decide +kernel
theorem d_Mod_measure_107 : decode b_Mod_measure 107 = .ok (.putfield 176, 3) := by decide +kernel
theorem d_Mod_measure_110 : decode b_Mod_measure 110 = .ok (.dup_x1, 1) := by decide +kernel
theorem d_Mod_measure_111 : decode b_Mod_measure 111 = .ok (.putfield 179, 3) := by decide +kernel
theorem d_Mod_measure_114 : decode b_Mod_measure 114 = .ok (.putfield 182, 3) := by decide +kernel
theorem d_Mod_measure_117 : decode b_Mod_measure 117 = .ok (.iconst 0, 1) := by decide +kernel
theorem d_Mod_measure_118 : decode b_Mod_measure 118 = .ok (.istore_n 3, 1) := by decide +kernel
theorem d_Mod_measure_119 : decode b_Mod_measure 119 = .ok (.aload_n 0, 1) := by decide +kernel
theorem d_Mod_measure_120 : decode b_Mod_measure 120 = .ok (.getfield 170, 3) := by decide +kernel
theorem d_Mod_measure_123 : decode b_Mod_measure 123 = .ok (.istore 4, 2) := by decide +kernel
theorem d_Mod_measure_125 : decode b_Mod_measure 125 = .ok (.iload 4, 2) := by decide +kernel
theorem d_Mod_measure_127 : decode b_Mod_measure 127 = .ok (.aload_n 0, 1) := by decide +kernel
theorem d_Mod_measure_128 : decode b_Mod_measure 128 = .ok (.getfield 68, 3) := by decide +kernel
theorem d_Mod_measure_131 : decode b_Mod_measure 131 = .ok (.iload_n 2, 1) := by decide +kernel
theorem d_Mod_measure_132 : decode b_Mod_measure 132 = .ok (.iaload, 1) := by decide +kernel
theorem d_Mod_measure_133 : decode b_Mod_measure 133 = .ok (.if_icmp .ge 123, 3) := by decide +kernel
theorem d_Mod_measure_136 : decode b_Mod_measure 136 = .ok (.aload_n 0, 1) := by decide +kernel
theorem d_Mod_measure_137 : decode b_Mod_measure 137 = .ok (.getfield 49, 3) := by decide +kernel
theorem d_Mod_measure_140 : decode b_Mod_measure 140 = .ok (.iload 4, 2) := by decide +kernel
theorem d_Mod_measure_142 : decode b_Mod_measure 142 = .ok (.iaload, 1) := by decide +kernel
theorem d_Mod_measure_143 : decode b_Mod_measure 143 = .ok (.istore 5, 2) := by decide +kernel
theorem d_Mod_measure_145 : decode b_Mod_measure 145 = .ok (.aload_n 0, 1) := by decide +kernel
theorem d_Mod_measure_146 : decode b_Mod_measure 146 = .ok (.getfield 46, 3) := by decide +kernel
theorem d_Mod_measure_149 : decode b_Mod_measure 149 = .ok (.iload 4, 2) := by decide +kernel
theorem d_Mod_measure_151 : decode b_Mod_measure 151 = .ok (.iaload, 1) := by decide +kernel
theorem d_Mod_measure_152 : decode b_Mod_measure 152 = .ok (.bipush 32, 2) := by decide +kernel
theorem d_Mod_measure_154 : decode b_Mod_measure 154 = .ok (.if_icmp .eq 15, 3) := by decide +kernel
theorem d_Mod_measure_157 : decode b_Mod_measure 157 = .ok (.aload_n 0, 1) := by decide +kernel
theorem d_Mod_measure_158 : decode b_Mod_measure 158 = .ok (.getfield 46, 3) := by decide +kernel
theorem d_Mod_measure_161 : decode b_Mod_measure 161 = .ok (.iload 4, 2) := by decide +kernel
theorem d_Mod_measure_163 : decode b_Mod_measure 163 = .ok (.iaload, 1) := by decide +kernel
theorem d_Mod_measure_164 : decode b_Mod_measure 164 = .ok (.bipush 126, 2) := by decide +kernel
theorem d_Mod_measure_166 : decode b_Mod_measure 166 = .ok (.if_icmp .ne 7, 3) := by decide +kernel
theorem d_Mod_measure_169 : decode b_Mod_measure 169 = .ok (.iconst 1, 1) := by decide +kernel
theorem d_Mod_measure_170 : decode b_Mod_measure 170 = .ok (.goto 4, 3) := by decide +kernel
theorem d_Mod_measure_173 : decode b_Mod_measure 173 = .ok (.iconst 0, 1) := by decide +kernel
theorem d_Mod_measure_174 : decode b_Mod_measure 174 = .ok (.istore 6, 2) := by decide +kernel
theorem d_Mod_measure_176 : decode b_Mod_measure 176 = .ok (.aload_n 0, 1) := by decide +kernel
theorem d_Mod_measure_177 : decode b_Mod_measure 177 = .ok (.dup, 1) := by decide +kernel
theorem d_Mod_measure_178 : decode b_Mod_measure 178 = .ok (.getfield 173, 3) := by decide +kernel
theorem d_Mod_measure_181 : decode b_Mod_measure 181 = .ok (.iload 6, 2) := by decide +kernel
theorem d_Mod_measure_183 : decode b_Mod_measure 183 = .ok (.ifCond .eq 8, 3) := by decide +kernel
theorem d_Mod_measure_186 : decode b_Mod_measure 186 = .ok (.iload 5, 2) := by decide +kernel
theorem d_Mod_measure_188 : decode b_Mod_measure 188 = .ok (.goto 15, 3) := by decide +kernel
theorem d_Mod_measure_191 : decode b_Mod_measure 191 = .ok (.aload_n 0, 1) := by decide +kernel
theorem d_Mod_measure_192 : decode b_Mod_measure 192 = .ok (.getfield 13, 3) := by decide +kernel
theorem d_Mod_measure_195 : decode b_Mod_measure 195 = .ok (.aload_n 0, 1) := by decide +kernel
theorem d_Mod_measure_196 : decode b_Mod_measure 196 = .ok (.getfield 46, 3) := by decide +kernel
theorem d_Mod_measure_199 : decode b_Mod_measure 199 = .ok (.iload 4, 2) := by decide +kernel
theorem d_Mod_measure_201 : decode b_Mod_measure 201 = .ok (.iaload, 1) := by decide +kernel
theorem d_Mod_measure_202 : decode b_Mod_measure 202 = .ok (.iaload, 1) := by decide +kernel
theorem d_Mod_measure_203 : decode b_Mod_measure 203 = .ok (.iadd, 1) := by decide +kernel
theorem d_Mod_measure_204 : decode b_Mod_measure 204 = .ok (.putfield 173, 3) := by decide +kernel
theorem d_Mod_measure_207 : decode b_Mod_measure 207 = .ok (.iload 6, 2) := by decide +kernel
theorem d_Mod_measure_209 : decode b_Mod_measure 209 = .ok (.ifCond .ne 5, 3) := by decide +kernel
theorem d_Mod_measure_212 : decode b_Mod_measure 212 = .ok (.iconst 1, 1) := by decide +kernel
theorem d_Mod_measure_213 : decode b_Mod_measure 213 = .ok (.istore_n 3, 1) := by decide +kernel
theorem d_Mod_measure_214 : decode b_Mod_measure 214 = .ok (.iload 6, 2) := by decide +kernel
theorem d_Mod_measure_216 : decode b_Mod_measure 216 = .ok (.ifCond .ne 6, 3) := by decide +kernel
theorem d_Mod_measure_219 : decode b_Mod_measure 219 = .ok (.goto 31, 3) := by decide +kernel
theorem d_Mod_measure_222 : decode b_Mod_measure 222 = .ok (.aload_n 0, 1) := by decide +kernel
theorem d_Mod_measure_223 : decode b_Mod_measure 223 = .ok (.dup, 1) := by decide +kernel
theorem d_Mod_measure_224 : decode b_Mod_measure 224 = .ok (.getfield 182, 3) := by decide +kernel
theorem d_Mod_measure_227 : decode b_Mod_measure 227 = .ok (.iload 5, 2) := by decide +kernel
theorem d_Mod_measure_229 : decode b_Mod_measure 229 = .ok (.iconst 1, 1) := by decide +kernel
theorem d_Mod_measure_230 : decode b_Mod_measure 230 = .ok (.iadd, 1) := by decide +kernel
theorem d_Mod_measure_231 : decode b_Mod_measure 231 = .ok (.iconst 2, 1) := by decide +kernel
theorem d_Mod_measure_232 : decode b_Mod_measure 232 = .ok (.idiv, 1) := by decide +kernel
theorem d_Mod_measure_233 : decode b_Mod_measure 233 = .ok (.iadd, 1) := by decide +kernel
theorem d_Mod_measure_234 : decode b_Mod_measure 234 = .ok (.putfield 182, 3) := by decide +kernel
theorem d_Mod_measure_237 : decode b_Mod_measure 237 = .ok (.aload_n 0, 1) := by decide +kernel
theorem d_Mod_measure_238 : decode b_Mod_measure 238 = .ok (.dup, 1) := by decide +kernel
theorem d_Mod_measure_239 : decode b_Mod_measure 239 = .ok (.getfield 179, 3) := by decide +kernel
theorem d_Mod_measure_242 : decode b_Mod_measure 242 = .ok (.iload 5, 2) := by decide +kernel
theorem d_Mod_measure_244 : decode b_Mod_measure 244 = .ok (.iconst 3, 1) := by decide +kernel
theorem d_Mod_measure_245 : decode b_Mod_measure 245 = .ok (.idiv, 1) := by decide +kernel
theorem d_Mod_measure_246 : decode b_Mod_measure 246 = .ok (.iadd, 1) := by decide +kernel
theorem d_Mod_measure_247 : decode b_Mod_measure 247 = .ok (.putfield 179, 3) := by decide +kernel
theorem d_Mod_measure_250 : decode b_Mod_measure 250 = .ok (.iinc 4 1, 3) := by decide +kernel
theorem d_Mod_measure_253 : decode b_Mod_measure 253 = .ok (.goto (-128), 3) := by decide +kernel
theorem d_Mod_measure_256 : decode b_Mod_measure 256 = .ok (.iload_n 3, 1) := by decide +kernel
theorem d_Mod_measure_257 : decode b_Mod_measure 257 = .ok (.ifCond .ne 5, 3) := by decide +kernel
theorem d_Mod_measure_260 : decode b_Mod_measure 260 = .ok (.iconst 0, 1) := by decide +kernel
theorem d_Mod_measure_261 : decode b_Mod_measure 261 = .ok (.ireturn, 1) := by decide +kernel
theorem d_Mod_measure_262 : decode b_Mod_measure 262 = .ok (.aload_n 0, 1) := by decide +kernel
theorem d_Mod_measure_263 : decode b_Mod_measure 263 = .ok (.getfield 16, 3) := by decide +kernel
theorem d_Mod_measure_266 : decode b_Mod_measure 266 = .ok (.iconst 0, 1) := by decide +kernel
theorem d_Mod_measure_267 : decode b_Mod_measure 267 = .ok (.iaload, 1) := by decide +kernel
theorem d_Mod_measure_268 : decode b_Mod_measure 268 = .ok (.aload_n 0, 1) := by decide +kernel
theorem d_Mod_measure_269 : decode b_Mod_measure 269 = .ok (.getfield 173, 3) := by decide +kernel
theorem d_Mod_measure_272 : decode b_Mod_measure 272 = .ok (.isub, 1) := by decide +kernel
theorem d_Mod_measure_273 : decode b_Mod_measure 273 = .ok (.i2l, 1) := by decide +kernel
theorem d_Mod_measure_274 : decode b_Mod_measure 274 = .ok (.lstore 4, 2) := by decide +kernel
theorem d_Mod_measure_276 : decode b_Mod_measure 276 = .ok (.lload 4, 2) := by decide +kernel
theorem d_Mod_measure_278 : decode b_Mod_measure 278 = .ok (.lconst 0, 1) := by decide +kernel
theorem d_Mod_measure_279 : decode b_Mod_measure 279 = .ok (.lcmp, 1) := by decide +kernel
theorem d_Mod_measure_280 : decode b_Mod_measure 280 = .ok (.ifCond .le 74, 3) := by decide +kernel
theorem d_Mod_measure_283 : decode b_Mod_measure 283 = .ok (.aload_n 0, 1) := by decide +kernel
theorem d_Mod_measure_284 : decode b_Mod_measure 284 = .ok (.getfield 65, 3) := by decide +kernel
theorem d_Mod_measure_287 : decode b_Mod_measure 287 = .ok (.iload_n 2, 1) := by decide +kernel
theorem d_Mod_measure_288 : decode b_Mod_measure 288 = .ok (.iaload, 1) := by decide +kernel
theorem d_Mod_measure_289 : decode b_Mod_measure 289 = .ok (.iconst 3, 1) := by decide +kernel
theorem d_Mod_measure_290 : decode b_Mod_measure 290 = .ok (.if_icmp .ge 64, 3) := by decide +kernel
theorem d_Mod_measure_293 : decode b_Mod_measure 293 = .ok (.aload_n 0, 1) := by decide +kernel
theorem d_Mod_measure_294 : decode b_Mod_measure 294 = .ok (.getfield 182, 3) := by decide +kernel
theorem d_Mod_measure_297 : decode b_Mod_measure 297 = .ok (.ifCond .ne 5, 3) := by decide +kernel
theorem d_Mod_measure_300 : decode b_Mod_measure 300 = .ok (.iconst 0, 1) := by decide +kernel
theorem d_Mod_measure_301 : decode b_Mod_measure 301 = .ok (.ireturn, 1) := by decide +kernel
theorem d_Mod_measure_302 : decode b_Mod_measure 302 = .ok (.aload_n 0, 1) := by decide +kernel
theorem d_Mod_measure_303 : decode b_Mod_measure 303 = .ok (.getfield 182, 3) := by decide +kernel
theorem d_Mod_measure_306 : decode b_Mod_measure 306 = .ok (.i2l, 1) := by decide +kernel
theorem d_Mod_measure_307 : decode b_Mod_measure 307 = .ok (.lstore 6, 2) := by decide +kernel
theorem d_Mod_measure_309 : decode b_Mod_measure 309 = .ok (.ldc2_w 185, 3) := by decide +kernel
theorem d_Mod_measure_312 : decode b_Mod_measure 312 = .ok (.lload 4, 2) := by decide +kernel
theorem d_Mod_measure_314 : decode b_Mod_measure 314 = .ok (.lmul, 1) := by decide +kernel
theorem d_Mod_measure_315 : decode b_Mod_measure 315 = .ok (.lload 4, 2) := by decide +kernel
theorem d_Mod_measure_317 : decode b_Mod_measure 317 = .ok (.lmul, 1) := by decide +kernel
theorem d_Mod_measure_318 : decode b_Mod_measure 318 = .ok (.lload 4, 2) := by decide +kernel
theorem d_Mod_measure_320 : decode b_Mod_measure 320 = .ok (.lmul, 1) := by decide +kernel
theorem d_Mod_measure_321 : decode b_Mod_measure 321 = .ok (.lload 6, 2) := by decide +kernel
theorem d_Mod_measure_323 : decode b_Mod_measure 323 = .ok (.lload 6, 2) := by decide +kernel
theorem d_Mod_measure_325 : decode b_Mod_measure 325 = .ok (.lmul, 1) := by decide +kernel
theorem d_Mod_measure_326 : decode b_Mod_measure 326 = .ok (.lload 6, 2) := by decide +kernel
theorem d_Mod_measure_328 : decode b_Mod_measure 328 = .ok (.lmul, 1) := by decide +kernel
theorem d_Mod_measure_329 : decode b_Mod_measure 329 = .ok (.ldiv, 1) := by decide +kernel
theorem d_Mod_measure_330 : decode b_Mod_measure 330 = .ok (.lstore 8, 2) := by decide +kernel
theorem d_Mod_measure_332 : decode b_Mod_measure 332 = .ok (.lload 8, 2) := by decide +kernel
theorem d_Mod_measure_334 : decode b_Mod_measure 334 = .ok (.aload_n 0, 1) := by decide +kernel
theorem d_Mod_measure_335 : decode b_Mod_measure 335 = .ok (.getfield 16, 3) := by decide +kernel
theorem d_Mod_measure_338 : decode b_Mod_measure 338 = .ok (.iconst 1, 1) := by decide +kernel
theorem d_Mod_measure_339 : decode b_Mod_measure 339 = .ok (.iaload, 1) := by decide +kernel
theorem d_Mod_measure_340 : decode b_Mod_measure 340 = .ok (.i2l, 1) := by decide +kernel
theorem d_Mod_measure_341 : decode b_Mod_measure 341 = .ok (.lcmp, 1) := by decide +kernel
theorem d_Mod_measure_342 : decode b_Mod_measure 342 = .ok (.ifCond .le 5, 3) := by decide +kernel
theorem d_Mod_measure_345 : decode b_Mod_measure 345 = .ok (.iconst 0, 1) := by decide +kernel
theorem d_Mod_measure_346 : decode b_Mod_measure 346 = .ok (.ireturn, 1) := by decide +kernel
theorem d_Mod_measure_347 : decode b_Mod_measure 347 = .ok (.aload_n 0, 1) := by decide +kernel
theorem d_Mod_measure_348 : decode b_Mod_measure 348 = .ok (.lload 8, 2) := by decide +kernel
theorem d_Mod_measure_350 : decode b_Mod_measure 350 = .ok (.l2i, 1) := by decide +kernel
theorem d_Mod_measure_351 : decode b_Mod_measure 351 = .ok (.putfield 176, 3) := by decide +kernel
theorem d_Mod_measure_354 : decode b_Mod_measure 354 = .ok (.lload 4, 2) := by decide +kernel
theorem d_Mod_measure_356 : decode b_Mod_measure 356 = .ok (.lconst 0, 1) := by decide +kernel
theorem d_Mod_measure_357 : decode b_Mod_measure 357 = .ok (.lcmp, 1) := by decide +kernel
theorem d_Mod_measure_358 : decode b_Mod_measure 358 = .ok (.ifCond .ge 50, 3) := by decide +kernel
theorem d_Mod_measure_361 : decode b_Mod_measure 361 = .ok (.lload 4, 2) := by decide +kernel
theorem d_Mod_measure_363 : decode b_Mod_measure 363 = .ok (.lneg, 1) := by decide +kernel
theorem d_Mod_measure_364 : decode b_Mod_measure 364 = .ok (.aload_n 0, 1) := by decide +kernel
theorem d_Mod_measure_365 : decode b_Mod_measure 365 = .ok (.getfield 179, 3) := by decide +kernel
theorem d_Mod_measure_368 : decode b_Mod_measure 368 = .ok (.i2l, 1) := by decide +kernel
theorem d_Mod_measure_369 : decode b_Mod_measure 369 = .ok (.lcmp, 1) := by decide +kernel
theorem d_Mod_measure_370 : decode b_Mod_measure 370 = .ok (.ifCond .le 5, 3) := by decide +kernel
theorem d_Mod_measure_373 : decode b_Mod_measure 373 = .ok (.iconst 0, 1) := by decide +kernel
theorem d_Mod_measure_374 : decode b_Mod_measure 374 = .ok (.ireturn, 1) := by decide +kernel
theorem d_Mod_measure_375 : decode b_Mod_measure 375 = .ok (.aload_n 0, 1) := by decide +kernel
theorem d_Mod_measure_376 : decode b_Mod_measure 376 = .ok (.getfield 179, 3) := by decide +kernel
theorem d_Mod_measure_379 : decode b_Mod_measure 379 = .ok (.i2l, 1) := by decide +kernel
theorem d_Mod_measure_380 : decode b_Mod_measure 380 = .ok (.lstore 6, 2) := by decide +kernel
theorem d_Mod_measure_382 : decode b_Mod_measure 382 = .ok (.aload_n 0, 1) := by decide +kernel
theorem d_Mod_measure_383 : decode b_Mod_measure 383 = .ok (.ldc2_w 187, 3) := by decide +kernel
theorem d_Mod_measure_386 : decode b_Mod_measure 386 = .ok (.lload 4, 2) := by decide +kernel
theorem d_Mod_measure_388 : decode b_Mod_measure 388 = .ok (.lmul, 1) := by decide +kernel
theorem d_Mod_measure_389 : decode b_Mod_measure 389 = .ok (.lload 4, 2) := by decide +kernel
theorem d_Mod_measure_391 : decode b_Mod_measure 391 = .ok (.lmul, 1) := by decide +kernel
theorem d_Mod_measure_392 : decode b_Mod_measure 392 = .ok (.lload 4, 2) := by decide +kernel
theorem d_Mod_measure_394 : decode b_Mod_measure 394 = .ok (.lmul, 1) := by decide +kernel
theorem d_Mod_measure_395 : decode b_Mod_measure 395 = .ok (.lload 6, 2) := by decide +kernel
theorem d_Mod_measure_397 : decode b_Mod_measure 397 = .ok (.lload 6, 2) := by decide +kernel
theorem d_Mod_measure_399 : decode b_Mod_measure 399 = .ok (.lmul, 1) := by decide +kernel
theorem d_Mod_measure_400 : decode b_Mod_measure 400 = .ok (.lload 6, 2) := by decide +kernel
theorem d_Mod_measure_402 : decode b_Mod_measure 402 = .ok (.lmul, 1) := by decide +kernel
theorem d_Mod_measure_403 : decode b_Mod_measure 403 = .ok (.ldiv, 1) := by decide +kernel
theorem d_Mod_measure_404 : decode b_Mod_measure 404 = .ok (.l2i, 1) := by decide +kernel
theorem d_Mod_measure_405 : decode b_Mod_measure 405 = .ok (.putfield 176, 3) := by decide +kernel
theorem d_Mod_measure_408 : decode b_Mod_measure 408 = .ok (.aload_n 0, 1) := by decide +kernel
theorem d_Mod_measure_409 : decode b_Mod_measure 409 = .ok (.getfield 176, 3) := by decide +kernel
theorem d_Mod_measure_412 : decode b_Mod_measure 412 = .ok (.aload_n 0, 1) := by decide +kernel
theorem d_Mod_measure_413 : decode b_Mod_measure 413 = .ok (.getfield 16, 3) := by decide +kernel
theorem d_Mod_measure_416 : decode b_Mod_measure 416 = .ok (.iconst 1, 1) := by decide +kernel
theorem d_Mod_measure_417 : decode b_Mod_measure 417 = .ok (.iaload, 1) := by decide +kernel
theorem d_Mod_measure_418 : decode b_Mod_measure 418 = .ok (.if_icmp .gt 7, 3) := by decide +kernel
theorem d_Mod_measure_421 : decode b_Mod_measure 421 = .ok (.iconst 1, 1) := by decide +kernel
theorem d_Mod_measure_422 : decode b_Mod_measure 422 = .ok (.goto 4, 3) := by decide +kernel
theorem d_Mod_measure_425 : decode b_Mod_measure 425 = .ok (.iconst 0, 1) := by decide +kernel
theorem d_Mod_measure_426 : decode b_Mod_measure 426 = .ok (.ireturn, 1) := by decide +kernel
theorem d_Mod_price_0 : decode b_Mod_price 0 = .ok (.aload_n 0, 1) := by decide +kernel
theorem d_Mod_price_1 : decode b_Mod_price 1 = .ok (.getfield 16, 3) := by decide +kernel
theorem d_Mod_price_4 : decode b_Mod_price 4 = .ok (.iconst 2, 1) := by decide +kernel
theorem d_Mod_price_5 : decode b_Mod_price 5 = .ok (.iaload, 1) := by decide +kernel
theorem d_Mod_price_6 : decode b_Mod_price 6 = .ok (.aload_n 0, 1) := by decide +kernel
theorem d_Mod_price_7 : decode b_Mod_price 7 = .ok (.getfield 176, 3) := by decide +kernel
theorem d_Mod_price_10 : decode b_Mod_price 10 = .ok (.iadd, 1) := by decide +kernel
theorem d_Mod_price_11 : decode b_Mod_price 11 = .ok (.i2l, 1) := by decide +kernel
theorem d_Mod_price_12 : decode b_Mod_price 12 = .ok (.lstore_n 3, 1) := by decide +kernel
theorem d_Mod_price_13 : decode b_Mod_price 13 = .ok (.aload_n 0, 1) := by decide +kernel
theorem d_Mod_price_14 : decode b_Mod_price 14 = .ok (.getfield 16, 3) := by decide +kernel
theorem d_Mod_price_17 : decode b_Mod_price 17 = .ok (.iconst 3, 1) := by decide +kernel
theorem d_Mod_price_18 : decode b_Mod_price 18 = .ok (.iaload, 1) := by decide +kernel
theorem d_Mod_price_19 : decode b_Mod_price 19 = .ok (.i2l, 1) := by decide +kernel
theorem d_Mod_price_20 : decode b_Mod_price 20 = .ok (.lstore 5, 2) := by decide +kernel
theorem d_Mod_price_22 : decode b_Mod_price 22 = .ok (.lload_n 3, 1) := by decide +kernel
theorem d_Mod_price_23 : decode b_Mod_price 23 = .ok (.lload_n 3, 1) := by decide +kernel
theorem d_Mod_price_24 : decode b_Mod_price 24 = .ok (.lmul, 1) := by decide +kernel
theorem d_Mod_price_25 : decode b_Mod_price 25 = .ok (.aload_n 0, 1) := by decide +kernel
theorem d_Mod_price_26 : decode b_Mod_price 26 = .ok (.getfield 65, 3) := by decide +kernel
theorem d_Mod_price_29 : decode b_Mod_price 29 = .ok (.iload_n 2, 1) := by decide +kernel
theorem d_Mod_price_30 : decode b_Mod_price 30 = .ok (.iaload, 1) := by decide +kernel
theorem d_Mod_price_31 : decode b_Mod_price 31 = .ok (.iconst 2, 1) := by decide +kernel
theorem d_Mod_price_32 : decode b_Mod_price 32 = .ok (.if_icmp .ne 37, 3) := by decide +kernel
theorem d_Mod_price_35 : decode b_Mod_price 35 = .ok (.lload 5, 2) := by decide +kernel
theorem d_Mod_price_37 : decode b_Mod_price 37 = .ok (.lload 5, 2) := by decide +kernel
theorem d_Mod_price_39 : decode b_Mod_price 39 = .ok (.lmul, 1) := by decide +kernel
theorem d_Mod_price_40 : decode b_Mod_price 40 = .ok (.iload_n 1, 1) := by decide +kernel
theorem d_Mod_price_41 : decode b_Mod_price 41 = .ok (.ifCond .le 22, 3) := by decide +kernel
theorem d_Mod_price_44 : decode b_Mod_price 44 = .ok (.aload_n 0, 1) := by decide +kernel
theorem d_Mod_price_45 : decode b_Mod_price 45 = .ok (.getfield 65, 3) := by decide +kernel
theorem d_Mod_price_48 : decode b_Mod_price 48 = .ok (.iload_n 1, 1) := by decide +kernel
theorem d_Mod_price_49 : decode b_Mod_price 49 = .ok (.iaload, 1) := by decide +kernel
theorem d_Mod_price_50 : decode b_Mod_price 50 = .ok (.iconst 2, 1) := by decide +kernel
theorem d_Mod_price_51 : decode b_Mod_price 51 = .ok (.if_icmp .ne 12, 3) := by decide +kernel
theorem d_Mod_price_54 : decode b_Mod_price 54 = .ok (.aload_n 0, 1) := by decide +kernel
theorem d_Mod_price_55 : decode b_Mod_price 55 = .ok (.getfield 16, 3) := by decide +kernel
theorem d_Mod_price_58 : decode b_Mod_price 58 = .ok (.iconst 4, 1) := by decide +kernel
theorem d_Mod_price_59 : decode b_Mod_price 59 = .ok (.iaload, 1) := by decide +kernel
theorem d_Mod_price_60 : decode b_Mod_price 60 = .ok (.goto 4, 3) := by decide +kernel
theorem d_Mod_price_63 : decode b_Mod_price 63 = .ok (.iconst 0, 1) := by decide +kernel
theorem d_Mod_price_64 : decode b_Mod_price 64 = .ok (.i2l, 1) := by decide +kernel
theorem d_Mod_price_65 : decode b_Mod_price 65 = .ok (.ladd, 1) := by decide +kernel
theorem d_Mod_price_66 : decode b_Mod_price 66 = .ok (.goto 4, 3) := by decide +kernel
theorem d_Mod_price_69 : decode b_Mod_price 69 = .ok (.lconst 0, 1) := by decide +kernel
theorem d_Mod_price_70 : decode b_Mod_price 70 = .ok (.ladd, 1) := by decide +kernel
theorem d_Mod_price_71 : decode b_Mod_price 71 = .ok (.lreturn, 1) := by decide +kernel
theorem d_Mod_jot_0 : decode b_Mod_jot 0 = .ok (.aload_n 0, 1) := by decide +kernel
theorem d_Mod_jot_1 : decode b_Mod_jot 1 = .ok (.iconst 0, 1) := by decide +kernel
theorem d_Mod_jot_2 : decode b_Mod_jot 2 = .ok (.putfield 199, 3) := by decide +kernel
theorem d_Mod_jot_5 : decode b_Mod_jot 5 = .ok (.aload_n 0, 1) := by decide +kernel
theorem d_Mod_jot_6 : decode b_Mod_jot 6 = .ok (.aload_n 0, 1) := by decide +kernel
theorem d_Mod_jot_7 : decode b_Mod_jot 7 = .ok (.getfield 142, 3) := by decide +kernel
theorem d_Mod_jot_10 : decode b_Mod_jot 10 = .ok (.putfield 202, 3) := by decide +kernel
theorem d_Mod_jot_13 : decode b_Mod_jot 13 = .ok (.iconst 0, 1) := by decide +kernel
theorem d_Mod_jot_14 : decode b_Mod_jot 14 = .ok (.istore_n 1, 1) := by decide +kernel
theorem d_Mod_jot_15 : decode b_Mod_jot 15 = .ok (.iload_n 1, 1) := by decide +kernel
theorem d_Mod_jot_16 : decode b_Mod_jot 16 = .ok (.aload_n 0, 1) := by decide +kernel
theorem d_Mod_jot_17 : decode b_Mod_jot 17 = .ok (.getfield 142, 3) := by decide +kernel
theorem d_Mod_jot_20 : decode b_Mod_jot 20 = .ok (.if_icmp .ge 81, 3) := by decide +kernel
theorem d_Mod_jot_23 : decode b_Mod_jot 23 = .ok (.aload_n 0, 1) := by decide +kernel
theorem d_Mod_jot_24 : decode b_Mod_jot 24 = .ok (.getfield 52, 3) := by decide +kernel
theorem d_Mod_jot_27 : decode b_Mod_jot 27 = .ok (.iload_n 1, 1) := by decide +kernel
theorem d_Mod_jot_28 : decode b_Mod_jot 28 = .ok (.aload_n 0, 1) := by decide +kernel
theorem d_Mod_jot_29 : decode b_Mod_jot 29 = .ok (.getfield 46, 3) := by decide +kernel
theorem d_Mod_jot_32 : decode b_Mod_jot 32 = .ok (.iload_n 1, 1) := by decide +kernel
theorem d_Mod_jot_33 : decode b_Mod_jot 33 = .ok (.iaload, 1) := by decide +kernel
theorem d_Mod_jot_34 : decode b_Mod_jot 34 = .ok (.iastore, 1) := by decide +kernel
theorem d_Mod_jot_35 : decode b_Mod_jot 35 = .ok (.aload_n 0, 1) := by decide +kernel
theorem d_Mod_jot_36 : decode b_Mod_jot 36 = .ok (.getfield 58, 3) := by decide +kernel
theorem d_Mod_jot_39 : decode b_Mod_jot 39 = .ok (.iload_n 1, 1) := by decide +kernel
theorem d_Mod_jot_40 : decode b_Mod_jot 40 = .ok (.aload_n 0, 1) := by decide +kernel
theorem d_Mod_jot_41 : decode b_Mod_jot 41 = .ok (.getfield 49, 3) := by decide +kernel
theorem d_Mod_jot_44 : decode b_Mod_jot 44 = .ok (.iload_n 1, 1) := by decide +kernel
theorem d_Mod_jot_45 : decode b_Mod_jot 45 = .ok (.iaload, 1) := by decide +kernel
theorem d_Mod_jot_46 : decode b_Mod_jot 46 = .ok (.iastore, 1) := by decide +kernel
theorem d_Mod_jot_47 : decode b_Mod_jot 47 = .ok (.aload_n 0, 1) := by decide +kernel
theorem d_Mod_jot_48 : decode b_Mod_jot 48 = .ok (.getfield 55, 3) := by decide +kernel
theorem d_Mod_jot_51 : decode b_Mod_jot 51 = .ok (.iload_n 1, 1) := by decide +kernel
theorem d_Mod_jot_52 : decode b_Mod_jot 52 = .ok (.aload_n 0, 1) := by decide +kernel
theorem d_Mod_jot_53 : decode b_Mod_jot 53 = .ok (.getfield 46, 3) := by decide +kernel
theorem d_Mod_jot_56 : decode b_Mod_jot 56 = .ok (.iload_n 1, 1) := by decide +kernel
theorem d_Mod_jot_57 : decode b_Mod_jot 57 = .ok (.iaload, 1) := by decide +kernel
theorem d_Mod_jot_58 : decode b_Mod_jot 58 = .ok (.bipush 32, 2) := by decide +kernel
theorem d_Mod_jot_60 : decode b_Mod_jot 60 = .ok (.if_icmp .eq 14, 3) := by decide +kernel
theorem d_Mod_jot_63 : decode b_Mod_jot 63 = .ok (.aload_n 0, 1) := by decide +kernel
theorem d_Mod_jot_64 : decode b_Mod_jot 64 = .ok (.getfield 46, 3) := by decide +kernel
theorem d_Mod_jot_67 : decode b_Mod_jot 67 = .ok (.iload_n 1, 1) := by decide +kernel
theorem d_Mod_jot_68 : decode b_Mod_jot 68 = .ok (.iaload, 1) := by decide +kernel
theorem d_Mod_jot_69 : decode b_Mod_jot 69 = .ok (.bipush 126, 2) := by decide +kernel
theorem d_Mod_jot_71 : decode b_Mod_jot 71 = .ok (.if_icmp .ne 12, 3) := by decide +kernel
theorem d_Mod_jot_74 : decode b_Mod_jot 74 = .ok (.aload_n 0, 1) := by decide +kernel
theorem d_Mod_jot_75 : decode b_Mod_jot 75 = .ok (.getfield 49, 3) := by decide +kernel
theorem d_Mod_jot_78 : decode b_Mod_jot 78 = .ok (.iload_n 1, 1) := by decide +kernel
theorem d_Mod_jot_79 : decode b_Mod_jot 79 = .ok (.iaload, 1) := by decide +kernel
theorem d_Mod_jot_80 : decode b_Mod_jot 80 = .ok (.goto 14, 3) := by decide +kernel
theorem d_Mod_jot_83 : decode b_Mod_jot 83 = .ok (.aload_n 0, 1) := by decide +kernel
theorem d_Mod_jot_84 : decode b_Mod_jot 84 = .ok (.getfield 13, 3) := by decide +kernel
theorem d_Mod_jot_87 : decode b_Mod_jot 87 = .ok (.aload_n 0, 1) := by decide +kernel
theorem d_Mod_jot_88 : decode b_Mod_jot 88 = .ok (.getfield 46, 3) := by decide +kernel
theorem d_Mod_jot_91 : decode b_Mod_jot 91 = .ok (.iload_n 1, 1) := by decide +kernel
theorem d_Mod_jot_92 : decode b_Mod_jot 92 = .ok (.iaload, 1) := by decide +kernel
theorem d_Mod_jot_93 : decode b_Mod_jot 93 = .ok (.iaload, 1) := by decide +kernel
theorem d_Mod_jot_94 : decode b_Mod_jot 94 = .ok (.iastore, 1) := by decide +kernel
theorem d_Mod_jot_95 : decode b_Mod_jot 95 = .ok (.iinc 1 1, 3) := by decide +kernel
theorem d_Mod_jot_98 : decode b_Mod_jot 98 = .ok (.goto (-83), 3) := by decide +kernel
theorem d_Mod_jot_101 : decode b_Mod_jot 101 = .ok (.aload_n 0, 1) := by decide +kernel
theorem d_Mod_jot_102 : decode b_Mod_jot 102 = .ok (.aload_n 0, 1) := by decide +kernel
theorem d_Mod_jot_103 : decode b_Mod_jot 103 = .ok (.getfield 142, 3) := by decide +kernel
theorem d_Mod_jot_106 : decode b_Mod_jot 106 = .ok (.ifCond .ne 7, 3) := by decide +kernel
theorem d_Mod_jot_109 : decode b_Mod_jot 109 = .ok (.iconst 0, 1) := by decide +kernel
theorem d_Mod_jot_110 : decode b_Mod_jot 110 = .ok (.goto 7, 3) := by decide +kernel
theorem d_Mod_jot_113 : decode b_Mod_jot 113 = .ok (.aload_n 0, 1) := by decide +kernel
theorem d_Mod_jot_114 : decode b_Mod_jot 114 = .ok (.getfield 163, 3) := by decide +kernel
theorem d_Mod_jot_117 : decode b_Mod_jot 117 = .ok (.putfield 205, 3) := by decide +kernel
theorem d_Mod_jot_120 : decode b_Mod_jot 120 = .ok (.aload_n 0, 1) := by decide +kernel
theorem d_Mod_jot_121 : decode b_Mod_jot 121 = .ok (.aload_n 0, 1) := by decide +kernel
theorem d_Mod_jot_122 : decode b_Mod_jot 122 = .ok (.getfield 157, 3) := by decide +kernel
theorem d_Mod_jot_125 : decode b_Mod_jot 125 = .ok (.putfield 208, 3) := by decide +kernel
theorem d_Mod_jot_128 : decode b_Mod_jot 128 = .ok (.aload_n 0, 1) := by decide +kernel
theorem d_Mod_jot_129 : decode b_Mod_jot 129 = .ok (.aload_n 0, 1) := by decide +kernel
theorem d_Mod_jot_130 : decode b_Mod_jot 130 = .ok (.getfield 135, 3) := by decide +kernel
theorem d_Mod_jot_133 : decode b_Mod_jot 133 = .ok (.putfield 211, 3) := by decide +kernel
theorem d_Mod_jot_136 : decode b_Mod_jot 136 = .ok (.aload_n 0, 1) := by decide +kernel
theorem d_Mod_jot_137 : decode b_Mod_jot 137 = .ok (.aload_n 0, 1) := by decide +kernel
theorem d_Mod_jot_138 : decode b_Mod_jot 138 = .ok (.getfield 142, 3) := by decide +kernel
theorem d_Mod_jot_141 : decode b_Mod_jot 141 = .ok (.ifCond .ne 7, 3) := by decide +kernel
theorem d_Mod_jot_144 : decode b_Mod_jot 144 = .ok (.lconst 0, 1) := by decide +kernel
theorem d_Mod_jot_145 : decode b_Mod_jot 145 = .ok (.goto 9, 3) := by decide +kernel
theorem d_Mod_jot_148 : decode b_Mod_jot 148 = .ok (.aload_n 0, 1) := by decide +kernel
theorem d_Mod_jot_149 : decode b_Mod_jot 149 = .ok (.getfield 74, 3) := by decide +kernel
theorem d_Mod_jot_152 : decode b_Mod_jot 152 = .ok (.iconst 0, 1) := by decide +kernel
theorem d_Mod_jot_153 : decode b_Mod_jot 153 = .ok (.laload, 1) := by decide +kernel
theorem d_Mod_jot_154 : decode b_Mod_jot 154 = .ok (.putfield 214, 3) := by decide +kernel
theorem d_Mod_jot_157 : decode b_Mod_jot 157 = .ok (.iconst 0, 1) := by decide +kernel
theorem d_Mod_jot_158 : decode b_Mod_jot 158 = .ok (.istore_n 1, 1) := by decide +kernel
theorem d_Mod_jot_159 : decode b_Mod_jot 159 = .ok (.aload_n 0, 1) := by decide +kernel
theorem d_Mod_jot_160 : decode b_Mod_jot 160 = .ok (.getfield 142, 3) := by decide +kernel
theorem d_Mod_jot_163 : decode b_Mod_jot 163 = .ok (.ifCond .le 170, 3) := by decide +kernel
theorem d_Mod_jot_166 : decode b_Mod_jot 166 = .ok (.iload_n 1, 1) := by decide +kernel
theorem d_Mod_jot_167 : decode b_Mod_jot 167 = .ok (.aload_n 0, 1) := by decide +kernel
theorem d_Mod_jot_168 : decode b_Mod_jot 168 = .ok (.getfield 163, 3) := by decide +kernel
theorem d_Mod_jot_171 : decode b_Mod_jot 171 = .ok (.if_icmp .ge 162, 3) := by decide +kernel
theorem d_Mod_jot_174 : decode b_Mod_jot 174 = .ok (.aload_n 0, 1) := by decide +kernel
theorem d_Mod_jot_175 : decode b_Mod_jot 175 = .ok (.getfield 81, 3) := by decide +kernel
theorem d_Mod_jot_178 : decode b_Mod_jot 178 = .ok (.iload_n 1, 1) := by decide +kernel
theorem d_Mod_jot_179 : decode b_Mod_jot 179 = .ok (.iaload, 1) := by decide +kernel
theorem d_Mod_jot_180 : decode b_Mod_jot 180 = .ok (.istore_n 2, 1) := by decide +kernel
theorem d_Mod_jot_181 : decode b_Mod_jot 181 = .ok (.aload_n 0, 1) := by decide +kernel
theorem d_Mod_jot_182 : decode b_Mod_jot 182 = .ok (.iload_n 1, 1) := by decide +kernel
theorem d_Mod_jot_183 : decode b_Mod_jot 183 = .ok (.iload_n 2, 1) := by decide +kernel
theorem d_Mod_jot_184 : decode b_Mod_jot 184 = .ok (.invokevirtual 191, 3) := by decide +kernel
theorem d_Mod_jot_187 : decode b_Mod_jot 187 = .ok (.istore_n 3, 1) := by decide +kernel
theorem d_Mod_jot_188 : decode b_Mod_jot 188 = .ok (.aload_n 0, 1) := by decide +kernel
theorem d_Mod_jot_189 : decode b_Mod_jot 189 = .ok (.getfield 84, 3) := by decide +kernel
theorem d_Mod_jot_192 : decode b_Mod_jot 192 = .ok (.aload_n 0, 1) := by decide +kernel
theorem d_Mod_jot_193 : decode b_Mod_jot 193 = .ok (.getfield 199, 3) := by decide +kernel
theorem d_Mod_jot_196 : decode b_Mod_jot 196 = .ok (.aload_n 0, 1) := by decide +kernel
theorem d_Mod_jot_197 : decode b_Mod_jot 197 = .ok (.getfield 170, 3) := by decide +kernel
theorem d_Mod_jot_200 : decode b_Mod_jot 200 = .ok (.iastore, 1) := by decide +kernel
theorem d_Mod_jot_201 : decode b_Mod_jot 201 = .ok (.aload_n 0, 1) := by decide +kernel
theorem d_Mod_jot_202 : decode b_Mod_jot 202 = .ok (.getfield 87, 3) := by decide +kernel
theorem d_Mod_jot_205 : decode b_Mod_jot 205 = .ok (.aload_n 0, 1) := by decide +kernel
theorem d_Mod_jot_206 : decode b_Mod_jot 206 = .ok (.getfield 199, 3) := by decide +kernel
theorem d_Mod_jot_209 : decode b_Mod_jot 209 = .ok (.aload_n 0, 1) := by decide +kernel
theorem d_Mod_jot_210 : decode b_Mod_jot 210 = .ok (.getfield 68, 3) := by decide +kernel
theorem d_Mod_jot_213 : decode b_Mod_jot 213 = .ok (.iload_n 2, 1) := by decide +kernel
theorem d_Mod_jot_214 : decode b_Mod_jot 214 = .ok (.iaload, 1) := by decide +kernel
theorem d_Mod_jot_215 : decode b_Mod_jot 215 = .ok (.iastore, 1) := by decide +kernel
theorem d_Mod_jot_216 : decode b_Mod_jot 216 = .ok (.aload_n 0, 1) := by decide +kernel
theorem d_Mod_jot_217 : decode b_Mod_jot 217 = .ok (.getfield 90, 3) := by decide +kernel
theorem d_Mod_jot_220 : decode b_Mod_jot 220 = .ok (.aload_n 0, 1) := by decide +kernel
theorem d_Mod_jot_221 : decode b_Mod_jot 221 = .ok (.getfield 199, 3) := by decide +kernel
theorem d_Mod_jot_224 : decode b_Mod_jot 224 = .ok (.aload_n 0, 1) := by decide +kernel
theorem d_Mod_jot_225 : decode b_Mod_jot 225 = .ok (.getfield 65, 3) := by decide +kernel
theorem d_Mod_jot_228 : decode b_Mod_jot 228 = .ok (.iload_n 2, 1) := by decide +kernel
theorem d_Mod_jot_229 : decode b_Mod_jot 229 = .ok (.iaload, 1) := by decide +kernel
theorem d_Mod_jot_230 : decode b_Mod_jot 230 = .ok (.iastore, 1) := by decide +kernel
theorem d_Mod_jot_231 : decode b_Mod_jot 231 = .ok (.aload_n 0, 1) := by decide +kernel
theorem d_Mod_jot_232 : decode b_Mod_jot 232 = .ok (.getfield 93, 3) := by decide +kernel
theorem d_Mod_jot_235 : decode b_Mod_jot 235 = .ok (.aload_n 0, 1) := by decide +kernel
theorem d_Mod_jot_236 : decode b_Mod_jot 236 = .ok (.getfield 199, 3) := by decide +kernel
theorem d_Mod_jot_239 : decode b_Mod_jot 239 = .ok (.iload_n 2, 1) := by decide +kernel
theorem d_Mod_jot_240 : decode b_Mod_jot 240 = .ok (.iastore, 1) := by decide +kernel
theorem d_Mod_jot_241 : decode b_Mod_jot 241 = .ok (.aload_n 0, 1) := by decide +kernel
theorem d_Mod_jot_242 : decode b_Mod_jot 242 = .ok (.getfield 96, 3) := by decide +kernel
theorem d_Mod_jot_245 : decode b_Mod_jot 245 = .ok (.aload_n 0, 1) := by decide +kernel
theorem d_Mod_jot_246 : decode b_Mod_jot 246 = .ok (.getfield 199, 3) := by decide +kernel
theorem d_Mod_jot_249 : decode b_Mod_jot 249 = .ok (.aload_n 0, 1) := by decide +kernel
theorem d_Mod_jot_250 : decode b_Mod_jot 250 = .ok (.getfield 173, 3) := by decide +kernel
theorem d_Mod_jot_253 : decode b_Mod_jot 253 = .ok (.iastore, 1) := by decide +kernel
theorem d_Mod_jot_254 : decode b_Mod_jot 254 = .ok (.aload_n 0, 1) := by decide +kernel
theorem d_Mod_jot_255 : decode b_Mod_jot 255 = .ok (.getfield 99, 3) := by decide +kernel
theorem d_Mod_jot_258 : decode b_Mod_jot 258 = .ok (.aload_n 0, 1) := by decide +kernel
theorem d_Mod_jot_259 : decode b_Mod_jot 259 = .ok (.getfield 199, 3) := by decide +kernel
theorem d_Mod_jot_262 : decode b_Mod_jot 262 = .ok (.aload_n 0, 1) := by decide +kernel
theorem d_Mod_jot_263 : decode b_Mod_jot 263 = .ok (.getfield 16, 3) := by decide +kernel
theorem d_Mod_jot_266 : decode b_Mod_jot 266 = .ok (.iconst 0, 1) := by decide +kernel
theorem d_Mod_jot_267 : decode b_Mod_jot 267 = .ok (.iaload, 1) := by decide +kernel
theorem d_Mod_jot_268 : decode b_Mod_jot 268 = .ok (.aload_n 0, 1) := by decide +kernel
theorem d_Mod_jot_269 : decode b_Mod_jot 269 = .ok (.getfield 173, 3) := by decide +kernel
theorem d_Mod_jot_272 : decode b_Mod_jot 272 = .ok (.isub, 1) := by decide +kernel
theorem d_Mod_jot_273 : decode b_Mod_jot 273 = .ok (.iastore, 1) := by decide +kernel
theorem d_Mod_jot_274 : decode b_Mod_jot 274 = .ok (.aload_n 0, 1) := by decide +kernel
theorem d_Mod_jot_275 : decode b_Mod_jot 275 = .ok (.getfield 102, 3) := by decide +kernel
theorem d_Mod_jot_278 : decode b_Mod_jot 278 = .ok (.aload_n 0, 1) := by decide +kernel
theorem d_Mod_jot_279 : decode b_Mod_jot 279 = .ok (.getfield 199, 3) := by decide +kernel
theorem d_Mod_jot_282 : decode b_Mod_jot 282 = .ok (.aload_n 0, 1) := by decide +kernel
theorem d_Mod_jot_283 : decode b_Mod_jot 283 = .ok (.getfield 176, 3) := by decide +kernel
theorem d_Mod_jot_286 : decode b_Mod_jot 286 = .ok (.iastore, 1) := by decide +kernel
theorem d_Mod_jot_287 : decode b_Mod_jot 287 = .ok (.aload_n 0, 1) := by decide +kernel
theorem d_Mod_jot_288 : decode b_Mod_jot 288 = .ok (.getfield 105, 3) := by decide +kernel
theorem d_Mod_jot_291 : decode b_Mod_jot 291 = .ok (.aload_n 0, 1) := by decide +kernel
theorem d_Mod_jot_292 : decode b_Mod_jot 292 = .ok (.getfield 199, 3) := by decide +kernel
theorem d_Mod_jot_295 : decode b_Mod_jot 295 = .ok (.aload_n 0, 1) := by decide +kernel
theorem d_Mod_jot_296 : decode b_Mod_jot 296 = .ok (.getfield 182, 3) := by decide +kernel
theorem d_Mod_jot_299 : decode b_Mod_jot 299 = .ok (.iastore, 1) := by decide +kernel
theorem d_Mod_jot_300 : decode b_Mod_jot 300 = .ok (.aload_n 0, 1) := by decide +kernel
theorem d_Mod_jot_301 : decode b_Mod_jot 301 = .ok (.getfield 108, 3) := by decide +kernel
theorem d_Mod_jot_304 : decode b_Mod_jot 304 = .ok (.aload_n 0, 1) := by decide +kernel
theorem d_Mod_jot_305 : decode b_Mod_jot 305 = .ok (.getfield 199, 3) := by decide +kernel
theorem d_Mod_jot_308 : decode b_Mod_jot 308 = .ok (.aload_n 0, 1) := by decide +kernel
theorem d_Mod_jot_309 : decode b_Mod_jot 309 = .ok (.getfield 179, 3) := by decide +kernel
theorem d_Mod_jot_312 : decode b_Mod_jot 312 = .ok (.iastore, 1) := by decide +kernel
theorem d_Mod_jot_313 : decode b_Mod_jot 313 = .ok (.aload_n 0, 1) := by decide +kernel
theorem d_Mod_jot_314 : decode b_Mod_jot 314 = .ok (.dup, 1) := by decide +kernel
theorem d_Mod_jot_315 : decode b_Mod_jot 315 = .ok (.getfield 199, 3) := by decide +kernel
theorem d_Mod_jot_318 : decode b_Mod_jot 318 = .ok (.iconst 1, 1) := by decide +kernel
theorem d_Mod_jot_319 : decode b_Mod_jot 319 = .ok (.iadd, 1) := by decide +kernel
theorem d_Mod_jot_320 : decode b_Mod_jot 320 = .ok (.putfield 199, 3) := by decide +kernel
theorem d_Mod_jot_323 : decode b_Mod_jot 323 = .ok (.aload_n 0, 1) := by decide +kernel
theorem d_Mod_jot_324 : decode b_Mod_jot 324 = .ok (.getfield 81, 3) := by decide +kernel
theorem d_Mod_jot_327 : decode b_Mod_jot 327 = .ok (.iload_n 1, 1) := by decide +kernel
theorem d_Mod_jot_328 : decode b_Mod_jot 328 = .ok (.iaload, 1) := by decide +kernel
theorem d_Mod_jot_329 : decode b_Mod_jot 329 = .ok (.istore_n 1, 1) := by decide +kernel
theorem d_Mod_jot_330 : decode b_Mod_jot 330 = .ok (.goto (-171), 3) := by decide +kernel
theorem d_Mod_jot_333 : decode b_Mod_jot 333 = .ok (.return_, 1) := by decide +kernel
theorem d_Mod_cost_0 : decode b_Mod_cost 0 = .ok (.aload_n 0, 1) := by decide +kernel
theorem d_Mod_cost_1 : decode b_Mod_cost 1 = .ok (.getfield 214, 3) := by decide +kernel
theorem d_Mod_cost_4 : decode b_Mod_cost 4 = .ok (.lreturn, 1) := by decide +kernel
theorem d_Mod_line_0 : decode b_Mod_line 0 = .ok (.aload_n 0, 1) := by decide +kernel
theorem d_Mod_line_1 : decode b_Mod_line 1 = .ok (.iload_n 1, 1) := by decide +kernel
theorem d_Mod_line_2 : decode b_Mod_line 2 = .ok (.invokevirtual 236, 3) := by decide +kernel
theorem d_Mod_line_5 : decode b_Mod_line 5 = .ok (.ifCond .eq 12, 3) := by decide +kernel
theorem d_Mod_line_8 : decode b_Mod_line 8 = .ok (.iload_n 2, 1) := by decide +kernel
theorem d_Mod_line_9 : decode b_Mod_line 9 = .ok (.ifCond .lt 8, 3) := by decide +kernel
theorem d_Mod_line_12 : decode b_Mod_line 12 = .ok (.iload_n 2, 1) := by decide +kernel
theorem d_Mod_line_13 : decode b_Mod_line 13 = .ok (.iconst 5, 1) := by decide +kernel
theorem d_Mod_line_14 : decode b_Mod_line 14 = .ok (.if_icmp .le 5, 3) := by decide +kernel
theorem d_Mod_line_17 : decode b_Mod_line 17 = .ok (.iconst (-1), 1) := by decide +kernel
theorem d_Mod_line_18 : decode b_Mod_line 18 = .ok (.ireturn, 1) := by decide +kernel
theorem d_Mod_line_19 : decode b_Mod_line 19 = .ok (.iload_n 2, 1) := by decide +kernel
theorem d_Mod_line_20 : decode b_Mod_line 20 = .ok (.iconst 3, 1) := by decide +kernel
theorem d_Mod_line_21 : decode b_Mod_line 21 = .ok (.if_icmp .ge 37, 3) := by decide +kernel
theorem d_Mod_line_24 : decode b_Mod_line 24 = .ok (.iload_n 2, 1) := by decide +kernel
theorem d_Mod_line_25 : decode b_Mod_line 25 = .ok (.ifCond .ne 12, 3) := by decide +kernel
theorem d_Mod_line_28 : decode b_Mod_line 28 = .ok (.aload_n 0, 1) := by decide +kernel
theorem d_Mod_line_29 : decode b_Mod_line 29 = .ok (.getfield 93, 3) := by decide +kernel
theorem d_Mod_line_32 : decode b_Mod_line 32 = .ok (.iload_n 1, 1) := by decide +kernel
theorem d_Mod_line_33 : decode b_Mod_line 33 = .ok (.iaload, 1) := by decide +kernel
theorem d_Mod_line_34 : decode b_Mod_line 34 = .ok (.goto 23, 3) := by decide +kernel
theorem d_Mod_line_37 : decode b_Mod_line 37 = .ok (.iload_n 2, 1) := by decide +kernel
theorem d_Mod_line_38 : decode b_Mod_line 38 = .ok (.iconst 1, 1) := by decide +kernel
theorem d_Mod_line_39 : decode b_Mod_line 39 = .ok (.if_icmp .ne 12, 3) := by decide +kernel
theorem d_Mod_line_42 : decode b_Mod_line 42 = .ok (.aload_n 0, 1) := by decide +kernel
theorem d_Mod_line_43 : decode b_Mod_line 43 = .ok (.getfield 90, 3) := by decide +kernel
theorem d_Mod_line_46 : decode b_Mod_line 46 = .ok (.iload_n 1, 1) := by decide +kernel
theorem d_Mod_line_47 : decode b_Mod_line 47 = .ok (.iaload, 1) := by decide +kernel
theorem d_Mod_line_48 : decode b_Mod_line 48 = .ok (.goto 9, 3) := by decide +kernel
theorem d_Mod_line_51 : decode b_Mod_line 51 = .ok (.aload_n 0, 1) := by decide +kernel
theorem d_Mod_line_52 : decode b_Mod_line 52 = .ok (.getfield 96, 3) := by decide +kernel
theorem d_Mod_line_55 : decode b_Mod_line 55 = .ok (.iload_n 1, 1) := by decide +kernel
theorem d_Mod_line_56 : decode b_Mod_line 56 = .ok (.iaload, 1) := by decide +kernel
theorem d_Mod_line_57 : decode b_Mod_line 57 = .ok (.ireturn, 1) := by decide +kernel
theorem d_Mod_line_58 : decode b_Mod_line 58 = .ok (.iload_n 2, 1) := by decide +kernel
theorem d_Mod_line_59 : decode b_Mod_line 59 = .ok (.iconst 5, 1) := by decide +kernel
theorem d_Mod_line_60 : decode b_Mod_line 60 = .ok (.if_icmp .ge 24, 3) := by decide +kernel
theorem d_Mod_line_63 : decode b_Mod_line 63 = .ok (.iload_n 2, 1) := by decide +kernel
theorem d_Mod_line_64 : decode b_Mod_line 64 = .ok (.iconst 3, 1) := by decide +kernel
theorem d_Mod_line_65 : decode b_Mod_line 65 = .ok (.if_icmp .ne 12, 3) := by decide +kernel
theorem d_Mod_line_68 : decode b_Mod_line 68 = .ok (.aload_n 0, 1) := by decide +kernel
theorem d_Mod_line_69 : decode b_Mod_line 69 = .ok (.getfield 99, 3) := by decide +kernel
theorem d_Mod_line_72 : decode b_Mod_line 72 = .ok (.iload_n 1, 1) := by decide +kernel
theorem d_Mod_line_73 : decode b_Mod_line 73 = .ok (.iaload, 1) := by decide +kernel
theorem d_Mod_line_74 : decode b_Mod_line 74 = .ok (.goto 9, 3) := by decide +kernel
theorem d_Mod_line_77 : decode b_Mod_line 77 = .ok (.aload_n 0, 1) := by decide +kernel
theorem d_Mod_line_78 : decode b_Mod_line 78 = .ok (.getfield 102, 3) := by decide +kernel
theorem d_Mod_line_81 : decode b_Mod_line 81 = .ok (.iload_n 1, 1) := by decide +kernel
theorem d_Mod_line_82 : decode b_Mod_line 82 = .ok (.iaload, 1) := by decide +kernel
theorem d_Mod_line_83 : decode b_Mod_line 83 = .ok (.ireturn, 1) := by decide +kernel
theorem d_Mod_line_84 : decode b_Mod_line 84 = .ok (.iconst 0, 1) := by decide +kernel
theorem d_Mod_line_85 : decode b_Mod_line 85 = .ok (.istore_n 3, 1) := by decide +kernel
theorem d_Mod_line_86 : decode b_Mod_line 86 = .ok (.aload_n 0, 1) := by decide +kernel
theorem d_Mod_line_87 : decode b_Mod_line 87 = .ok (.getfield 84, 3) := by decide +kernel
theorem d_Mod_line_90 : decode b_Mod_line 90 = .ok (.iload_n 1, 1) := by decide +kernel
theorem d_Mod_line_91 : decode b_Mod_line 91 = .ok (.iaload, 1) := by decide +kernel
theorem d_Mod_line_92 : decode b_Mod_line 92 = .ok (.istore 4, 2) := by decide +kernel
theorem d_Mod_line_94 : decode b_Mod_line 94 = .ok (.iload 4, 2) := by decide +kernel
theorem d_Mod_line_96 : decode b_Mod_line 96 = .ok (.aload_n 0, 1) := by decide +kernel
theorem d_Mod_line_97 : decode b_Mod_line 97 = .ok (.getfield 87, 3) := by decide +kernel
theorem d_Mod_line_100 : decode b_Mod_line 100 = .ok (.iload_n 1, 1) := by decide +kernel
theorem d_Mod_line_101 : decode b_Mod_line 101 = .ok (.iaload, 1) := by decide +kernel
theorem d_Mod_line_102 : decode b_Mod_line 102 = .ok (.if_icmp .ge 25, 3) := by decide +kernel
theorem d_Mod_line_105 : decode b_Mod_line 105 = .ok (.aload_n 0, 1) := by decide +kernel
theorem d_Mod_line_106 : decode b_Mod_line 106 = .ok (.getfield 52, 3) := by decide +kernel
theorem d_Mod_line_109 : decode b_Mod_line 109 = .ok (.iload 4, 2) := by decide +kernel
theorem d_Mod_line_111 : decode b_Mod_line 111 = .ok (.iaload, 1) := by decide +kernel
theorem d_Mod_line_112 : decode b_Mod_line 112 = .ok (.invokestatic 111, 3) := by decide +kernel
theorem d_Mod_line_115 : decode b_Mod_line 115 = .ok (.ifCond .eq 6, 3) := by decide +kernel
theorem d_Mod_line_118 : decode b_Mod_line 118 = .ok (.iinc 3 1, 3) := by decide +kernel
theorem d_Mod_line_121 : decode b_Mod_line 121 = .ok (.iinc 4 1, 3) := by decide +kernel
theorem d_Mod_line_124 : decode b_Mod_line 124 = .ok (.goto (-30), 3) := by decide +kernel
theorem d_Mod_line_127 : decode b_Mod_line 127 = .ok (.iload_n 3, 1) := by decide +kernel
theorem d_Mod_line_128 : decode b_Mod_line 128 = .ok (.ireturn, 1) := by decide +kernel
theorem d_Mod_isLine_0 : decode b_Mod_isLine 0 = .ok (.iload_n 1, 1) := by decide +kernel
theorem d_Mod_isLine_1 : decode b_Mod_isLine 1 = .ok (.ifCond .lt 15, 3) := by decide +kernel
theorem d_Mod_isLine_4 : decode b_Mod_isLine 4 = .ok (.iload_n 1, 1) := by decide +kernel
theorem d_Mod_isLine_5 : decode b_Mod_isLine 5 = .ok (.aload_n 0, 1) := by decide +kernel
theorem d_Mod_isLine_6 : decode b_Mod_isLine 6 = .ok (.getfield 199, 3) := by decide +kernel
theorem d_Mod_isLine_9 : decode b_Mod_isLine 9 = .ok (.if_icmp .ge 7, 3) := by decide +kernel
theorem d_Mod_isLine_12 : decode b_Mod_isLine 12 = .ok (.iconst 1, 1) := by decide +kernel
theorem d_Mod_isLine_13 : decode b_Mod_isLine 13 = .ok (.goto 4, 3) := by decide +kernel
theorem d_Mod_isLine_16 : decode b_Mod_isLine 16 = .ok (.iconst 0, 1) := by decide +kernel
theorem d_Mod_isLine_17 : decode b_Mod_isLine 17 = .ok (.ireturn, 1) := by decide +kernel
theorem d_Mod_character_0 : decode b_Mod_character 0 = .ok (.aload_n 0, 1) := by decide +kernel
theorem d_Mod_character_1 : decode b_Mod_character 1 = .ok (.iload_n 1, 1) := by decide +kernel
theorem d_Mod_character_2 : decode b_Mod_character 2 = .ok (.invokevirtual 236, 3) := by decide +kernel
theorem d_Mod_character_5 : decode b_Mod_character 5 = .ok (.ifCond .eq 7, 3) := by decide +kernel
theorem d_Mod_character_8 : decode b_Mod_character 8 = .ok (.iload_n 2, 1) := by decide +kernel
theorem d_Mod_character_9 : decode b_Mod_character 9 = .ok (.ifCond .ge 5, 3) := by decide +kernel
theorem d_Mod_character_12 : decode b_Mod_character 12 = .ok (.iconst (-1), 1) := by decide +kernel
theorem d_Mod_character_13 : decode b_Mod_character 13 = .ok (.ireturn, 1) := by decide +kernel
theorem d_Mod_character_14 : decode b_Mod_character 14 = .ok (.iload_n 2, 1) := by decide +kernel
theorem d_Mod_character_15 : decode b_Mod_character 15 = .ok (.aload_n 0, 1) := by decide +kernel
theorem d_Mod_character_16 : decode b_Mod_character 16 = .ok (.iload_n 1, 1) := by decide +kernel
theorem d_Mod_character_17 : decode b_Mod_character 17 = .ok (.invokevirtual 239, 3) := by decide +kernel
theorem d_Mod_character_20 : decode b_Mod_character 20 = .ok (.if_icmp .lt 5, 3) := by decide +kernel
theorem d_Mod_character_23 : decode b_Mod_character 23 = .ok (.iconst 0, 1) := by decide +kernel
theorem d_Mod_character_24 : decode b_Mod_character 24 = .ok (.ireturn, 1) := by decide +kernel
theorem d_Mod_character_25 : decode b_Mod_character 25 = .ok (.aload_n 0, 1) := by decide +kernel
theorem d_Mod_character_26 : decode b_Mod_character 26 = .ok (.getfield 84, 3) := by decide +kernel
theorem d_Mod_character_29 : decode b_Mod_character 29 = .ok (.iload_n 1, 1) := by decide +kernel
theorem d_Mod_character_30 : decode b_Mod_character 30 = .ok (.iaload, 1) := by decide +kernel
theorem d_Mod_character_31 : decode b_Mod_character 31 = .ok (.iload_n 2, 1) := by decide +kernel
theorem d_Mod_character_32 : decode b_Mod_character 32 = .ok (.iadd, 1) := by decide +kernel
theorem d_Mod_character_33 : decode b_Mod_character 33 = .ok (.istore_n 3, 1) := by decide +kernel
theorem d_Mod_character_34 : decode b_Mod_character 34 = .ok (.iload_n 3, 1) := by decide +kernel
theorem d_Mod_character_35 : decode b_Mod_character 35 = .ok (.aload_n 0, 1) := by decide +kernel
theorem d_Mod_character_36 : decode b_Mod_character 36 = .ok (.getfield 87, 3) := by decide +kernel
theorem d_Mod_character_39 : decode b_Mod_character 39 = .ok (.iload_n 1, 1) := by decide +kernel
theorem d_Mod_character_40 : decode b_Mod_character 40 = .ok (.iaload, 1) := by decide +kernel
theorem d_Mod_character_41 : decode b_Mod_character 41 = .ok (.if_icmp .ne 6, 3) := by decide +kernel
theorem d_Mod_character_44 : decode b_Mod_character 44 = .ok (.bipush 45, 2) := by decide +kernel
theorem d_Mod_character_46 : decode b_Mod_character 46 = .ok (.ireturn, 1) := by decide +kernel
theorem d_Mod_character_47 : decode b_Mod_character 47 = .ok (.aload_n 0, 1) := by decide +kernel
theorem d_Mod_character_48 : decode b_Mod_character 48 = .ok (.getfield 52, 3) := by decide +kernel
theorem d_Mod_character_51 : decode b_Mod_character 51 = .ok (.iload_n 3, 1) := by decide +kernel
theorem d_Mod_character_52 : decode b_Mod_character 52 = .ok (.iaload, 1) := by decide +kernel
theorem d_Mod_character_53 : decode b_Mod_character 53 = .ok (.bipush 126, 2) := by decide +kernel
theorem d_Mod_character_55 : decode b_Mod_character 55 = .ok (.if_icmp .ne 8, 3) := by decide +kernel
theorem d_Mod_character_58 : decode b_Mod_character 58 = .ok (.bipush 32, 2) := by decide +kernel
theorem d_Mod_character_60 : decode b_Mod_character 60 = .ok (.goto 9, 3) := by decide +kernel
theorem d_Mod_character_63 : decode b_Mod_character 63 = .ok (.aload_n 0, 1) := by decide +kernel
theorem d_Mod_character_64 : decode b_Mod_character 64 = .ok (.getfield 52, 3) := by decide +kernel
theorem d_Mod_character_67 : decode b_Mod_character 67 = .ok (.iload_n 3, 1) := by decide +kernel
theorem d_Mod_character_68 : decode b_Mod_character 68 = .ok (.iaload, 1) := by decide +kernel
theorem d_Mod_character_69 : decode b_Mod_character 69 = .ok (.ireturn, 1) := by decide +kernel
theorem d_Mod_characters_0 : decode b_Mod_characters 0 = .ok (.aload_n 0, 1) := by decide +kernel
theorem d_Mod_characters_1 : decode b_Mod_characters 1 = .ok (.getfield 87, 3) := by decide +kernel
theorem d_Mod_characters_4 : decode b_Mod_characters 4 = .ok (.iload_n 1, 1) := by decide +kernel
theorem d_Mod_characters_5 : decode b_Mod_characters 5 = .ok (.iaload, 1) := by decide +kernel
theorem d_Mod_characters_6 : decode b_Mod_characters 6 = .ok (.aload_n 0, 1) := by decide +kernel
theorem d_Mod_characters_7 : decode b_Mod_characters 7 = .ok (.getfield 84, 3) := by decide +kernel
theorem d_Mod_characters_10 : decode b_Mod_characters 10 = .ok (.iload_n 1, 1) := by decide +kernel
theorem d_Mod_characters_11 : decode b_Mod_characters 11 = .ok (.iaload, 1) := by decide +kernel
theorem d_Mod_characters_12 : decode b_Mod_characters 12 = .ok (.isub, 1) := by decide +kernel
theorem d_Mod_characters_13 : decode b_Mod_characters 13 = .ok (.aload_n 0, 1) := by decide +kernel
theorem d_Mod_characters_14 : decode b_Mod_characters 14 = .ok (.getfield 90, 3) := by decide +kernel
theorem d_Mod_characters_17 : decode b_Mod_characters 17 = .ok (.iload_n 1, 1) := by decide +kernel
theorem d_Mod_characters_18 : decode b_Mod_characters 18 = .ok (.iaload, 1) := by decide +kernel
theorem d_Mod_characters_19 : decode b_Mod_characters 19 = .ok (.iconst 2, 1) := by decide +kernel
theorem d_Mod_characters_20 : decode b_Mod_characters 20 = .ok (.if_icmp .ne 7, 3) := by decide +kernel
theorem d_Mod_characters_23 : decode b_Mod_characters 23 = .ok (.iconst 1, 1) := by decide +kernel
theorem d_Mod_characters_24 : decode b_Mod_characters 24 = .ok (.goto 4, 3) := by decide +kernel
theorem d_Mod_characters_27 : decode b_Mod_characters 27 = .ok (.iconst 0, 1) := by decide +kernel
theorem d_Mod_characters_28 : decode b_Mod_characters 28 = .ok (.iadd, 1) := by decide +kernel
theorem d_Mod_characters_29 : decode b_Mod_characters 29 = .ok (.ireturn, 1) := by decide +kernel
theorem d_Mod_place_0 : decode b_Mod_place 0 = .ok (.aload_n 0, 1) := by decide +kernel
theorem d_Mod_place_1 : decode b_Mod_place 1 = .ok (.iload_n 1, 1) := by decide +kernel
theorem d_Mod_place_2 : decode b_Mod_place 2 = .ok (.invokevirtual 236, 3) := by decide +kernel
theorem d_Mod_place_5 : decode b_Mod_place 5 = .ok (.ifCond .eq 16, 3) := by decide +kernel
theorem d_Mod_place_8 : decode b_Mod_place 8 = .ok (.iload_n 2, 1) := by decide +kernel
theorem d_Mod_place_9 : decode b_Mod_place 9 = .ok (.ifCond .lt 12, 3) := by decide +kernel
theorem d_Mod_place_12 : decode b_Mod_place 12 = .ok (.iload_n 2, 1) := by decide +kernel
theorem d_Mod_place_13 : decode b_Mod_place 13 = .ok (.aload_n 0, 1) := by decide +kernel
theorem d_Mod_place_14 : decode b_Mod_place 14 = .ok (.iload_n 1, 1) := by decide +kernel
theorem d_Mod_place_15 : decode b_Mod_place 15 = .ok (.invokevirtual 239, 3) := by decide +kernel
theorem d_Mod_place_18 : decode b_Mod_place 18 = .ok (.if_icmp .lt 5, 3) := by decide +kernel
theorem d_Mod_place_21 : decode b_Mod_place 21 = .ok (.iconst (-1), 1) := by decide +kernel
theorem d_Mod_place_22 : decode b_Mod_place 22 = .ok (.ireturn, 1) := by decide +kernel
theorem d_Mod_place_23 : decode b_Mod_place 23 = .ok (.iconst 0, 1) := by decide +kernel
theorem d_Mod_place_24 : decode b_Mod_place 24 = .ok (.istore_n 3, 1) := by decide +kernel
theorem d_Mod_place_25 : decode b_Mod_place 25 = .ok (.iconst 0, 1) := by decide +kernel
theorem d_Mod_place_26 : decode b_Mod_place 26 = .ok (.istore 4, 2) := by decide +kernel
theorem d_Mod_place_28 : decode b_Mod_place 28 = .ok (.aload_n 0, 1) := by decide +kernel
theorem d_Mod_place_29 : decode b_Mod_place 29 = .ok (.getfield 99, 3) := by decide +kernel
theorem d_Mod_place_32 : decode b_Mod_place 32 = .ok (.iload_n 1, 1) := by decide +kernel
theorem d_Mod_place_33 : decode b_Mod_place 33 = .ok (.iaload, 1) := by decide +kernel
theorem d_Mod_place_34 : decode b_Mod_place 34 = .ok (.istore 5, 2) := by decide +kernel
theorem d_Mod_place_36 : decode b_Mod_place 36 = .ok (.aload_n 0, 1) := by decide +kernel
theorem d_Mod_place_37 : decode b_Mod_place 37 = .ok (.getfield 84, 3) := by decide +kernel
theorem d_Mod_place_40 : decode b_Mod_place 40 = .ok (.iload_n 1, 1) := by decide +kernel
theorem d_Mod_place_41 : decode b_Mod_place 41 = .ok (.iaload, 1) := by decide +kernel
theorem d_Mod_place_42 : decode b_Mod_place 42 = .ok (.istore 6, 2) := by decide +kernel
theorem d_Mod_place_44 : decode b_Mod_place 44 = .ok (.iload 6, 2) := by decide +kernel
theorem d_Mod_place_46 : decode b_Mod_place 46 = .ok (.aload_n 0, 1) := by decide +kernel
theorem d_Mod_place_47 : decode b_Mod_place 47 = .ok (.getfield 84, 3) := by decide +kernel
theorem d_Mod_place_50 : decode b_Mod_place 50 = .ok (.iload_n 1, 1) := by decide +kernel
theorem d_Mod_place_51 : decode b_Mod_place 51 = .ok (.iaload, 1) := by decide +kernel
theorem d_Mod_place_52 : decode b_Mod_place 52 = .ok (.iload_n 2, 1) := by decide +kernel
theorem d_Mod_place_53 : decode b_Mod_place 53 = .ok (.iadd, 1) := by decide +kernel
theorem d_Mod_place_54 : decode b_Mod_place 54 = .ok (.if_icmp .ge 76, 3) := by decide +kernel
theorem d_Mod_place_57 : decode b_Mod_place 57 = .ok (.iload_n 3, 1) := by decide +kernel
theorem d_Mod_place_58 : decode b_Mod_place 58 = .ok (.aload_n 0, 1) := by decide +kernel
theorem d_Mod_place_59 : decode b_Mod_place 59 = .ok (.getfield 55, 3) := by decide +kernel
theorem d_Mod_place_62 : decode b_Mod_place 62 = .ok (.iload 6, 2) := by decide +kernel
theorem d_Mod_place_64 : decode b_Mod_place 64 = .ok (.iaload, 1) := by decide +kernel
theorem d_Mod_place_65 : decode b_Mod_place 65 = .ok (.iadd, 1) := by decide +kernel
theorem d_Mod_place_66 : decode b_Mod_place 66 = .ok (.istore_n 3, 1) := by decide +kernel
theorem d_Mod_place_67 : decode b_Mod_place 67 = .ok (.aload_n 0, 1) := by decide +kernel
theorem d_Mod_place_68 : decode b_Mod_place 68 = .ok (.getfield 52, 3) := by decide +kernel
theorem d_Mod_place_71 : decode b_Mod_place 71 = .ok (.iload 6, 2) := by decide +kernel
theorem d_Mod_place_73 : decode b_Mod_place 73 = .ok (.iaload, 1) := by decide +kernel
theorem d_Mod_place_74 : decode b_Mod_place 74 = .ok (.bipush 32, 2) := by decide +kernel
theorem d_Mod_place_76 : decode b_Mod_place 76 = .ok (.if_icmp .eq 15, 3) := by decide +kernel
theorem d_Mod_place_79 : decode b_Mod_place 79 = .ok (.aload_n 0, 1) := by decide +kernel
theorem d_Mod_place_80 : decode b_Mod_place 80 = .ok (.getfield 52, 3) := by decide +kernel
theorem d_Mod_place_83 : decode b_Mod_place 83 = .ok (.iload 6, 2) := by decide +kernel
theorem d_Mod_place_85 : decode b_Mod_place 85 = .ok (.iaload, 1) := by decide +kernel
theorem d_Mod_place_86 : decode b_Mod_place 86 = .ok (.bipush 126, 2) := by decide +kernel
theorem d_Mod_place_88 : decode b_Mod_place 88 = .ok (.if_icmp .ne 36, 3) := by decide +kernel
theorem d_Mod_place_91 : decode b_Mod_place 91 = .ok (.iload 4, 2) := by decide +kernel
theorem d_Mod_place_93 : decode b_Mod_place 93 = .ok (.iload 5, 2) := by decide +kernel
theorem d_Mod_place_95 : decode b_Mod_place 95 = .ok (.ifCond .le 17, 3) := by decide +kernel
theorem d_Mod_place_98 : decode b_Mod_place 98 = .ok (.aload_n 0, 1) := by decide +kernel
theorem d_Mod_place_99 : decode b_Mod_place 99 = .ok (.getfield 58, 3) := by decide +kernel
theorem d_Mod_place_102 : decode b_Mod_place 102 = .ok (.iload 6, 2) := by decide +kernel
theorem d_Mod_place_104 : decode b_Mod_place 104 = .ok (.iaload, 1) := by decide +kernel
theorem d_Mod_place_105 : decode b_Mod_place 105 = .ok (.iconst 1, 1) := by decide +kernel
theorem d_Mod_place_106 : decode b_Mod_place 106 = .ok (.iadd, 1) := by decide +kernel
theorem d_Mod_place_107 : decode b_Mod_place 107 = .ok (.iconst 2, 1) := by decide +kernel
theorem d_Mod_place_108 : decode b_Mod_place 108 = .ok (.idiv, 1) := by decide +kernel
theorem d_Mod_place_109 : decode b_Mod_place 109 = .ok (.goto 12, 3) := by decide +kernel
theorem d_Mod_place_112 : decode b_Mod_place 112 = .ok (.aload_n 0, 1) := by decide +kernel
theorem d_Mod_place_113 : decode b_Mod_place 113 = .ok (.getfield 58, 3) := by decide +kernel
theorem d_Mod_place_116 : decode b_Mod_place 116 = .ok (.iload 6, 2) := by decide +kernel
theorem d_Mod_place_118 : decode b_Mod_place 118 = .ok (.iaload, 1) := by decide +kernel
theorem d_Mod_place_119 : decode b_Mod_place 119 = .ok (.iconst 3, 1) := by decide +kernel
theorem d_Mod_place_120 : decode b_Mod_place 120 = .ok (.idiv, 1) := by decide +kernel
theorem d_Mod_place_121 : decode b_Mod_place 121 = .ok (.iadd, 1) := by decide +kernel
theorem d_Mod_place_122 : decode b_Mod_place 122 = .ok (.istore 4, 2) := by decide +kernel
theorem d_Mod_place_124 : decode b_Mod_place 124 = .ok (.iinc 6 1, 3) := by decide +kernel
theorem d_Mod_place_127 : decode b_Mod_place 127 = .ok (.goto (-83), 3) := by decide +kernel
theorem d_Mod_place_130 : decode b_Mod_place 130 = .ok (.iload 5, 2) := by decide +kernel
theorem d_Mod_place_132 : decode b_Mod_place 132 = .ok (.ifCond .eq 18, 3) := by decide +kernel
theorem d_Mod_place_135 : decode b_Mod_place 135 = .ok (.iload 5, 2) := by decide +kernel
theorem d_Mod_place_137 : decode b_Mod_place 137 = .ok (.ifCond .le 15, 3) := by decide +kernel
theorem d_Mod_place_140 : decode b_Mod_place 140 = .ok (.aload_n 0, 1) := by decide +kernel
theorem d_Mod_place_141 : decode b_Mod_place 141 = .ok (.getfield 90, 3) := by decide +kernel
theorem d_Mod_place_144 : decode b_Mod_place 144 = .ok (.iload_n 1, 1) := by decide +kernel
theorem d_Mod_place_145 : decode b_Mod_place 145 = .ok (.iaload, 1) := by decide +kernel
theorem d_Mod_place_146 : decode b_Mod_place 146 = .ok (.iconst 3, 1) := by decide +kernel
theorem d_Mod_place_147 : decode b_Mod_place 147 = .ok (.if_icmp .lt 5, 3) := by decide +kernel
theorem d_Mod_place_150 : decode b_Mod_place 150 = .ok (.iload_n 3, 1) := by decide +kernel
theorem d_Mod_place_151 : decode b_Mod_place 151 = .ok (.ireturn, 1) := by decide +kernel
theorem d_Mod_place_152 : decode b_Mod_place 152 = .ok (.iload 5, 2) := by decide +kernel
theorem d_Mod_place_154 : decode b_Mod_place 154 = .ok (.ifCond .le 12, 3) := by decide +kernel
theorem d_Mod_place_157 : decode b_Mod_place 157 = .ok (.aload_n 0, 1) := by decide +kernel
theorem d_Mod_place_158 : decode b_Mod_place 158 = .ok (.getfield 105, 3) := by decide +kernel
theorem d_Mod_place_161 : decode b_Mod_place 161 = .ok (.iload_n 1, 1) := by decide +kernel
theorem d_Mod_place_162 : decode b_Mod_place 162 = .ok (.iaload, 1) := by decide +kernel
theorem d_Mod_place_163 : decode b_Mod_place 163 = .ok (.goto 9, 3) := by decide +kernel
theorem d_Mod_place_166 : decode b_Mod_place 166 = .ok (.aload_n 0, 1) := by decide +kernel
theorem d_Mod_place_167 : decode b_Mod_place 167 = .ok (.getfield 108, 3) := by decide +kernel
theorem d_Mod_place_170 : decode b_Mod_place 170 = .ok (.iload_n 1, 1) := by decide +kernel
theorem d_Mod_place_171 : decode b_Mod_place 171 = .ok (.iaload, 1) := by decide +kernel
theorem d_Mod_place_172 : decode b_Mod_place 172 = .ok (.istore 6, 2) := by decide +kernel
theorem d_Mod_place_174 : decode b_Mod_place 174 = .ok (.iload 5, 2) := by decide +kernel
theorem d_Mod_place_176 : decode b_Mod_place 176 = .ok (.iload 4, 2) := by decide +kernel
theorem d_Mod_place_178 : decode b_Mod_place 178 = .ok (.imul, 1) := by decide +kernel
theorem d_Mod_place_179 : decode b_Mod_place 179 = .ok (.istore 7, 2) := by decide +kernel
theorem d_Mod_place_181 : decode b_Mod_place 181 = .ok (.iload 7, 2) := by decide +kernel
theorem d_Mod_place_183 : decode b_Mod_place 183 = .ok (.iload 6, 2) := by decide +kernel
theorem d_Mod_place_185 : decode b_Mod_place 185 = .ok (.idiv, 1) := by decide +kernel
theorem d_Mod_place_186 : decode b_Mod_place 186 = .ok (.istore 8, 2) := by decide +kernel
theorem d_Mod_place_188 : decode b_Mod_place 188 = .ok (.iload 7, 2) := by decide +kernel
theorem d_Mod_place_190 : decode b_Mod_place 190 = .ok (.ifCond .ge 20, 3) := by decide +kernel
theorem d_Mod_place_193 : decode b_Mod_place 193 = .ok (.iload 7, 2) := by decide +kernel
theorem d_Mod_place_195 : decode b_Mod_place 195 = .ok (.iload 6, 2) := by decide +kernel
theorem d_Mod_place_197 : decode b_Mod_place 197 = .ok (.irem, 1) := by decide +kernel
theorem d_Mod_place_198 : decode b_Mod_place 198 = .ok (.ifCond .eq 12, 3) := by decide +kernel
theorem d_Mod_place_201 : decode b_Mod_place 201 = .ok (.iload_n 3, 1) := by decide +kernel
theorem d_Mod_place_202 : decode b_Mod_place 202 = .ok (.iload 8, 2) := by decide +kernel
theorem d_Mod_place_204 : decode b_Mod_place 204 = .ok (.iadd, 1) := by decide +kernel
theorem d_Mod_place_205 : decode b_Mod_place 205 = .ok (.iconst 1, 1) := by decide +kernel
theorem d_Mod_place_206 : decode b_Mod_place 206 = .ok (.isub, 1) := by decide +kernel
theorem d_Mod_place_207 : decode b_Mod_place 207 = .ok (.goto 7, 3) := by decide +kernel
theorem d_Mod_place_210 : decode b_Mod_place 210 = .ok (.iload_n 3, 1) := by decide +kernel
theorem d_Mod_place_211 : decode b_Mod_place 211 = .ok (.iload 8, 2) := by decide +kernel
theorem d_Mod_place_213 : decode b_Mod_place 213 = .ok (.iadd, 1) := by decide +kernel
theorem d_Mod_place_214 : decode b_Mod_place 214 = .ok (.ireturn, 1) := by decide +kernel
theorem d_Mod_count_0 : decode b_Mod_count 0 = .ok (.iload_n 1, 1) := by decide +kernel
theorem d_Mod_count_1 : decode b_Mod_count 1 = .ok (.ifCond .lt 9, 3) := by decide +kernel
theorem d_Mod_count_4 : decode b_Mod_count 4 = .ok (.iload_n 1, 1) := by decide +kernel
theorem d_Mod_count_5 : decode b_Mod_count 5 = .ok (.bipush 6, 2) := by decide +kernel
theorem d_Mod_count_7 : decode b_Mod_count 7 = .ok (.if_icmp .le 5, 3) := by decide +kernel
theorem d_Mod_count_10 : decode b_Mod_count 10 = .ok (.iconst (-1), 1) := by decide +kernel
theorem d_Mod_count_11 : decode b_Mod_count 11 = .ok (.ireturn, 1) := by decide +kernel
theorem d_Mod_count_12 : decode b_Mod_count 12 = .ok (.iload_n 1, 1) := by decide +kernel
theorem d_Mod_count_13 : decode b_Mod_count 13 = .ok (.iconst 2, 1) := by decide +kernel
theorem d_Mod_count_14 : decode b_Mod_count 14 = .ok (.if_icmp .ge 19, 3) := by decide +kernel
theorem d_Mod_count_17 : decode b_Mod_count 17 = .ok (.iload_n 1, 1) := by decide +kernel
theorem d_Mod_count_18 : decode b_Mod_count 18 = .ok (.ifCond .ne 10, 3) := by decide +kernel
theorem d_Mod_count_21 : decode b_Mod_count 21 = .ok (.aload_n 0, 1) := by decide +kernel
theorem d_Mod_count_22 : decode b_Mod_count 22 = .ok (.getfield 199, 3) := by decide +kernel
theorem d_Mod_count_25 : decode b_Mod_count 25 = .ok (.goto 7, 3) := by decide +kernel
theorem d_Mod_count_28 : decode b_Mod_count 28 = .ok (.aload_n 0, 1) := by decide +kernel
theorem d_Mod_count_29 : decode b_Mod_count 29 = .ok (.getfield 202, 3) := by decide +kernel
theorem d_Mod_count_32 : decode b_Mod_count 32 = .ok (.ireturn, 1) := by decide +kernel
theorem d_Mod_count_33 : decode b_Mod_count 33 = .ok (.iload_n 1, 1) := by decide +kernel
theorem d_Mod_count_34 : decode b_Mod_count 34 = .ok (.iconst 4, 1) := by decide +kernel
theorem d_Mod_count_35 : decode b_Mod_count 35 = .ok (.if_icmp .ge 20, 3) := by decide +kernel
theorem d_Mod_count_38 : decode b_Mod_count 38 = .ok (.iload_n 1, 1) := by decide +kernel
theorem d_Mod_count_39 : decode b_Mod_count 39 = .ok (.iconst 2, 1) := by decide +kernel
theorem d_Mod_count_40 : decode b_Mod_count 40 = .ok (.if_icmp .ne 10, 3) := by decide +kernel
theorem d_Mod_count_43 : decode b_Mod_count 43 = .ok (.aload_n 0, 1) := by decide +kernel
theorem d_Mod_count_44 : decode b_Mod_count 44 = .ok (.getfield 205, 3) := by decide +kernel
theorem d_Mod_count_47 : decode b_Mod_count 47 = .ok (.goto 7, 3) := by decide +kernel
theorem d_Mod_count_50 : decode b_Mod_count 50 = .ok (.aload_n 0, 1) := by decide +kernel
theorem d_Mod_count_51 : decode b_Mod_count 51 = .ok (.getfield 208, 3) := by decide +kernel
theorem d_Mod_count_54 : decode b_Mod_count 54 = .ok (.ireturn, 1) := by decide +kernel
theorem d_Mod_count_55 : decode b_Mod_count 55 = .ok (.iload_n 1, 1) := by decide +kernel
theorem d_Mod_count_56 : decode b_Mod_count 56 = .ok (.iconst 4, 1) := by decide +kernel
theorem d_Mod_count_57 : decode b_Mod_count 57 = .ok (.if_icmp .ne 10, 3) := by decide +kernel
theorem d_Mod_count_60 : decode b_Mod_count 60 = .ok (.aload_n 0, 1) := by decide +kernel
theorem d_Mod_count_61 : decode b_Mod_count 61 = .ok (.getfield 211, 3) := by decide +kernel
theorem d_Mod_count_64 : decode b_Mod_count 64 = .ok (.goto 19, 3) := by decide +kernel
theorem d_Mod_count_67 : decode b_Mod_count 67 = .ok (.iload_n 1, 1) := by decide +kernel
theorem d_Mod_count_68 : decode b_Mod_count 68 = .ok (.iconst 5, 1) := by decide +kernel
theorem d_Mod_count_69 : decode b_Mod_count 69 = .ok (.if_icmp .ne 10, 3) := by decide +kernel
theorem d_Mod_count_72 : decode b_Mod_count 72 = .ok (.aload_n 0, 1) := by decide +kernel
theorem d_Mod_count_73 : decode b_Mod_count 73 = .ok (.getfield 122, 3) := by decide +kernel
theorem d_Mod_count_76 : decode b_Mod_count 76 = .ok (.goto 7, 3) := by decide +kernel
theorem d_Mod_count_79 : decode b_Mod_count 79 = .ok (.aload_n 0, 1) := by decide +kernel
theorem d_Mod_count_80 : decode b_Mod_count 80 = .ok (.getfield 118, 3) := by decide +kernel
theorem d_Mod_count_83 : decode b_Mod_count 83 = .ok (.ireturn, 1) := by decide +kernel
end
section
/-- from the frame's state S the method answers r and leaves M' -/
def EvF (G : gG) (d : Nat) (k : gY) (S : gS) (r : Option Value) (M' : gM) : Prop := ∃ (pcR : Nat) (lvR : gL) (stR : List Value), Go G k d S (pcR, lvR, stR, M') ∧ gRet k pcR stR r
section GEVF
variable {G : gG} {k : gY} {d pc : Nat} {lv : gL} {st : List Value} {M M' : gM} {S S1 : gS} {r : Option Value} {av : List Value}
theorem EvF.go (h : Go G k d S S1) (h2 : EvF G d k S1 r M') : EvF G d k S r M' := by
  obtain ⟨a, b, c, h3, h4⟩ := h2
  exact ⟨a, b, c, h.tr h3, h4⟩
theorem Ev.of (hl : (lg_sl av).length ≤ k.2.2.1) (h : EvF G d k (0, lv_args 0 av, [], M) r M') : Ev G d k av M r M' := by
  obtain ⟨a, b, c, h3, h4⟩ := h
  exact ⟨a, b, c, h3, h4, hl⟩
theorem EvF.ri {v w : Int32} (hdg : decode k.2.1 pc = .ok (.ireturn, 1)) (ht : k.2.2.2 = some .int) (hv : v = w) (hM : M = M') : EvF G d k (pc, lv, [.int v], M) (some (.int w)) M' := by
  subst hv; subst hM
  exact ⟨_, _, _, Go.rf, Or.inl ⟨v, rfl, rfl, ⟨_, ht, rfl⟩, hdg⟩⟩
theorem EvF.rz {v w : Int32} (hdg : decode k.2.1 pc = .ok (.ireturn, 1)) (ht : k.2.2.2 = some .boolean) (hw : v = 0 ∨ v = 1) (hv : v = w) (hM : M = M') : EvF G d k (pc, lv, [.int v], M) (some (.int w)) M' := by
  subst hv; subst hM
  exact ⟨_, _, _, Go.rf, Or.inl ⟨v, rfl, rfl, ⟨_, ht, by rcases hw with rfl | rfl <;> rfl⟩, hdg⟩⟩
theorem EvF.rl {v w : Int64} (hdg : decode k.2.1 pc = .ok (.lreturn, 1)) (ht : k.2.2.2 = some .long) (hv : v = w) (hM : M = M') : EvF G d k (pc, lv, [.long v], M) (some (.long w)) M' := by
  subst hv; subst hM
  exact ⟨_, _, _, Go.rf, Or.inr (Or.inl ⟨v, rfl, rfl, ht, hdg⟩)⟩
theorem EvF.rv (hdg : decode k.2.1 pc = .ok (.return_, 1)) (ht : k.2.2.2 = none) (hM : M = M') : EvF G d k (pc, lv, [], M) none M' := by
  subst hM
  exact ⟨_, _, _, Go.rf, Or.inr (Or.inr (Or.inl ⟨rfl, rfl, ht, hdg⟩))⟩
theorem Go.trp {p1 : Nat} {lv1 : gL} {st1 : List Value} {M1 : gM} {S2 : gS} (q : Nat) (h1 : Go G k d S (p1, lv1, st1, M1)) (hp : p1 = q) (h2 : Go G k d (q, lv1, st1, M1) S2) : Go G k d S S2 := h1.tr (hp ▸ h2)
theorem EvF.gop {p1 : Nat} {lv1 : gL} {st1 : List Value} {M1 : gM} (q : Nat) (h1 : Go G k d S (p1, lv1, st1, M1)) (hp : p1 = q) (h2 : EvF G d k (q, lv1, st1, M1) r M') : EvF G d k S r M' := EvF.go h1 (hp ▸ h2)
theorem go_pick (ks : List Nat) (lv' : gL) (h : lv_pick lv ks = lv') : Go G k d (pc, lv, st, M) (pc, lv', st, M) := Go.sub lv' (fun q hq => by
  rw [← h] at hq
  obtain ⟨i, -, hi⟩ := List.mem_filterMap.mp hq
  exact List.mem_of_getElem? hi)
theorem ofInt1 : Int32.ofInt 1 = 1 := by decide
theorem go_inc1 {i n0 x : Nat} (lv' : gL) (hdg : decode k.2.1 pc = .ok (.iinc i 1, 3)) (hk : lv[n0]? = some (i, .int (nI x))) (hn : i < k.2.2.1) (hl0 : (i, Value.int (nI (x + 1))) :: lv.filter (fun q => !(q.1 == i) && !(q.1 + 1 == i && q.2.category == 2)) = lv') : Go G k d (pc, lv, st, M) (pc + 3, lv', st, M) :=
  go_iinc lv' hdg hk (by rw [ofInt1]; exact nI_1 x) hn hl0
end GEVF
theorem gNeK {M : gM} {a b ci cj : Nat} {fs fs' : List Value} (h1 : gRd M a = some (.inr (ci, fs))) (h2 : gRd M b = some (.inr (cj, fs'))) (h : ci ≠ cj) : a ≠ b := gNeC h1 h2 h
/-- a truth value as the machine has it -/
def bI (b : Bool) : Int32 := cond b 1 0
theorem bI_t {b : Bool} (h : b = true) : bI b = 1 := by rw [h]; rfl
theorem bI_f {b : Bool} (h : b = false) : bI b = 0 := by rw [h]; rfl
theorem bI_01 (b : Bool) : bI b = 0 ∨ bI b = 1 := by
  cases b
  · exact Or.inl rfl
  · exact Or.inr rfl
theorem bI_0 {b : Bool} : bI b = 0 ↔ b = false := by
  cases b <;> simp [bI]
theorem bI_n0 {b : Bool} : ¬ bI b = 0 ↔ b = true := by
  cases b <;> simp [bI]
-- what characters are
def cLet (c : Int32) : Bool := decide (97 ≤ c) && decide (c ≤ 122)
def cDig (c : Int32) : Bool := decide (48 ≤ c) && decide (c ≤ 57)
def cMac (c : Int32) : Bool := decide (65 ≤ c) && decide (c < 69)
def cSpc (c : Int32) : Bool := decide (c = 32) || decide (c = 126)
def cWid (c : Int32) : Bool := cLet c || decide (c = 45)
def cItm (c : Int32) : Bool := cWid c || (cSpc c || decide (c = 124))
def cLin (c : Int32) : Bool := cItm c || cMac c || cDig c || decide (c = 123) || decide (c = 125) || decide (c = 35) || decide (c = 61) || decide (c = 46)
end
section
/-- isLetter -/
theorem e_PS_isLetter (G : gG) (M : gM) (c : Int32) : Ev G 0 m_PS_isLetter [.int c] M (some (.int (bI (cLet c)))) M := by
  refine Ev.of (Nat.le_of_ble_eq_true rfl) ?_
  show EvF G 0 m_PS_isLetter (0, [(0, .int c)], [], M) _ _
  refine EvF.gop 1 (go_iload_n d_PS_isLetter_0 rfl 0 rfl) rfl ?_
  refine EvF.gop 3 (go_bipush (v := 97) d_PS_isLetter_1 (by decide)) rfl ?_
  by_cases c1 : c < 97
  · have c1x : ¬ 97 ≤ c := Int32.not_le.mpr c1
    refine EvF.gop 16 (go_icmp_lt_t 16 d_PS_isLetter_3 (by decide) (c1)) rfl ?_
    refine EvF.gop 17 (go_iconst (v := 0) d_PS_isLetter_16 (by decide)) rfl ?_
    exact EvF.rz d_PS_isLetter_17 rfl (by decide) (by simp [bI, cLet, *]) (rfl)
  · have c1x : 97 ≤ c := Int32.not_lt.mp c1
    refine EvF.gop 6 (go_icmp_lt_f 16 d_PS_isLetter_3 (by decide) (c1)) rfl ?_
    refine EvF.gop 7 (go_iload_n d_PS_isLetter_6 rfl 0 rfl) rfl ?_
    refine EvF.gop 9 (go_bipush (v := 122) d_PS_isLetter_7 (by decide)) rfl ?_
    by_cases c2 : 122 < c
    · have c2x : ¬ c ≤ 122 := Int32.not_le.mpr c2
      refine EvF.gop 16 (go_icmp_gt_t 16 d_PS_isLetter_9 (by decide) (c2)) rfl ?_
      refine EvF.gop 17 (go_iconst (v := 0) d_PS_isLetter_16 (by decide)) rfl ?_
      exact EvF.rz d_PS_isLetter_17 rfl (by decide) (by simp [bI, cLet, *]) (rfl)
    · have c2x : c ≤ 122 := Int32.not_lt.mp c2
      refine EvF.gop 12 (go_icmp_gt_f 16 d_PS_isLetter_9 (by decide) (c2)) rfl ?_
      refine EvF.gop 13 (go_iconst (v := 1) d_PS_isLetter_12 (by decide)) rfl ?_
      refine EvF.gop 17 (go_goto 17 d_PS_isLetter_13 (by decide)) rfl ?_
      exact EvF.rz d_PS_isLetter_17 rfl (by decide) (by simp [bI, cLet, *]) (rfl)
/-- isDigit -/
theorem e_PS_isDigit (G : gG) (M : gM) (c : Int32) : Ev G 0 m_PS_isDigit [.int c] M (some (.int (bI (cDig c)))) M := by
  refine Ev.of (Nat.le_of_ble_eq_true rfl) ?_
  show EvF G 0 m_PS_isDigit (0, [(0, .int c)], [], M) _ _
  refine EvF.gop 1 (go_iload_n d_PS_isDigit_0 rfl 0 rfl) rfl ?_
  refine EvF.gop 3 (go_bipush (v := 48) d_PS_isDigit_1 (by decide)) rfl ?_
  by_cases c1 : c < 48
  · have c1x : ¬ 48 ≤ c := Int32.not_le.mpr c1
    refine EvF.gop 16 (go_icmp_lt_t 16 d_PS_isDigit_3 (by decide) (c1)) rfl ?_
    refine EvF.gop 17 (go_iconst (v := 0) d_PS_isDigit_16 (by decide)) rfl ?_
    exact EvF.rz d_PS_isDigit_17 rfl (by decide) (by simp [bI, cDig, *]) (rfl)
  · have c1x : 48 ≤ c := Int32.not_lt.mp c1
    refine EvF.gop 6 (go_icmp_lt_f 16 d_PS_isDigit_3 (by decide) (c1)) rfl ?_
    refine EvF.gop 7 (go_iload_n d_PS_isDigit_6 rfl 0 rfl) rfl ?_
    refine EvF.gop 9 (go_bipush (v := 57) d_PS_isDigit_7 (by decide)) rfl ?_
    by_cases c2 : 57 < c
    · have c2x : ¬ c ≤ 57 := Int32.not_le.mpr c2
      refine EvF.gop 16 (go_icmp_gt_t 16 d_PS_isDigit_9 (by decide) (c2)) rfl ?_
      refine EvF.gop 17 (go_iconst (v := 0) d_PS_isDigit_16 (by decide)) rfl ?_
      exact EvF.rz d_PS_isDigit_17 rfl (by decide) (by simp [bI, cDig, *]) (rfl)
    · have c2x : c ≤ 57 := Int32.not_lt.mp c2
      refine EvF.gop 12 (go_icmp_gt_f 16 d_PS_isDigit_9 (by decide) (c2)) rfl ?_
      refine EvF.gop 13 (go_iconst (v := 1) d_PS_isDigit_12 (by decide)) rfl ?_
      refine EvF.gop 17 (go_goto 17 d_PS_isDigit_13 (by decide)) rfl ?_
      exact EvF.rz d_PS_isDigit_17 rfl (by decide) (by simp [bI, cDig, *]) (rfl)
/-- isMacroName -/
theorem e_PS_isMacroName (G : gG) (M : gM) (c : Int32) : Ev G 0 m_PS_isMacroName [.int c] M (some (.int (bI (cMac c)))) M := by
  refine Ev.of (Nat.le_of_ble_eq_true rfl) ?_
  show EvF G 0 m_PS_isMacroName (0, [(0, .int c)], [], M) _ _
  refine EvF.gop 1 (go_iload_n d_PS_isMacroName_0 rfl 0 rfl) rfl ?_
  refine EvF.gop 3 (go_bipush (v := 65) d_PS_isMacroName_1 (by decide)) rfl ?_
  by_cases c1 : c < 65
  · have c1x : ¬ 65 ≤ c := Int32.not_le.mpr c1
    refine EvF.gop 16 (go_icmp_lt_t 16 d_PS_isMacroName_3 (by decide) (c1)) rfl ?_
    refine EvF.gop 17 (go_iconst (v := 0) d_PS_isMacroName_16 (by decide)) rfl ?_
    exact EvF.rz d_PS_isMacroName_17 rfl (by decide) (by simp [bI, cMac, *]) (rfl)
  · have c1x : 65 ≤ c := Int32.not_lt.mp c1
    refine EvF.gop 6 (go_icmp_lt_f 16 d_PS_isMacroName_3 (by decide) (c1)) rfl ?_
    refine EvF.gop 7 (go_iload_n d_PS_isMacroName_6 rfl 0 rfl) rfl ?_
    refine EvF.gop 9 (go_bipush (v := 69) d_PS_isMacroName_7 (by decide)) rfl ?_
    by_cases c2 : 69 ≤ c
    · have c2x : ¬ c < 69 := Int32.not_lt.mpr c2
      refine EvF.gop 16 (go_icmp_ge_t 16 d_PS_isMacroName_9 (by decide) (c2)) rfl ?_
      refine EvF.gop 17 (go_iconst (v := 0) d_PS_isMacroName_16 (by decide)) rfl ?_
      exact EvF.rz d_PS_isMacroName_17 rfl (by decide) (by simp [bI, cMac, *]) (rfl)
    · have c2x : c < 69 := Int32.not_le.mp c2
      refine EvF.gop 12 (go_icmp_ge_f 16 d_PS_isMacroName_9 (by decide) (c2)) rfl ?_
      refine EvF.gop 13 (go_iconst (v := 1) d_PS_isMacroName_12 (by decide)) rfl ?_
      refine EvF.gop 17 (go_goto 17 d_PS_isMacroName_13 (by decide)) rfl ?_
      exact EvF.rz d_PS_isMacroName_17 rfl (by decide) (by simp [bI, cMac, *]) (rfl)
/-- isSpace -/
theorem e_PS_isSpace (G : gG) (M : gM) (c : Int32) : Ev G 0 m_PS_isSpace [.int c] M (some (.int (bI (cSpc c)))) M := by
  refine Ev.of (Nat.le_of_ble_eq_true rfl) ?_
  show EvF G 0 m_PS_isSpace (0, [(0, .int c)], [], M) _ _
  refine EvF.gop 1 (go_iload_n d_PS_isSpace_0 rfl 0 rfl) rfl ?_
  refine EvF.gop 3 (go_bipush (v := 32) d_PS_isSpace_1 (by decide)) rfl ?_
  by_cases c1 : c = 32
  · refine EvF.gop 12 (go_icmp_eq_t 12 d_PS_isSpace_3 (by decide) (c1)) rfl ?_
    refine EvF.gop 13 (go_iconst (v := 1) d_PS_isSpace_12 (by decide)) rfl ?_
    refine EvF.gop 17 (go_goto 17 d_PS_isSpace_13 (by decide)) rfl ?_
    exact EvF.rz d_PS_isSpace_17 rfl (by decide) (by simp [bI, cSpc, *]) (rfl)
  · refine EvF.gop 6 (go_icmp_eq_f 12 d_PS_isSpace_3 (by decide) (c1)) rfl ?_
    refine EvF.gop 7 (go_iload_n d_PS_isSpace_6 rfl 0 rfl) rfl ?_
    refine EvF.gop 9 (go_bipush (v := 126) d_PS_isSpace_7 (by decide)) rfl ?_
    by_cases c2 : c = 126
    · refine EvF.gop 12 (go_icmp_ne_f 16 d_PS_isSpace_9 (by decide) (c2)) rfl ?_
      refine EvF.gop 13 (go_iconst (v := 1) d_PS_isSpace_12 (by decide)) rfl ?_
      refine EvF.gop 17 (go_goto 17 d_PS_isSpace_13 (by decide)) rfl ?_
      exact EvF.rz d_PS_isSpace_17 rfl (by decide) (by simp [bI, cSpc, *]) (rfl)
    · refine EvF.gop 16 (go_icmp_ne_t 16 d_PS_isSpace_9 (by decide) (c2)) rfl ?_
      refine EvF.gop 17 (go_iconst (v := 0) d_PS_isSpace_16 (by decide)) rfl ?_
      exact EvF.rz d_PS_isSpace_17 rfl (by decide) (by simp [bI, cSpc, *]) (rfl)
/-- letter -/
theorem e_Mod_letter (G : gG) (M : gM) (c : Int32) : Ev G 0 m_Mod_letter [.int c] M (some (.int (bI (cLet c)))) M := by
  refine Ev.of (Nat.le_of_ble_eq_true rfl) ?_
  show EvF G 0 m_Mod_letter (0, [(0, .int c)], [], M) _ _
  refine EvF.gop 1 (go_iload_n d_Mod_letter_0 rfl 0 rfl) rfl ?_
  refine EvF.gop 3 (go_bipush (v := 97) d_Mod_letter_1 (by decide)) rfl ?_
  by_cases c1 : c < 97
  · have c1x : ¬ 97 ≤ c := Int32.not_le.mpr c1
    refine EvF.gop 16 (go_icmp_lt_t 16 d_Mod_letter_3 (by decide) (c1)) rfl ?_
    refine EvF.gop 17 (go_iconst (v := 0) d_Mod_letter_16 (by decide)) rfl ?_
    exact EvF.rz d_Mod_letter_17 rfl (by decide) (by simp [bI, cLet, *]) (rfl)
  · have c1x : 97 ≤ c := Int32.not_lt.mp c1
    refine EvF.gop 6 (go_icmp_lt_f 16 d_Mod_letter_3 (by decide) (c1)) rfl ?_
    refine EvF.gop 7 (go_iload_n d_Mod_letter_6 rfl 0 rfl) rfl ?_
    refine EvF.gop 9 (go_bipush (v := 122) d_Mod_letter_7 (by decide)) rfl ?_
    by_cases c2 : 122 < c
    · have c2x : ¬ c ≤ 122 := Int32.not_le.mpr c2
      refine EvF.gop 16 (go_icmp_gt_t 16 d_Mod_letter_9 (by decide) (c2)) rfl ?_
      refine EvF.gop 17 (go_iconst (v := 0) d_Mod_letter_16 (by decide)) rfl ?_
      exact EvF.rz d_Mod_letter_17 rfl (by decide) (by simp [bI, cLet, *]) (rfl)
    · have c2x : c ≤ 122 := Int32.not_lt.mp c2
      refine EvF.gop 12 (go_icmp_gt_f 16 d_Mod_letter_9 (by decide) (c2)) rfl ?_
      refine EvF.gop 13 (go_iconst (v := 1) d_Mod_letter_12 (by decide)) rfl ?_
      refine EvF.gop 17 (go_goto 17 d_Mod_letter_13 (by decide)) rfl ?_
      exact EvF.rz d_Mod_letter_17 rfl (by decide) (by simp [bI, cLet, *]) (rfl)
/-- digit -/
theorem e_Mod_digit (G : gG) (M : gM) (c : Int32) : Ev G 0 m_Mod_digit [.int c] M (some (.int (bI (cDig c)))) M := by
  refine Ev.of (Nat.le_of_ble_eq_true rfl) ?_
  show EvF G 0 m_Mod_digit (0, [(0, .int c)], [], M) _ _
  refine EvF.gop 1 (go_iload_n d_Mod_digit_0 rfl 0 rfl) rfl ?_
  refine EvF.gop 3 (go_bipush (v := 48) d_Mod_digit_1 (by decide)) rfl ?_
  by_cases c1 : c < 48
  · have c1x : ¬ 48 ≤ c := Int32.not_le.mpr c1
    refine EvF.gop 16 (go_icmp_lt_t 16 d_Mod_digit_3 (by decide) (c1)) rfl ?_
    refine EvF.gop 17 (go_iconst (v := 0) d_Mod_digit_16 (by decide)) rfl ?_
    exact EvF.rz d_Mod_digit_17 rfl (by decide) (by simp [bI, cDig, *]) (rfl)
  · have c1x : 48 ≤ c := Int32.not_lt.mp c1
    refine EvF.gop 6 (go_icmp_lt_f 16 d_Mod_digit_3 (by decide) (c1)) rfl ?_
    refine EvF.gop 7 (go_iload_n d_Mod_digit_6 rfl 0 rfl) rfl ?_
    refine EvF.gop 9 (go_bipush (v := 57) d_Mod_digit_7 (by decide)) rfl ?_
    by_cases c2 : 57 < c
    · have c2x : ¬ c ≤ 57 := Int32.not_le.mpr c2
      refine EvF.gop 16 (go_icmp_gt_t 16 d_Mod_digit_9 (by decide) (c2)) rfl ?_
      refine EvF.gop 17 (go_iconst (v := 0) d_Mod_digit_16 (by decide)) rfl ?_
      exact EvF.rz d_Mod_digit_17 rfl (by decide) (by simp [bI, cDig, *]) (rfl)
    · have c2x : c ≤ 57 := Int32.not_lt.mp c2
      refine EvF.gop 12 (go_icmp_gt_f 16 d_Mod_digit_9 (by decide) (c2)) rfl ?_
      refine EvF.gop 13 (go_iconst (v := 1) d_Mod_digit_12 (by decide)) rfl ?_
      refine EvF.gop 17 (go_goto 17 d_Mod_digit_13 (by decide)) rfl ?_
      exact EvF.rz d_Mod_digit_17 rfl (by decide) (by simp [bI, cDig, *]) (rfl)
/-- hasWidth -/
theorem e_PS_hasWidth (G : gG) (M : gM) (c : Int32) : Ev G 1 m_PS_hasWidth [.int c] M (some (.int (bI (cWid c)))) M := by
  refine Ev.of (Nat.le_of_ble_eq_true rfl) ?_
  show EvF G 1 m_PS_hasWidth (0, [(0, .int c)], [], M) _ _
  refine EvF.gop 1 (go_iload_n d_PS_hasWidth_0 rfl 0 rfl) rfl ?_
  refine EvF.gop 4 (go_callS [.int c] [.int (bI (cLet c))] c0_PS_isLetter sm_PS_isLetter lk_PS_205 d_PS_hasWidth_1 (e_PS_isLetter G M c) (by decide) rfl rfl (Nat.le_of_ble_eq_true rfl) rfl) rfl ?_
  by_cases c1 : (bI (cLet c)) = 0
  · have c1x : (cLet c) = false := bI_0.mp c1
    refine EvF.gop 7 (go_if_ne_f 13 d_PS_hasWidth_4 (by decide) (c1)) rfl ?_
    refine EvF.gop 8 (go_iload_n d_PS_hasWidth_7 rfl 0 rfl) rfl ?_
    refine EvF.gop 10 (go_bipush (v := 45) d_PS_hasWidth_8 (by decide)) rfl ?_
    by_cases c2 : c = 45
    · refine EvF.gop 13 (go_icmp_ne_f 17 d_PS_hasWidth_10 (by decide) (c2)) rfl ?_
      refine EvF.gop 14 (go_iconst (v := 1) d_PS_hasWidth_13 (by decide)) rfl ?_
      refine EvF.gop 18 (go_goto 18 d_PS_hasWidth_14 (by decide)) rfl ?_
      exact EvF.rz d_PS_hasWidth_18 rfl (by decide) (by simp [bI, cWid, *]) (rfl)
    · refine EvF.gop 17 (go_icmp_ne_t 17 d_PS_hasWidth_10 (by decide) (c2)) rfl ?_
      refine EvF.gop 18 (go_iconst (v := 0) d_PS_hasWidth_17 (by decide)) rfl ?_
      exact EvF.rz d_PS_hasWidth_18 rfl (by decide) (by simp [bI, cWid, *]) (rfl)
  · have c1x : (cLet c) = true := bI_n0.mp c1
    refine EvF.gop 13 (go_if_ne_t 13 d_PS_hasWidth_4 (by decide) (c1)) rfl ?_
    refine EvF.gop 14 (go_iconst (v := 1) d_PS_hasWidth_13 (by decide)) rfl ?_
    refine EvF.gop 18 (go_goto 18 d_PS_hasWidth_14 (by decide)) rfl ?_
    exact EvF.rz d_PS_hasWidth_18 rfl (by decide) (by simp [bI, cWid, *]) (rfl)
/-- isItem -/
theorem e_PS_isItem (G : gG) (M : gM) (c : Int32) : Ev G 2 m_PS_isItem [.int c] M (some (.int (bI (cItm c)))) M := by
  refine Ev.of (Nat.le_of_ble_eq_true rfl) ?_
  show EvF G 2 m_PS_isItem (0, [(0, .int c)], [], M) _ _
  refine EvF.gop 1 (go_iload_n d_PS_isItem_0 rfl 0 rfl) rfl ?_
  refine EvF.gop 4 (go_callS [.int c] [.int (bI (cWid c))] c0_PS_hasWidth sm_PS_hasWidth lk_PS_77 d_PS_isItem_1 (e_PS_hasWidth G M c) (by decide) rfl rfl (Nat.le_of_ble_eq_true rfl) rfl) rfl ?_
  by_cases c1 : (bI (cWid c)) = 0
  · have c1x : (cWid c) = false := bI_0.mp c1
    refine EvF.gop 7 (go_if_ne_f 20 d_PS_isItem_4 (by decide) (c1)) rfl ?_
    refine EvF.gop 8 (go_iload_n d_PS_isItem_7 rfl 0 rfl) rfl ?_
    refine EvF.gop 11 (go_callS [.int c] [.int (bI (cSpc c))] c0_PS_isSpace sm_PS_isSpace lk_PS_202 d_PS_isItem_8 (e_PS_isSpace G M c) (by decide) rfl rfl (Nat.le_of_ble_eq_true rfl) rfl) rfl ?_
    by_cases c2 : (bI (cSpc c)) = 0
    · have c2x : (cSpc c) = false := bI_0.mp c2
      refine EvF.gop 14 (go_if_ne_f 20 d_PS_isItem_11 (by decide) (c2)) rfl ?_
      refine EvF.gop 15 (go_iload_n d_PS_isItem_14 rfl 0 rfl) rfl ?_
      refine EvF.gop 17 (go_bipush (v := 124) d_PS_isItem_15 (by decide)) rfl ?_
      by_cases c3 : c = 124
      · refine EvF.gop 20 (go_icmp_ne_f 24 d_PS_isItem_17 (by decide) (c3)) rfl ?_
        refine EvF.gop 21 (go_iconst (v := 1) d_PS_isItem_20 (by decide)) rfl ?_
        refine EvF.gop 25 (go_goto 25 d_PS_isItem_21 (by decide)) rfl ?_
        exact EvF.rz d_PS_isItem_25 rfl (by decide) (by simp [bI, cItm, *]) (rfl)
      · refine EvF.gop 24 (go_icmp_ne_t 24 d_PS_isItem_17 (by decide) (c3)) rfl ?_
        refine EvF.gop 25 (go_iconst (v := 0) d_PS_isItem_24 (by decide)) rfl ?_
        exact EvF.rz d_PS_isItem_25 rfl (by decide) (by simp [bI, cItm, *]) (rfl)
    · have c2x : (cSpc c) = true := bI_n0.mp c2
      refine EvF.gop 20 (go_if_ne_t 20 d_PS_isItem_11 (by decide) (c2)) rfl ?_
      refine EvF.gop 21 (go_iconst (v := 1) d_PS_isItem_20 (by decide)) rfl ?_
      refine EvF.gop 25 (go_goto 25 d_PS_isItem_21 (by decide)) rfl ?_
      exact EvF.rz d_PS_isItem_25 rfl (by decide) (by simp [bI, cItm, *]) (rfl)
  · have c1x : (cWid c) = true := bI_n0.mp c1
    refine EvF.gop 20 (go_if_ne_t 20 d_PS_isItem_4 (by decide) (c1)) rfl ?_
    refine EvF.gop 21 (go_iconst (v := 1) d_PS_isItem_20 (by decide)) rfl ?_
    refine EvF.gop 25 (go_goto 25 d_PS_isItem_21 (by decide)) rfl ?_
    exact EvF.rz d_PS_isItem_25 rfl (by decide) (by simp [bI, cItm, *]) (rfl)
/-- isOfLine -/
theorem e_PS_isOfLine (G : gG) (M : gM) (c : Int32) : Ev G 3 m_PS_isOfLine [.int c] M (some (.int (bI (cLin c)))) M := by
  refine Ev.of (Nat.le_of_ble_eq_true rfl) ?_
  show EvF G 3 m_PS_isOfLine (0, [(0, .int c)], [], M) _ _
  refine EvF.gop 1 (go_iload_n d_PS_isOfLine_0 rfl 0 rfl) rfl ?_
  refine EvF.gop 4 (go_callS [.int c] [.int (bI (cItm c))] c0_PS_isItem sm_PS_isItem lk_PS_193 d_PS_isOfLine_1 (e_PS_isItem G M c) (by decide) rfl rfl (Nat.le_of_ble_eq_true rfl) rfl) rfl ?_
  by_cases c1 : (bI (cItm c)) = 0
  · have c1x : (cItm c) = false := bI_0.mp c1
    refine EvF.gop 7 (go_if_ne_f 51 d_PS_isOfLine_4 (by decide) (c1)) rfl ?_
    refine EvF.gop 8 (go_iload_n d_PS_isOfLine_7 rfl 0 rfl) rfl ?_
    refine EvF.gop 11 (go_callS [.int c] [.int (bI (cMac c))] c0_PS_isMacroName sm_PS_isMacroName lk_PS_196 d_PS_isOfLine_8 (e_PS_isMacroName G M c) (by decide) rfl rfl (Nat.le_of_ble_eq_true rfl) rfl) rfl ?_
    by_cases c2 : (bI (cMac c)) = 0
    · have c2x : (cMac c) = false := bI_0.mp c2
      refine EvF.gop 14 (go_if_ne_f 51 d_PS_isOfLine_11 (by decide) (c2)) rfl ?_
      refine EvF.gop 15 (go_iload_n d_PS_isOfLine_14 rfl 0 rfl) rfl ?_
      refine EvF.gop 18 (go_callS [.int c] [.int (bI (cDig c))] c0_PS_isDigit sm_PS_isDigit lk_PS_199 d_PS_isOfLine_15 (e_PS_isDigit G M c) (by decide) rfl rfl (Nat.le_of_ble_eq_true rfl) rfl) rfl ?_
      by_cases c3 : (bI (cDig c)) = 0
      · have c3x : (cDig c) = false := bI_0.mp c3
        refine EvF.gop 21 (go_if_ne_f 51 d_PS_isOfLine_18 (by decide) (c3)) rfl ?_
        refine EvF.gop 22 (go_iload_n d_PS_isOfLine_21 rfl 0 rfl) rfl ?_
        refine EvF.gop 24 (go_bipush (v := 123) d_PS_isOfLine_22 (by decide)) rfl ?_
        by_cases c4 : c = 123
        · refine EvF.gop 51 (go_icmp_eq_t 51 d_PS_isOfLine_24 (by decide) (c4)) rfl ?_
          refine EvF.gop 52 (go_iconst (v := 1) d_PS_isOfLine_51 (by decide)) rfl ?_
          refine EvF.gop 56 (go_goto 56 d_PS_isOfLine_52 (by decide)) rfl ?_
          exact EvF.rz d_PS_isOfLine_56 rfl (by decide) (by simp [bI, cLin, *]) (rfl)
        · refine EvF.gop 27 (go_icmp_eq_f 51 d_PS_isOfLine_24 (by decide) (c4)) rfl ?_
          refine EvF.gop 28 (go_iload_n d_PS_isOfLine_27 rfl 0 rfl) rfl ?_
          refine EvF.gop 30 (go_bipush (v := 125) d_PS_isOfLine_28 (by decide)) rfl ?_
          by_cases c5 : c = 125
          · refine EvF.gop 51 (go_icmp_eq_t 51 d_PS_isOfLine_30 (by decide) (c5)) rfl ?_
            refine EvF.gop 52 (go_iconst (v := 1) d_PS_isOfLine_51 (by decide)) rfl ?_
            refine EvF.gop 56 (go_goto 56 d_PS_isOfLine_52 (by decide)) rfl ?_
            exact EvF.rz d_PS_isOfLine_56 rfl (by decide) (by simp [bI, cLin, *]) (rfl)
          · refine EvF.gop 33 (go_icmp_eq_f 51 d_PS_isOfLine_30 (by decide) (c5)) rfl ?_
            refine EvF.gop 34 (go_iload_n d_PS_isOfLine_33 rfl 0 rfl) rfl ?_
            refine EvF.gop 36 (go_bipush (v := 35) d_PS_isOfLine_34 (by decide)) rfl ?_
            by_cases c6 : c = 35
            · refine EvF.gop 51 (go_icmp_eq_t 51 d_PS_isOfLine_36 (by decide) (c6)) rfl ?_
              refine EvF.gop 52 (go_iconst (v := 1) d_PS_isOfLine_51 (by decide)) rfl ?_
              refine EvF.gop 56 (go_goto 56 d_PS_isOfLine_52 (by decide)) rfl ?_
              exact EvF.rz d_PS_isOfLine_56 rfl (by decide) (by simp [bI, cLin, *]) (rfl)
            · refine EvF.gop 39 (go_icmp_eq_f 51 d_PS_isOfLine_36 (by decide) (c6)) rfl ?_
              refine EvF.gop 40 (go_iload_n d_PS_isOfLine_39 rfl 0 rfl) rfl ?_
              refine EvF.gop 42 (go_bipush (v := 61) d_PS_isOfLine_40 (by decide)) rfl ?_
              by_cases c7 : c = 61
              · refine EvF.gop 51 (go_icmp_eq_t 51 d_PS_isOfLine_42 (by decide) (c7)) rfl ?_
                refine EvF.gop 52 (go_iconst (v := 1) d_PS_isOfLine_51 (by decide)) rfl ?_
                refine EvF.gop 56 (go_goto 56 d_PS_isOfLine_52 (by decide)) rfl ?_
                exact EvF.rz d_PS_isOfLine_56 rfl (by decide) (by simp [bI, cLin, *]) (rfl)
              · refine EvF.gop 45 (go_icmp_eq_f 51 d_PS_isOfLine_42 (by decide) (c7)) rfl ?_
                refine EvF.gop 46 (go_iload_n d_PS_isOfLine_45 rfl 0 rfl) rfl ?_
                refine EvF.gop 48 (go_bipush (v := 46) d_PS_isOfLine_46 (by decide)) rfl ?_
                by_cases c8 : c = 46
                · refine EvF.gop 51 (go_icmp_ne_f 55 d_PS_isOfLine_48 (by decide) (c8)) rfl ?_
                  refine EvF.gop 52 (go_iconst (v := 1) d_PS_isOfLine_51 (by decide)) rfl ?_
                  refine EvF.gop 56 (go_goto 56 d_PS_isOfLine_52 (by decide)) rfl ?_
                  exact EvF.rz d_PS_isOfLine_56 rfl (by decide) (by simp [bI, cLin, *]) (rfl)
                · refine EvF.gop 55 (go_icmp_ne_t 55 d_PS_isOfLine_48 (by decide) (c8)) rfl ?_
                  refine EvF.gop 56 (go_iconst (v := 0) d_PS_isOfLine_55 (by decide)) rfl ?_
                  exact EvF.rz d_PS_isOfLine_56 rfl (by decide) (by simp [bI, cLin, *]) (rfl)
      · have c3x : (cDig c) = true := bI_n0.mp c3
        refine EvF.gop 51 (go_if_ne_t 51 d_PS_isOfLine_18 (by decide) (c3)) rfl ?_
        refine EvF.gop 52 (go_iconst (v := 1) d_PS_isOfLine_51 (by decide)) rfl ?_
        refine EvF.gop 56 (go_goto 56 d_PS_isOfLine_52 (by decide)) rfl ?_
        exact EvF.rz d_PS_isOfLine_56 rfl (by decide) (by simp [bI, cLin, *]) (rfl)
    · have c2x : (cMac c) = true := bI_n0.mp c2
      refine EvF.gop 51 (go_if_ne_t 51 d_PS_isOfLine_11 (by decide) (c2)) rfl ?_
      refine EvF.gop 52 (go_iconst (v := 1) d_PS_isOfLine_51 (by decide)) rfl ?_
      refine EvF.gop 56 (go_goto 56 d_PS_isOfLine_52 (by decide)) rfl ?_
      exact EvF.rz d_PS_isOfLine_56 rfl (by decide) (by simp [bI, cLin, *]) (rfl)
  · have c1x : (cItm c) = true := bI_n0.mp c1
    refine EvF.gop 51 (go_if_ne_t 51 d_PS_isOfLine_4 (by decide) (c1)) rfl ?_
    refine EvF.gop 52 (go_iconst (v := 1) d_PS_isOfLine_51 (by decide)) rfl ?_
    refine EvF.gop 56 (go_goto 56 d_PS_isOfLine_52 (by decide)) rfl ?_
    exact EvF.rz d_PS_isOfLine_56 rfl (by decide) (by simp [bI, cLin, *]) (rfl)
def wIx (c : Int32) : Int32 := if cLet c = true then c - 97 else 26
/-- widthIndex -/
theorem e_PS_widthIndex (G : gG) (M : gM) (c : Int32) : Ev G 1 m_PS_widthIndex [.int c] M (some (.int (wIx c))) M := by
  refine Ev.of (Nat.le_of_ble_eq_true rfl) ?_
  show EvF G 1 m_PS_widthIndex (0, [(0, .int c)], [], M) _ _
  refine EvF.gop 1 (go_iload_n d_PS_widthIndex_0 rfl 0 rfl) rfl ?_
  refine EvF.gop 4 (go_callS [.int c] [.int (bI (cLet c))] c0_PS_isLetter sm_PS_isLetter lk_PS_205 d_PS_widthIndex_1 (e_PS_isLetter G M c) (by decide) rfl rfl (Nat.le_of_ble_eq_true rfl) rfl) rfl ?_
  by_cases c1 : (bI (cLet c)) = 0
  · have c1x : (cLet c) = false := bI_0.mp c1
    refine EvF.gop 14 (go_if_eq_t 14 d_PS_widthIndex_4 (by decide) (c1)) rfl ?_
    refine EvF.gop 16 (go_bipush (v := 26) d_PS_widthIndex_14 (by decide)) rfl ?_
    exact EvF.ri d_PS_widthIndex_16 rfl (by simp [bI, wIx, *]) (rfl)
  · have c1x : (cLet c) = true := bI_n0.mp c1
    refine EvF.gop 7 (go_if_eq_f 14 d_PS_widthIndex_4 (by decide) (c1)) rfl ?_
    refine EvF.gop 8 (go_iload_n d_PS_widthIndex_7 rfl 0 rfl) rfl ?_
    refine EvF.gop 10 (go_bipush (v := 97) d_PS_widthIndex_8 (by decide)) rfl ?_
    refine EvF.gop 11 (go_isub d_PS_widthIndex_10) rfl ?_
    refine EvF.gop 16 (go_goto 16 d_PS_widthIndex_11 (by decide)) rfl ?_
    exact EvF.ri d_PS_widthIndex_16 rfl (by simp [bI, wIx, *]) (rfl)
end
section
/-- Row.isFull -/
theorem e_Row_isFull (G : gG) (M : gM) (a ar n sz : Nat) (f : Nat → Int32) (h1 : gRd M a = some (.inr (0, [.ref ar, .int (nI sz)]))) (h2 : gRd M ar = some (aI G n f)) (hsz : sz ≤ n) (hn : n < 2 ^ 31) : Ev G 0 m_Row_isFull [.ref a] M (some (.int (bI (decide (sz = n))))) M := by
  have q1 : nI sz = nI n ↔ sz = n := nI_eq (by omega) hn
  refine Ev.of (Nat.le_of_ble_eq_true rfl) ?_
  show EvF G 0 m_Row_isFull (0, [(0, .ref a)], [], M) _ _
  refine EvF.gop 1 (go_aload_n d_Row_isFull_0 rfl 0 rfl) rfl ?_
  refine EvF.gop 4 (go_get f_Row_13 d_Row_isFull_1 (h1) rfl) rfl ?_
  refine EvF.gop 5 (go_aload_n d_Row_isFull_4 rfl 0 rfl) rfl ?_
  refine EvF.gop 8 (go_get f_Row_7 d_Row_isFull_5 (h1) rfl) rfl ?_
  refine EvF.gop 9 (go_alenI d_Row_isFull_8 (h2)) rfl ?_
  by_cases c1 : (nI sz) = (nI n)
  · have c1x : sz = n := (nI_eq (a := sz) (b := n) (by omega) (by omega)).mp c1
    refine EvF.gop 12 (go_icmp_ne_f 16 d_Row_isFull_9 (by decide) (c1)) rfl ?_
    refine EvF.gop 13 (go_iconst (v := 1) d_Row_isFull_12 (by decide)) rfl ?_
    refine EvF.gop 17 (go_goto 17 d_Row_isFull_13 (by decide)) rfl ?_
    exact EvF.rz d_Row_isFull_17 rfl (by decide) (by simp_all [bI]) (rfl)
  · have c1x : ¬ sz = n := fun q9 => c1 ((nI_eq (a := sz) (b := n) (by omega) (by omega)).mpr q9)
    refine EvF.gop 16 (go_icmp_ne_t 16 d_Row_isFull_9 (by decide) (c1)) rfl ?_
    refine EvF.gop 17 (go_iconst (v := 0) d_Row_isFull_16 (by decide)) rfl ?_
    exact EvF.rz d_Row_isFull_17 rfl (by decide) (by simp_all [bI]) (rfl)
/-- Row.clear -/
theorem e_Row_clear (G : gG) (M : gM) (a ar : Nat) (x : Int32) (h1 : gRd M a = some (.inr (0, [.ref ar, .int x]))) : Ev G 0 m_Row_clear [.ref a] M none (gWr M a (.inr (0, [.ref ar, .int (nI 0)]))) := by
  refine Ev.of (Nat.le_of_ble_eq_true rfl) ?_
  show EvF G 0 m_Row_clear (0, [(0, .ref a)], [], M) _ _
  refine EvF.gop 1 (go_aload_n d_Row_clear_0 rfl 0 rfl) rfl ?_
  refine EvF.gop 2 (go_iconst (v := nI 0) d_Row_clear_1 (rfl)) rfl ?_
  refine EvF.gop 5 (go_put [.ref ar, .int (nI 0)] f_Row_13 ft_Row_1 d_Row_clear_2 (h1) (rfl) (rfl) (Nat.le_of_ble_eq_true rfl) rfl) rfl ?_
  exact EvF.rv d_Row_clear_5 rfl (rfl)
/-- Row.add where there is room -/
theorem e_Row_add (G : gG) (M : gM) (a ar n sz : Nat) (f : Nat → Int32) (c : Int32) (h1 : gRd M a = some (.inr (0, [.ref ar, .int (nI sz)]))) (h2 : gRd M ar = some (aI G n f)) (hsz : sz < n) (hn : n < 2 ^ 31) : Ev G 0 m_Row_add [.ref a, .int c] M none (gWr (gWr M ar (aI G n (upd f sz c))) a (.inr (0, [.ref ar, .int (nI (sz + 1))]))) := by
  refine Ev.of (Nat.le_of_ble_eq_true rfl) ?_
  show EvF G 0 m_Row_add (0, [(0, .ref a), (1, .int c)], [], M) _ _
  refine EvF.gop 1 (go_aload_n d_Row_add_0 rfl 0 rfl) rfl ?_
  refine EvF.gop 4 (go_get f_Row_13 d_Row_add_1 (h1) rfl) rfl ?_
  refine EvF.gop 5 (go_aload_n d_Row_add_4 rfl 0 rfl) rfl ?_
  refine EvF.gop 8 (go_get f_Row_7 d_Row_add_5 (h1) rfl) rfl ?_
  refine EvF.gop 9 (go_alenI d_Row_add_8 (h2)) rfl ?_
  refine EvF.gop 12 (go_icmp_ge_f 32 d_Row_add_9 (by decide) (nI_ge hsz hn)) rfl ?_
  refine EvF.gop 13 (go_aload_n d_Row_add_12 rfl 0 rfl) rfl ?_
  refine EvF.gop 16 (go_get f_Row_7 d_Row_add_13 (h1) rfl) rfl ?_
  refine EvF.gop 17 (go_aload_n d_Row_add_16 rfl 0 rfl) rfl ?_
  refine EvF.gop 20 (go_get f_Row_13 d_Row_add_17 (h1) rfl) rfl ?_
  refine EvF.gop 21 (go_iload_n d_Row_add_20 rfl 1 rfl) rfl ?_
  refine EvF.gop 22 (go_iast (j := sz) d_Row_add_21 (h2) (rfl) (hsz) (by omega)) rfl ?_
  refine EvF.gop 23 (go_aload_n d_Row_add_22 rfl 0 rfl) rfl ?_
  refine EvF.gop 24 (go_dup d_Row_add_23 rfl) rfl ?_
  refine EvF.gop 27 (go_get f_Row_13 d_Row_add_24 ((gRd_n _ _ (gNe h1 h2)).trans (h1)) rfl) rfl ?_
  refine EvF.gop 28 (go_iconst (v := 1) d_Row_add_27 (by decide)) rfl ?_
  refine EvF.gop 29 (go_iadd d_Row_add_28) rfl ?_
  refine EvF.go (go_v (y := nI (sz + 1)) (nI_1 sz)) ?_
  refine EvF.gop 32 (go_put [.ref ar, .int (nI (sz + 1))] f_Row_13 ft_Row_1 d_Row_add_29 ((gRd_n _ _ (gNe h1 h2)).trans (h1)) (rfl) (rfl) (Nat.le_of_ble_eq_true rfl) rfl) rfl ?_
  exact EvF.rv d_Row_add_32 rfl (rfl)
def cpI (g : Nat → Int32) (m : Nat) (f : Nat → Int32) : Nat → Int32 := fun j => if j < m then g j else f j
theorem cpI_s (g : Nat → Int32) (m : Nat) (f : Nat → Int32) : upd (cpI g m f) m (g m) = cpI g (m + 1) f := by
  funext j
  by_cases h : j = m
  · subst h; simp [upd, cpI]
  · by_cases h2 : j < m
    · simp [upd, cpI, h, h2, Nat.lt_succ_of_lt h2]
    · have h3 : ¬ j < m + 1 := by omega
      simp [upd, cpI, h, h2, h3]
theorem cpI_0 (g f : Nat → Int32) : cpI g 0 f = f := by funext j; simp [cpI]
theorem g_Row_become (G : gG) (M : gM) (a ar n b br nb m : Nat) (x : Int32) (f g : Nat → Int32) (h1 : gRd M a = some (.inr (0, [.ref ar, .int x]))) (h2 : gRd M ar = some (aI G n f)) (h3 : gRd M b = some (.inr (0, [.ref br, .int (nI m)]))) (h4 : gRd M br = some (aI G nb g)) (hab : a ≠ b) (habr : ar ≠ br) (hm : m ≤ n) (hmb : m ≤ nb) (hn : n < 2 ^ 31) (hnb : nb < 2 ^ 31) : ∀ r k : Nat, k + r = m → Go G m_Row_become 1 (6, [(0, .ref a), (1, .ref b), (2, .int (nI k))], [], (gWr (gWr M a (.inr (0, [.ref ar, .int (nI k)]))) ar (aI G n (cpI g k f)))) (30, [(0, .ref a), (1, .ref b), (2, .int (nI m))], [], (gWr (gWr M a (.inr (0, [.ref ar, .int (nI m)]))) ar (aI G n (cpI g m f)))) := by
  intro r
  induction r with
  | zero =>
    intro k hk
    have hk : k = m := by omega
    subst hk
    refine Go.trp 7 (go_iload_n d_Row_become_6 rfl 2 rfl) rfl ?_
    refine Go.trp 8 (go_aload_n d_Row_become_7 rfl 1 rfl) rfl ?_
    refine Go.trp 11 (go_get f_Row_13 d_Row_become_8 ((gRd_n _ _ (gNe h3 h2)).trans ((gRd_n _ _ (Ne.symm hab)).trans (h3))) rfl) rfl ?_
    refine Go.trp 30 (go_icmp_ge_t 30 d_Row_become_11 (by decide) (nI_le (Nat.le_refl k) (by omega))) rfl ?_
    exact Go.rf
  | succ r ih =>
    intro k hk
    refine Go.trp 7 (go_iload_n d_Row_become_6 rfl 2 rfl) rfl ?_
    refine Go.trp 8 (go_aload_n d_Row_become_7 rfl 1 rfl) rfl ?_
    refine Go.trp 11 (go_get f_Row_13 d_Row_become_8 ((gRd_n _ _ (gNe h3 h2)).trans ((gRd_n _ _ (Ne.symm hab)).trans (h3))) rfl) rfl ?_
    refine Go.trp 14 (go_icmp_ge_f 30 d_Row_become_11 (by decide) (nI_ge (by omega) (by omega))) rfl ?_
    refine Go.trp 15 (go_aload_n d_Row_become_14 rfl 0 rfl) rfl ?_
    refine Go.trp 16 (go_aload_n d_Row_become_15 rfl 1 rfl) rfl ?_
    refine Go.trp 19 (go_get f_Row_7 d_Row_become_16 ((gRd_n _ _ (gNe h3 h2)).trans ((gRd_n _ _ (Ne.symm hab)).trans (h3))) rfl) rfl ?_
    refine Go.trp 20 (go_iload_n d_Row_become_19 rfl 2 rfl) rfl ?_
    refine Go.trp 21 (go_iald (j := k) d_Row_become_20 ((gRd_n _ _ (Ne.symm habr)).trans ((gRd_n _ _ (Ne.symm (gNe h1 h4))).trans (h4))) (rfl) (by omega) (by omega)) rfl ?_
    refine Go.trp 24 (go_callV [.int (g k)] [] c0_Row_add im_Row_add se_Row_add lk_Row_20 d_Row_become_21 rfl rfl ((gRd_n _ _ (gNe h1 h2)).trans (gRd_s _ _ _)) (e_Row_add G _ a ar n k (cpI g k f) (g k) (((gRd_n _ _ (gNe h1 h2)).trans (gRd_s _ _ _))) ((gRd_s _ _ _)) (by omega) hn) (by decide) rfl rfl (Nat.le_of_ble_eq_true rfl) rfl) rfl ?_
    refine (go_m (M' := (gWr (gWr M a (.inr (0, [.ref ar, .int (nI (k + 1))]))) ar (aI G n (upd (cpI g k f) k (g k))))) ((congrArg (fun m => gWr m a (.inr (0, [.ref ar, .int (nI (k + 1))]))) (gWr_wr (gWr M a (.inr (0, [.ref ar, .int (nI k)]))) ar (aI G n (cpI g k f)) (aI G n (upd (cpI g k f) k (g k))))).trans ((gWr_cm (gWr M a (.inr (0, [.ref ar, .int (nI k)]))) (aI G n (upd (cpI g k f) k (g k))) (.inr (0, [.ref ar, .int (nI (k + 1))])) (Ne.symm (gNe h1 h2))).trans (congrArg (fun m => gWr m ar (aI G n (upd (cpI g k f) k (g k)))) (gWr_wr M a (.inr (0, [.ref ar, .int (nI k)])) (.inr (0, [.ref ar, .int (nI (k + 1))]))))))).tr ?_
    refine Go.trp 27 (go_inc1 (n0 := 2) (x := k) [(2, .int (nI (k + 1))), (0, .ref a), (1, .ref b)] d_Row_become_24 rfl (by decide) rfl) rfl ?_
    refine (go_pick [1, 2, 0] [(0, .ref a), (1, .ref b), (2, .int (nI (k + 1)))] rfl).tr ?_
    refine Go.trp 6 (go_goto 6 d_Row_become_27 (by decide)) rfl ?_
    rw [cpI_s]
    exact ih (k + 1) (by omega)
theorem e_Row_become (G : gG) (M : gM) (a ar n b br nb m : Nat) (x : Int32) (f g : Nat → Int32) (h1 : gRd M a = some (.inr (0, [.ref ar, .int x]))) (h2 : gRd M ar = some (aI G n f)) (h3 : gRd M b = some (.inr (0, [.ref br, .int (nI m)]))) (h4 : gRd M br = some (aI G nb g)) (hab : a ≠ b) (habr : ar ≠ br) (hm : m ≤ n) (hmb : m ≤ nb) (hn : n < 2 ^ 31) (hnb : nb < 2 ^ 31) : Ev G 1 m_Row_become [.ref a, .ref b] M none (gWr (gWr M a (.inr (0, [.ref ar, .int (nI m)]))) ar (aI G n (cpI g m f))) := by
  refine Ev.of (Nat.le_of_ble_eq_true rfl) ?_
  show EvF G 1 m_Row_become (0, [(0, .ref a), (1, .ref b)], [], M) _ _
  refine EvF.gop 1 (go_aload_n d_Row_become_0 rfl 0 rfl) rfl ?_
  refine EvF.gop 4 (go_callV [] [] c0_Row_clear im_Row_clear se_Row_clear lk_Row_17 d_Row_become_1 rfl rfl (h1) (e_Row_clear G M a ar x h1) (by decide) rfl rfl (Nat.le_of_ble_eq_true rfl) rfl) rfl ?_
  refine EvF.go (go_m (M' := (gWr (gWr M a (.inr (0, [.ref ar, .int (nI 0)]))) ar (aI G n f))) (gWr_id ((gRd_n _ _ (Ne.symm (gNe h1 h2))).trans (h2))).symm) ?_
  refine EvF.gop 5 (go_iconst (v := nI 0) d_Row_become_4 (rfl)) rfl ?_
  refine EvF.gop 6 (go_istore_n [(2, .int (nI 0)), (0, .ref a), (1, .ref b)] d_Row_become_5 rfl (by decide) rfl) rfl ?_
  refine EvF.go (go_pick [1, 2, 0] [(0, .ref a), (1, .ref b), (2, .int (nI 0))] rfl) ?_
  rw [← cpI_0 g f]
  refine EvF.go (g_Row_become G M a ar n b br nb m x f g h1 h2 h3 h4 hab habr hm hmb hn hnb m 0 (by omega)) ?_
  exact EvF.rv d_Row_become_30 rfl rfl
def cntI (f : Nat → Int32) (c : Int32) : Nat → Nat
  | 0 => 0
  | k + 1 => cntI f c k + (if f k = c then 1 else 0)
theorem cntI_le (f : Nat → Int32) (c : Int32) : ∀ k, cntI f c k ≤ k
  | 0 => Nat.le_refl 0
  | k + 1 => by
    have := cntI_le f c k
    show cntI f c k + _ ≤ k + 1
    split <;> omega
theorem g_Row_howMany (G : gG) (M : gM) (a ar n sz : Nat) (f : Nat → Int32) (c : Int32) (h1 : gRd M a = some (.inr (0, [.ref ar, .int (nI sz)]))) (h2 : gRd M ar = some (aI G n f)) (hsz : sz ≤ n) (hn : n < 2 ^ 31) : ∀ r k : Nat, k + r = sz → Go G m_Row_howMany 0 (4, [(0, .ref a), (1, .int c), (2, .int (nI (cntI f c k))), (3, .int (nI k))], [], M) (31, [(0, .ref a), (1, .int c), (2, .int (nI (cntI f c sz))), (3, .int (nI sz))], [], M) := by
  intro r
  induction r with
  | zero =>
    intro k hk
    have hk : k = sz := by omega
    subst hk
    refine Go.trp 5 (go_iload_n d_Row_howMany_4 rfl 3 rfl) rfl ?_
    refine Go.trp 6 (go_aload_n d_Row_howMany_5 rfl 0 rfl) rfl ?_
    refine Go.trp 9 (go_get f_Row_13 d_Row_howMany_6 (h1) rfl) rfl ?_
    refine Go.trp 31 (go_icmp_ge_t 31 d_Row_howMany_9 (by decide) (nI_le (Nat.le_refl k) (by omega))) rfl ?_
    exact Go.rf
  | succ r ih =>
    intro k hk
    refine Go.trp 5 (go_iload_n d_Row_howMany_4 rfl 3 rfl) rfl ?_
    refine Go.trp 6 (go_aload_n d_Row_howMany_5 rfl 0 rfl) rfl ?_
    refine Go.trp 9 (go_get f_Row_13 d_Row_howMany_6 (h1) rfl) rfl ?_
    refine Go.trp 12 (go_icmp_ge_f 31 d_Row_howMany_9 (by decide) (nI_ge (by omega) (by omega))) rfl ?_
    refine Go.trp 13 (go_aload_n d_Row_howMany_12 rfl 0 rfl) rfl ?_
    refine Go.trp 16 (go_get f_Row_7 d_Row_howMany_13 (h1) rfl) rfl ?_
    refine Go.trp 17 (go_iload_n d_Row_howMany_16 rfl 3 rfl) rfl ?_
    refine Go.trp 18 (go_iald (j := k) d_Row_howMany_17 (h2) (rfl) (by omega) (by omega)) rfl ?_
    refine Go.trp 19 (go_iload_n d_Row_howMany_18 rfl 1 rfl) rfl ?_
    by_cases hc : f k = c
    · refine Go.trp 22 (go_icmp_ne_f 25 d_Row_howMany_19 (by decide) (hc)) rfl ?_
      refine Go.trp 25 (go_inc1 (n0 := 2) (x := (cntI f c k)) [(2, .int (nI ((cntI f c k) + 1))), (0, .ref a), (1, .int c), (3, .int (nI k))] d_Row_howMany_22 rfl (by decide) rfl) rfl ?_
      refine (go_pick [1, 2, 0, 3] [(0, .ref a), (1, .int c), (2, .int (nI ((cntI f c k) + 1))), (3, .int (nI k))] rfl).tr ?_
      refine Go.trp 28 (go_inc1 (n0 := 3) (x := k) [(3, .int (nI (k + 1))), (0, .ref a), (1, .int c), (2, .int (nI ((cntI f c k) + 1)))] d_Row_howMany_25 rfl (by decide) rfl) rfl ?_
      refine (go_pick [1, 2, 3, 0] [(0, .ref a), (1, .int c), (2, .int (nI ((cntI f c k) + 1))), (3, .int (nI (k + 1)))] rfl).tr ?_
      refine Go.trp 4 (go_goto 4 d_Row_howMany_28 (by decide)) rfl ?_
      have e1 : cntI f c (k + 1) = cntI f c k + 1 := by simp [cntI, hc]
      rw [← e1]
      exact ih (k + 1) (by omega)
    · refine Go.trp 25 (go_icmp_ne_t 25 d_Row_howMany_19 (by decide) (hc)) rfl ?_
      refine Go.trp 28 (go_inc1 (n0 := 3) (x := k) [(3, .int (nI (k + 1))), (0, .ref a), (1, .int c), (2, .int (nI (cntI f c k)))] d_Row_howMany_25 rfl (by decide) rfl) rfl ?_
      refine (go_pick [1, 2, 3, 0] [(0, .ref a), (1, .int c), (2, .int (nI (cntI f c k))), (3, .int (nI (k + 1)))] rfl).tr ?_
      refine Go.trp 4 (go_goto 4 d_Row_howMany_28 (by decide)) rfl ?_
      have e1 : cntI f c (k + 1) = cntI f c k := by simp [cntI, hc]
      rw [← e1]
      exact ih (k + 1) (by omega)
theorem e_Row_howMany (G : gG) (M : gM) (a ar n sz : Nat) (f : Nat → Int32) (c : Int32) (h1 : gRd M a = some (.inr (0, [.ref ar, .int (nI sz)]))) (h2 : gRd M ar = some (aI G n f)) (hsz : sz ≤ n) (hn : n < 2 ^ 31) : Ev G 0 m_Row_howMany [.ref a, .int c] M (some (.int (nI (cntI f c sz)))) M := by
  refine Ev.of (Nat.le_of_ble_eq_true rfl) ?_
  show EvF G 0 m_Row_howMany (0, [(0, .ref a), (1, .int c)], [], M) _ _
  refine EvF.gop 1 (go_iconst (v := nI (cntI f c 0)) d_Row_howMany_0 (rfl)) rfl ?_
  refine EvF.gop 2 (go_istore_n [(2, .int (nI (cntI f c 0))), (0, .ref a), (1, .int c)] d_Row_howMany_1 rfl (by decide) rfl) rfl ?_
  refine EvF.go (go_pick [1, 2, 0] [(0, .ref a), (1, .int c), (2, .int (nI (cntI f c 0)))] rfl) ?_
  refine EvF.gop 3 (go_iconst (v := nI 0) d_Row_howMany_2 (rfl)) rfl ?_
  refine EvF.gop 4 (go_istore_n [(3, .int (nI 0)), (0, .ref a), (1, .int c), (2, .int (nI (cntI f c 0)))] d_Row_howMany_3 rfl (by decide) rfl) rfl ?_
  refine EvF.go (go_pick [1, 2, 3, 0] [(0, .ref a), (1, .int c), (2, .int (nI (cntI f c 0))), (3, .int (nI 0))] rfl) ?_
  refine EvF.go (g_Row_howMany G M a ar n sz f c h1 h2 hsz hn sz 0 (by omega)) ?_
  refine EvF.gop 32 (go_iload_n d_Row_howMany_31 rfl 2 rfl) rfl ?_
  exact EvF.ri d_Row_howMany_32 rfl rfl rfl
theorem e_Mac_become (G : gG) (M : gM) (q : Nat) (z : Int32) (a ar n b br nb m : Nat) (x : Int32) (f g : Nat → Int32) (h0 : gRd M q = some (.inr (1, [.ref a, .int z]))) (h1 : gRd M a = some (.inr (0, [.ref ar, .int x]))) (h2 : gRd M ar = some (aI G n f)) (h3 : gRd M b = some (.inr (0, [.ref br, .int (nI m)]))) (h4 : gRd M br = some (aI G nb g)) (hab : a ≠ b) (habr : ar ≠ br) (hm : m ≤ n) (hmb : m ≤ nb) (hn : n < 2 ^ 31) (hnb : nb < 2 ^ 31) (hqa : q ≠ a) (hqb : q ≠ b) : Ev G 2 m_Mac_become [.ref q, .ref b] M none (gWr (gWr (gWr M a (.inr (0, [.ref ar, .int (nI m)]))) ar (aI G n (cpI g m f))) q (.inr (1, [.ref a, .int 1]))) := by
  refine Ev.of (Nat.le_of_ble_eq_true rfl) ?_
  show EvF G 2 m_Mac_become (0, [(0, .ref q), (1, .ref b)], [], M) _ _
  refine EvF.gop 1 (go_aload_n d_Mac_become_0 rfl 0 rfl) rfl ?_
  refine EvF.gop 4 (go_get f_Mac_14 d_Mac_become_1 (h0) rfl) rfl ?_
  refine EvF.gop 5 (go_aload_n d_Mac_become_4 rfl 1 rfl) rfl ?_
  refine EvF.gop 8 (go_callV [.ref b] [] c0_Row_become im_Row_become se_Row_become lk_Mac_24 d_Mac_become_5 rfl rfl (h1) (e_Row_become G M a ar n b br nb m x f g h1 h2 h3 h4 hab habr hm hmb hn hnb) (by decide) rfl rfl (Nat.le_of_ble_eq_true rfl) rfl) rfl ?_
  refine EvF.gop 9 (go_aload_n d_Mac_become_8 rfl 0 rfl) rfl ?_
  refine EvF.gop 10 (go_iconst (v := 1) d_Mac_become_9 (by decide)) rfl ?_
  refine EvF.gop 13 (go_put [.ref a, .int 1] f_Mac_20 ft_Mac_1 d_Mac_become_10 ((gRd_n _ _ (gNe h0 h2)).trans ((gRd_n _ _ hqa).trans (h0))) (rfl) (rfl) (Nat.le_of_ble_eq_true rfl) rfl) rfl ?_
  exact EvF.rv d_Mac_become_13 rfl rfl
end
section
/-- Text.add with room -/
theorem e_Txt_add (G : gG) (M : gM) (t tc ts n : Nat) (c s : Nat → Int32) (x y : Int32) (h1 : gRd M t = some (.inr (3, [.ref tc, .ref ts, .int (nI n)]))) (h2 : gRd M tc = some (aI G 120 c)) (h3 : gRd M ts = some (aI G 120 s)) (hcs : tc ≠ ts) (hn : n ≤ 120) (hlt : n < 120) : Ev G 0 m_Txt_add [.ref t, .int x, .int y] M (some (.int (1))) (gWr (gWr (gWr M tc (aI G 120 (upd c n x))) ts (aI G 120 (upd s n y))) t (.inr (3, [.ref tc, .ref ts, .int (nI (n + 1))]))) := by
  refine Ev.of (Nat.le_of_ble_eq_true rfl) ?_
  show EvF G 0 m_Txt_add (0, [(0, .ref t), (1, .int x), (2, .int y)], [], M) _ _
  refine EvF.gop 1 (go_aload_n d_Txt_add_0 rfl 0 rfl) rfl ?_
  refine EvF.gop 4 (go_get f_Txt_18 d_Txt_add_1 (h1) rfl) rfl ?_
  refine EvF.gop 6 (go_bipush (v := 120) d_Txt_add_4 (by decide)) rfl ?_
  refine EvF.gop 11 (go_icmp_ne_t 11 d_Txt_add_6 (by decide) (fun q => absurd ((nI_eq (a := n) (b := 120) (by omega) (by decide)).mp q) (by omega))) rfl ?_
  refine EvF.gop 12 (go_aload_n d_Txt_add_11 rfl 0 rfl) rfl ?_
  refine EvF.gop 15 (go_get f_Txt_9 d_Txt_add_12 (h1) rfl) rfl ?_
  refine EvF.gop 16 (go_aload_n d_Txt_add_15 rfl 0 rfl) rfl ?_
  refine EvF.gop 19 (go_get f_Txt_18 d_Txt_add_16 (h1) rfl) rfl ?_
  refine EvF.gop 20 (go_iload_n d_Txt_add_19 rfl 1 rfl) rfl ?_
  refine EvF.gop 21 (go_iast (j := n) d_Txt_add_20 (h2) (rfl) (hlt) (by omega)) rfl ?_
  refine EvF.gop 22 (go_aload_n d_Txt_add_21 rfl 0 rfl) rfl ?_
  refine EvF.gop 25 (go_get f_Txt_15 d_Txt_add_22 ((gRd_n _ _ (gNe h1 h2)).trans (h1)) rfl) rfl ?_
  refine EvF.gop 26 (go_aload_n d_Txt_add_25 rfl 0 rfl) rfl ?_
  refine EvF.gop 29 (go_get f_Txt_18 d_Txt_add_26 ((gRd_n _ _ (gNe h1 h2)).trans (h1)) rfl) rfl ?_
  refine EvF.gop 30 (go_iload_n d_Txt_add_29 rfl 2 rfl) rfl ?_
  refine EvF.gop 31 (go_iast (j := n) d_Txt_add_30 ((gRd_n _ _ (Ne.symm hcs)).trans (h3)) (rfl) (hlt) (by omega)) rfl ?_
  refine EvF.gop 32 (go_aload_n d_Txt_add_31 rfl 0 rfl) rfl ?_
  refine EvF.gop 33 (go_dup d_Txt_add_32 rfl) rfl ?_
  refine EvF.gop 36 (go_get f_Txt_18 d_Txt_add_33 ((gRd_n _ _ (gNe h1 h3)).trans ((gRd_n _ _ (gNe h1 h2)).trans (h1))) rfl) rfl ?_
  refine EvF.gop 37 (go_iconst (v := 1) d_Txt_add_36 (by decide)) rfl ?_
  refine EvF.gop 38 (go_iadd d_Txt_add_37) rfl ?_
  refine EvF.go (go_v (y := nI (n + 1)) (nI_1 n)) ?_
  refine EvF.gop 41 (go_put [.ref tc, .ref ts, .int (nI (n + 1))] f_Txt_18 ft_Txt_2 d_Txt_add_38 ((gRd_n _ _ (gNe h1 h3)).trans ((gRd_n _ _ (gNe h1 h2)).trans (h1))) (rfl) (rfl) (Nat.le_of_ble_eq_true rfl) rfl) rfl ?_
  refine EvF.gop 42 (go_iconst (v := 1) d_Txt_add_41 (by decide)) rfl ?_
  exact EvF.rz d_Txt_add_42 rfl (by decide) (rfl) (rfl)
/-- Text.add without -/
theorem e_Txt_addF (G : gG) (M : gM) (t tc ts n : Nat) (c s : Nat → Int32) (x y : Int32) (h1 : gRd M t = some (.inr (3, [.ref tc, .ref ts, .int (nI n)]))) (h2 : gRd M tc = some (aI G 120 c)) (h3 : gRd M ts = some (aI G 120 s)) (hcs : tc ≠ ts) (hn : n ≤ 120) (hlt : n = 120) : Ev G 0 m_Txt_add [.ref t, .int x, .int y] M (some (.int (0))) M := by
  refine Ev.of (Nat.le_of_ble_eq_true rfl) ?_
  show EvF G 0 m_Txt_add (0, [(0, .ref t), (1, .int x), (2, .int y)], [], M) _ _
  refine EvF.gop 1 (go_aload_n d_Txt_add_0 rfl 0 rfl) rfl ?_
  refine EvF.gop 4 (go_get f_Txt_18 d_Txt_add_1 (h1) rfl) rfl ?_
  refine EvF.gop 6 (go_bipush (v := 120) d_Txt_add_4 (by decide)) rfl ?_
  refine EvF.gop 9 (go_icmp_ne_f 11 d_Txt_add_6 (by decide) (by rw [hlt]; rfl)) rfl ?_
  refine EvF.gop 10 (go_iconst (v := 0) d_Txt_add_9 (by decide)) rfl ?_
  exact EvF.rz d_Txt_add_10 rfl (by decide) (rfl) (rfl)
/-- Text.isBlank -/
theorem e_Txt_isBlank (G : gG) (M : gM) (t tc ts n : Nat) (c s : Nat → Int32) (j : Nat) (h1 : gRd M t = some (.inr (3, [.ref tc, .ref ts, .int (nI n)]))) (h2 : gRd M tc = some (aI G 120 c)) (h3 : gRd M ts = some (aI G 120 s)) (hcs : tc ≠ ts) (hn : n ≤ 120) (hj : j < 2 ^ 30) : Ev G 0 m_Txt_isBlank [.ref t, .int (nI j)] M (some (.int (bI (decide (j < n) && decide (c j = 32))))) M := by
  have q0 : ¬ nI j < 0 := nI_pos (by omega)
  refine Ev.of (Nat.le_of_ble_eq_true rfl) ?_
  show EvF G 0 m_Txt_isBlank (0, [(0, .ref t), (1, .int (nI j))], [], M) _ _
  refine EvF.gop 1 (go_iload_n d_Txt_isBlank_0 rfl 1 rfl) rfl ?_
  refine EvF.gop 4 (go_if_lt_f 27 d_Txt_isBlank_1 (by decide) (q0)) rfl ?_
  refine EvF.gop 5 (go_iload_n d_Txt_isBlank_4 rfl 1 rfl) rfl ?_
  refine EvF.gop 6 (go_aload_n d_Txt_isBlank_5 rfl 0 rfl) rfl ?_
  refine EvF.gop 9 (go_get f_Txt_18 d_Txt_isBlank_6 (h1) rfl) rfl ?_
  by_cases c1 : (nI n) ≤ (nI j)
  · have c1x : n ≤ j := (nI_leI (a := n) (b := j) (by omega) (by omega)).mp c1
    have c1y : ¬ j < n := by omega
    refine EvF.gop 27 (go_icmp_ge_t 27 d_Txt_isBlank_9 (by decide) (c1)) rfl ?_
    refine EvF.gop 28 (go_iconst (v := 0) d_Txt_isBlank_27 (by decide)) rfl ?_
    exact EvF.rz d_Txt_isBlank_28 rfl (by decide) (by simp [bI, *]) (rfl)
  · have c1x : j < n := Nat.lt_of_not_le (fun q9 => c1 ((nI_leI (a := n) (b := j) (by omega) (by omega)).mpr q9))
    have c1y : ¬ n ≤ j := by omega
    refine EvF.gop 12 (go_icmp_ge_f 27 d_Txt_isBlank_9 (by decide) (c1)) rfl ?_
    refine EvF.gop 13 (go_aload_n d_Txt_isBlank_12 rfl 0 rfl) rfl ?_
    refine EvF.gop 16 (go_get f_Txt_9 d_Txt_isBlank_13 (h1) rfl) rfl ?_
    refine EvF.gop 17 (go_iload_n d_Txt_isBlank_16 rfl 1 rfl) rfl ?_
    refine EvF.gop 18 (go_iald (j := j) d_Txt_isBlank_17 (h2) (rfl) (by omega) (by omega)) rfl ?_
    refine EvF.gop 20 (go_bipush (v := 32) d_Txt_isBlank_18 (by decide)) rfl ?_
    by_cases c2 : (c j) = 32
    · refine EvF.gop 23 (go_icmp_ne_f 27 d_Txt_isBlank_20 (by decide) (c2)) rfl ?_
      refine EvF.gop 24 (go_iconst (v := 1) d_Txt_isBlank_23 (by decide)) rfl ?_
      refine EvF.gop 28 (go_goto 28 d_Txt_isBlank_24 (by decide)) rfl ?_
      exact EvF.rz d_Txt_isBlank_28 rfl (by decide) (by simp [bI, *]) (rfl)
    · refine EvF.gop 27 (go_icmp_ne_t 27 d_Txt_isBlank_20 (by decide) (c2)) rfl ?_
      refine EvF.gop 28 (go_iconst (v := 0) d_Txt_isBlank_27 (by decide)) rfl ?_
      exact EvF.rz d_Txt_isBlank_28 rfl (by decide) (by simp [bI, *]) (rfl)
/-- Text.isLetterAt -/
theorem e_Txt_isLetterAt (G : gG) (M : gM) (t tc ts n : Nat) (c s : Nat → Int32) (j : Nat) (h1 : gRd M t = some (.inr (3, [.ref tc, .ref ts, .int (nI n)]))) (h2 : gRd M tc = some (aI G 120 c)) (h3 : gRd M ts = some (aI G 120 s)) (hcs : tc ≠ ts) (hn : n ≤ 120) (hj : j < 2 ^ 30) : Ev G 1 m_Txt_isLetterAt [.ref t, .int (nI j)] M (some (.int (bI (decide (j < n) && cLet (c j))))) M := by
  have q0 : ¬ nI j < 0 := nI_pos (by omega)
  refine Ev.of (Nat.le_of_ble_eq_true rfl) ?_
  show EvF G 1 m_Txt_isLetterAt (0, [(0, .ref t), (1, .int (nI j))], [], M) _ _
  refine EvF.gop 1 (go_iload_n d_Txt_isLetterAt_0 rfl 1 rfl) rfl ?_
  refine EvF.gop 4 (go_if_lt_f 28 d_Txt_isLetterAt_1 (by decide) (q0)) rfl ?_
  refine EvF.gop 5 (go_iload_n d_Txt_isLetterAt_4 rfl 1 rfl) rfl ?_
  refine EvF.gop 6 (go_aload_n d_Txt_isLetterAt_5 rfl 0 rfl) rfl ?_
  refine EvF.gop 9 (go_get f_Txt_18 d_Txt_isLetterAt_6 (h1) rfl) rfl ?_
  by_cases c1 : (nI n) ≤ (nI j)
  · have c1x : n ≤ j := (nI_leI (a := n) (b := j) (by omega) (by omega)).mp c1
    have c1y : ¬ j < n := by omega
    refine EvF.gop 28 (go_icmp_ge_t 28 d_Txt_isLetterAt_9 (by decide) (c1)) rfl ?_
    refine EvF.gop 29 (go_iconst (v := 0) d_Txt_isLetterAt_28 (by decide)) rfl ?_
    exact EvF.rz d_Txt_isLetterAt_29 rfl (by decide) (by simp [bI, *]) (rfl)
  · have c1x : j < n := Nat.lt_of_not_le (fun q9 => c1 ((nI_leI (a := n) (b := j) (by omega) (by omega)).mpr q9))
    have c1y : ¬ n ≤ j := by omega
    refine EvF.gop 12 (go_icmp_ge_f 28 d_Txt_isLetterAt_9 (by decide) (c1)) rfl ?_
    refine EvF.gop 13 (go_aload_n d_Txt_isLetterAt_12 rfl 0 rfl) rfl ?_
    refine EvF.gop 16 (go_get f_Txt_9 d_Txt_isLetterAt_13 (h1) rfl) rfl ?_
    refine EvF.gop 17 (go_iload_n d_Txt_isLetterAt_16 rfl 1 rfl) rfl ?_
    refine EvF.gop 18 (go_iald (j := j) d_Txt_isLetterAt_17 (h2) (rfl) (by omega) (by omega)) rfl ?_
    refine EvF.gop 21 (go_callS [.int (c j)] [.int (bI (cLet (c j)))] c0_PS_isLetter sm_PS_isLetter lk_Txt_22 d_Txt_isLetterAt_18 (e_PS_isLetter G M (c j)) (by decide) rfl rfl (Nat.le_of_ble_eq_true rfl) rfl) rfl ?_
    by_cases c2 : (bI (cLet (c j))) = 0
    · have c2x : (cLet (c j)) = false := bI_0.mp c2
      refine EvF.gop 28 (go_if_eq_t 28 d_Txt_isLetterAt_21 (by decide) (c2)) rfl ?_
      refine EvF.gop 29 (go_iconst (v := 0) d_Txt_isLetterAt_28 (by decide)) rfl ?_
      exact EvF.rz d_Txt_isLetterAt_29 rfl (by decide) (by simp [bI, *]) (rfl)
    · have c2x : (cLet (c j)) = true := bI_n0.mp c2
      refine EvF.gop 24 (go_if_eq_f 28 d_Txt_isLetterAt_21 (by decide) (c2)) rfl ?_
      refine EvF.gop 25 (go_iconst (v := 1) d_Txt_isLetterAt_24 (by decide)) rfl ?_
      refine EvF.gop 29 (go_goto 29 d_Txt_isLetterAt_25 (by decide)) rfl ?_
      exact EvF.rz d_Txt_isLetterAt_29 rfl (by decide) (by simp [bI, *]) (rfl)
/-- Text.move -/
theorem e_Txt_move (G : gG) (M : gM) (t tc ts n : Nat) (c s : Nat → Int32) (i j : Nat) (h1 : gRd M t = some (.inr (3, [.ref tc, .ref ts, .int (nI n)]))) (h2 : gRd M tc = some (aI G 120 c)) (h3 : gRd M ts = some (aI G 120 s)) (hcs : tc ≠ ts) (hn : n ≤ 120) (hi : i < 120) (hj : j < 120) : Ev G 0 m_Txt_move [.ref t, .int (nI i), .int (nI j)] M none (gWr (gWr M tc (aI G 120 (upd c j (c i)))) ts (aI G 120 (upd s j (s i)))) := by
  refine Ev.of (Nat.le_of_ble_eq_true rfl) ?_
  show EvF G 0 m_Txt_move (0, [(0, .ref t), (1, .int (nI i)), (2, .int (nI j))], [], M) _ _
  refine EvF.gop 1 (go_aload_n d_Txt_move_0 rfl 0 rfl) rfl ?_
  refine EvF.gop 4 (go_get f_Txt_9 d_Txt_move_1 (h1) rfl) rfl ?_
  refine EvF.gop 5 (go_iload_n d_Txt_move_4 rfl 2 rfl) rfl ?_
  refine EvF.gop 6 (go_aload_n d_Txt_move_5 rfl 0 rfl) rfl ?_
  refine EvF.gop 9 (go_get f_Txt_9 d_Txt_move_6 (h1) rfl) rfl ?_
  refine EvF.gop 10 (go_iload_n d_Txt_move_9 rfl 1 rfl) rfl ?_
  refine EvF.gop 11 (go_iald (j := i) d_Txt_move_10 (h2) (rfl) (by omega) (by omega)) rfl ?_
  refine EvF.gop 12 (go_iast (j := j) d_Txt_move_11 (h2) (rfl) (by omega) (by omega)) rfl ?_
  refine EvF.gop 13 (go_aload_n d_Txt_move_12 rfl 0 rfl) rfl ?_
  refine EvF.gop 16 (go_get f_Txt_15 d_Txt_move_13 ((gRd_n _ _ (gNe h1 h2)).trans (h1)) rfl) rfl ?_
  refine EvF.gop 17 (go_iload_n d_Txt_move_16 rfl 2 rfl) rfl ?_
  refine EvF.gop 18 (go_aload_n d_Txt_move_17 rfl 0 rfl) rfl ?_
  refine EvF.gop 21 (go_get f_Txt_15 d_Txt_move_18 ((gRd_n _ _ (gNe h1 h2)).trans (h1)) rfl) rfl ?_
  refine EvF.gop 22 (go_iload_n d_Txt_move_21 rfl 1 rfl) rfl ?_
  refine EvF.gop 23 (go_iald (j := i) d_Txt_move_22 ((gRd_n _ _ (Ne.symm hcs)).trans (h3)) (rfl) (by omega) (by omega)) rfl ?_
  refine EvF.gop 24 (go_iast (j := j) d_Txt_move_23 ((gRd_n _ _ (Ne.symm hcs)).trans (h3)) (rfl) (by omega) (by omega)) rfl ?_
  exact EvF.rv d_Txt_move_24 rfl (rfl)
def dGo (g : (Nat → Int32) → Nat → Nat → Bool) (c s : Nat → Int32) : Nat → Nat × (Nat → Int32) × (Nat → Int32)
  | 0 => (0, c, s)
  | k + 1 => if g (dGo g c s k).2.1 (dGo g c s k).1 k = true then dGo g c s k else ((dGo g c s k).1 + 1, upd (dGo g c s k).2.1 (dGo g c s k).1 ((dGo g c s k).2.1 k), upd (dGo g c s k).2.2 (dGo g c s k).1 ((dGo g c s k).2.2 k))
theorem dGo_t {g : (Nat → Int32) → Nat → Nat → Bool} {c s : Nat → Int32} {k : Nat} (h : g (dGo g c s k).2.1 (dGo g c s k).1 k = true) : dGo g c s (k + 1) = dGo g c s k := if_pos h
theorem dGo_f {g : (Nat → Int32) → Nat → Nat → Bool} {c s : Nat → Int32} {k : Nat} (h : g (dGo g c s k).2.1 (dGo g c s k).1 k = false) : dGo g c s (k + 1) = ((dGo g c s k).1 + 1, upd (dGo g c s k).2.1 (dGo g c s k).1 ((dGo g c s k).2.1 k), upd (dGo g c s k).2.2 (dGo g c s k).1 ((dGo g c s k).2.2 k)) := if_neg (by rw [h]; decide)
theorem dGo_le (g : (Nat → Int32) → Nat → Nat → Bool) (c s : Nat → Int32) : ∀ k, (dGo g c s k).1 ≤ k
  | 0 => Nat.le_refl 0
  | k + 1 => by
    have h := dGo_le g c s k
    by_cases hg : g (dGo g c s k).2.1 (dGo g c s k).1 k = true
    · rw [dGo_t hg]; omega
    · rw [dGo_f (Bool.not_eq_true _ ▸ hg)]; show _ + 1 ≤ k + 1; omega
def gBb (c : Nat → Int32) (q k : Nat) : Bool := decide (c k = 32) && (decide (q = 0) || (decide (c (q - 1) = 32) || decide (c (q - 1) = 124)))
def gBf (n : Nat) (c : Nat → Int32) (_ k : Nat) : Bool := decide (c k = 32) && (decide (k + 1 = n) || decide (c (k + 1) = 124))
def gBr (c : Nat → Int32) (q k : Nat) : Bool := decide (c k = 124) && (decide (q = 0) || decide (c (q - 1) = 124))
theorem g_Txt_dropBlanksBehind (G : gG) (M : gM) (t tc ts n : Nat) (c s : Nat → Int32) (h1 : gRd M t = some (.inr (3, [.ref tc, .ref ts, .int (nI n)]))) (h2 : gRd M tc = some (aI G 120 c)) (h3 : gRd M ts = some (aI G 120 s)) (hcs : tc ≠ ts) (hn : n ≤ 120) : ∀ r k : Nat, k + r = n → Go G m_Txt_dropBlanksBehind 1 (4, [(0, .ref t), (1, .int (nI (dGo gBb c s k).1)), (2, .int (nI k))], [], (gWr (gWr M tc (aI G 120 ((dGo gBb c s k).2.1))) ts (aI G 120 ((dGo gBb c s k).2.2)))) (78, [(0, .ref t), (1, .int (nI (dGo gBb c s n).1)), (2, .int (nI n))], [], (gWr (gWr M tc (aI G 120 ((dGo gBb c s n).2.1))) ts (aI G 120 ((dGo gBb c s n).2.2)))) := by
  intro r
  induction r with
  | zero =>
    intro k hk
    rw [show k = n from by omega]
    refine Go.trp 5 (go_iload_n d_Txt_dropBlanksBehind_4 rfl 2 rfl) rfl ?_
    refine Go.trp 6 (go_aload_n d_Txt_dropBlanksBehind_5 rfl 0 rfl) rfl ?_
    refine Go.trp 9 (go_get f_Txt_18 d_Txt_dropBlanksBehind_6 ((gRd_n _ _ (gNe h1 h3)).trans ((gRd_n _ _ (gNe h1 h2)).trans (h1))) rfl) rfl ?_
    refine Go.trp 78 (go_icmp_ge_t 78 d_Txt_dropBlanksBehind_9 (by decide) (nI_le (Nat.le_refl n) (by omega))) rfl ?_
    exact Go.rf
  | succ r ih =>
    intro k hk
    have hq := dGo_le gBb c s k
    refine Go.trp 5 (go_iload_n d_Txt_dropBlanksBehind_4 rfl 2 rfl) rfl ?_
    refine Go.trp 6 (go_aload_n d_Txt_dropBlanksBehind_5 rfl 0 rfl) rfl ?_
    refine Go.trp 9 (go_get f_Txt_18 d_Txt_dropBlanksBehind_6 ((gRd_n _ _ (gNe h1 h3)).trans ((gRd_n _ _ (gNe h1 h2)).trans (h1))) rfl) rfl ?_
    refine Go.trp 12 (go_icmp_ge_f 78 d_Txt_dropBlanksBehind_9 (by decide) (nI_ge (by omega) (by omega))) rfl ?_
    refine Go.trp 13 (go_aload_n d_Txt_dropBlanksBehind_12 rfl 0 rfl) rfl ?_
    refine Go.trp 16 (go_get f_Txt_9 d_Txt_dropBlanksBehind_13 ((gRd_n _ _ (gNe h1 h3)).trans ((gRd_n _ _ (gNe h1 h2)).trans (h1))) rfl) rfl ?_
    refine Go.trp 17 (go_iload_n d_Txt_dropBlanksBehind_16 rfl 2 rfl) rfl ?_
    refine Go.trp 18 (go_iald (j := k) d_Txt_dropBlanksBehind_17 ((gRd_n _ _ hcs).trans (gRd_s _ _ _)) (rfl) (by omega) (by omega)) rfl ?_
    refine Go.trp 20 (go_bipush (v := 32) d_Txt_dropBlanksBehind_18 (by decide)) rfl ?_
    by_cases c1 : (((dGo gBb c s k).2.1) k) = 32
    · refine Go.trp 23 (go_icmp_ne_f 57 d_Txt_dropBlanksBehind_20 (by decide) (c1)) rfl ?_
      refine Go.trp 24 (go_iload_n d_Txt_dropBlanksBehind_23 rfl 1 rfl) rfl ?_
      by_cases c2 : (nI (dGo gBb c s k).1) = 0
      · have c2x : (dGo gBb c s k).1 = 0 := (nI_eq (a := (dGo gBb c s k).1) (b := 0) (by omega) (by decide)).mp c2
        refine Go.trp 53 (go_if_eq_t 53 d_Txt_dropBlanksBehind_24 (by decide) (c2)) rfl ?_
        refine Go.trp 54 (go_iconst (v := 1) d_Txt_dropBlanksBehind_53 (by decide)) rfl ?_
        refine Go.trp 58 (go_goto 58 d_Txt_dropBlanksBehind_54 (by decide)) rfl ?_
        refine Go.trp 59 (go_istore_n [(3, .int 1), (0, .ref t), (1, .int (nI (dGo gBb c s k).1)), (2, .int (nI k))] d_Txt_dropBlanksBehind_58 rfl (by decide) rfl) rfl ?_
        refine (go_pick [1, 2, 3, 0] [(0, .ref t), (1, .int (nI (dGo gBb c s k).1)), (2, .int (nI k)), (3, .int 1)] rfl).tr ?_
        refine Go.trp 60 (go_iload_n d_Txt_dropBlanksBehind_59 rfl 3 rfl) rfl ?_
        refine Go.trp 72 (go_if_ne_t 72 d_Txt_dropBlanksBehind_60 (by decide) (by decide)) rfl ?_
        refine Go.trp 75 (go_inc1 (n0 := 2) (x := k) [(2, .int (nI (k + 1))), (0, .ref t), (1, .int (nI (dGo gBb c s k).1)), (3, .int 1)] d_Txt_dropBlanksBehind_72 rfl (by decide) rfl) rfl ?_
        refine (go_pick [1, 2, 0, 3] [(0, .ref t), (1, .int (nI (dGo gBb c s k).1)), (2, .int (nI (k + 1))), (3, .int 1)] rfl).tr ?_
        refine Go.trp 4 (go_goto 4 d_Txt_dropBlanksBehind_75 (by decide)) rfl ?_
        refine (go_pick [0, 1, 2] [(0, .ref t), (1, .int (nI (dGo gBb c s k).1)), (2, .int (nI (k + 1)))] rfl).tr ?_
        have hg : gBb (dGo gBb c s k).2.1 (dGo gBb c s k).1 k = true := by simp [gBb, *]
        have h9 := ih (k + 1) (by omega)
        rw [dGo_t hg] at h9
        exact h9
      · have c2x : ¬ (dGo gBb c s k).1 = 0 := fun q9 => c2 ((nI_eq (a := (dGo gBb c s k).1) (b := 0) (by omega) (by decide)).mpr q9)
        refine Go.trp 27 (go_if_eq_f 53 d_Txt_dropBlanksBehind_24 (by decide) (c2)) rfl ?_
        refine Go.trp 28 (go_aload_n d_Txt_dropBlanksBehind_27 rfl 0 rfl) rfl ?_
        refine Go.trp 31 (go_get f_Txt_9 d_Txt_dropBlanksBehind_28 ((gRd_n _ _ (gNe h1 h3)).trans ((gRd_n _ _ (gNe h1 h2)).trans (h1))) rfl) rfl ?_
        refine Go.trp 32 (go_iload_n d_Txt_dropBlanksBehind_31 rfl 1 rfl) rfl ?_
        refine Go.trp 33 (go_iconst (v := 1) d_Txt_dropBlanksBehind_32 (by decide)) rfl ?_
        refine Go.trp 34 (go_isub d_Txt_dropBlanksBehind_33) rfl ?_
        refine (go_v (y := nI ((dGo gBb c s k).1 - 1)) (by rw [← pk_sub (by omega)]; rfl)).tr ?_
        refine Go.trp 35 (go_iald (j := ((dGo gBb c s k).1 - 1)) d_Txt_dropBlanksBehind_34 ((gRd_n _ _ hcs).trans (gRd_s _ _ _)) (rfl) (by omega) (by omega)) rfl ?_
        refine Go.trp 37 (go_bipush (v := 32) d_Txt_dropBlanksBehind_35 (by decide)) rfl ?_
        by_cases c3 : (((dGo gBb c s k).2.1) ((dGo gBb c s k).1 - 1)) = 32
        · refine Go.trp 53 (go_icmp_eq_t 53 d_Txt_dropBlanksBehind_37 (by decide) (c3)) rfl ?_
          refine Go.trp 54 (go_iconst (v := 1) d_Txt_dropBlanksBehind_53 (by decide)) rfl ?_
          refine Go.trp 58 (go_goto 58 d_Txt_dropBlanksBehind_54 (by decide)) rfl ?_
          refine Go.trp 59 (go_istore_n [(3, .int 1), (0, .ref t), (1, .int (nI (dGo gBb c s k).1)), (2, .int (nI k))] d_Txt_dropBlanksBehind_58 rfl (by decide) rfl) rfl ?_
          refine (go_pick [1, 2, 3, 0] [(0, .ref t), (1, .int (nI (dGo gBb c s k).1)), (2, .int (nI k)), (3, .int 1)] rfl).tr ?_
          refine Go.trp 60 (go_iload_n d_Txt_dropBlanksBehind_59 rfl 3 rfl) rfl ?_
          refine Go.trp 72 (go_if_ne_t 72 d_Txt_dropBlanksBehind_60 (by decide) (by decide)) rfl ?_
          refine Go.trp 75 (go_inc1 (n0 := 2) (x := k) [(2, .int (nI (k + 1))), (0, .ref t), (1, .int (nI (dGo gBb c s k).1)), (3, .int 1)] d_Txt_dropBlanksBehind_72 rfl (by decide) rfl) rfl ?_
          refine (go_pick [1, 2, 0, 3] [(0, .ref t), (1, .int (nI (dGo gBb c s k).1)), (2, .int (nI (k + 1))), (3, .int 1)] rfl).tr ?_
          refine Go.trp 4 (go_goto 4 d_Txt_dropBlanksBehind_75 (by decide)) rfl ?_
          refine (go_pick [0, 1, 2] [(0, .ref t), (1, .int (nI (dGo gBb c s k).1)), (2, .int (nI (k + 1)))] rfl).tr ?_
          have hg : gBb (dGo gBb c s k).2.1 (dGo gBb c s k).1 k = true := by simp [gBb, *]
          have h9 := ih (k + 1) (by omega)
          rw [dGo_t hg] at h9
          exact h9
        · refine Go.trp 40 (go_icmp_eq_f 53 d_Txt_dropBlanksBehind_37 (by decide) (c3)) rfl ?_
          refine Go.trp 41 (go_aload_n d_Txt_dropBlanksBehind_40 rfl 0 rfl) rfl ?_
          refine Go.trp 44 (go_get f_Txt_9 d_Txt_dropBlanksBehind_41 ((gRd_n _ _ (gNe h1 h3)).trans ((gRd_n _ _ (gNe h1 h2)).trans (h1))) rfl) rfl ?_
          refine Go.trp 45 (go_iload_n d_Txt_dropBlanksBehind_44 rfl 1 rfl) rfl ?_
          refine Go.trp 46 (go_iconst (v := 1) d_Txt_dropBlanksBehind_45 (by decide)) rfl ?_
          refine Go.trp 47 (go_isub d_Txt_dropBlanksBehind_46) rfl ?_
          refine (go_v (y := nI ((dGo gBb c s k).1 - 1)) (by rw [← pk_sub (by omega)]; rfl)).tr ?_
          refine Go.trp 48 (go_iald (j := ((dGo gBb c s k).1 - 1)) d_Txt_dropBlanksBehind_47 ((gRd_n _ _ hcs).trans (gRd_s _ _ _)) (rfl) (by omega) (by omega)) rfl ?_
          refine Go.trp 50 (go_bipush (v := 124) d_Txt_dropBlanksBehind_48 (by decide)) rfl ?_
          by_cases c4 : (((dGo gBb c s k).2.1) ((dGo gBb c s k).1 - 1)) = 124
          · refine Go.trp 53 (go_icmp_ne_f 57 d_Txt_dropBlanksBehind_50 (by decide) (c4)) rfl ?_
            refine Go.trp 54 (go_iconst (v := 1) d_Txt_dropBlanksBehind_53 (by decide)) rfl ?_
            refine Go.trp 58 (go_goto 58 d_Txt_dropBlanksBehind_54 (by decide)) rfl ?_
            refine Go.trp 59 (go_istore_n [(3, .int 1), (0, .ref t), (1, .int (nI (dGo gBb c s k).1)), (2, .int (nI k))] d_Txt_dropBlanksBehind_58 rfl (by decide) rfl) rfl ?_
            refine (go_pick [1, 2, 3, 0] [(0, .ref t), (1, .int (nI (dGo gBb c s k).1)), (2, .int (nI k)), (3, .int 1)] rfl).tr ?_
            refine Go.trp 60 (go_iload_n d_Txt_dropBlanksBehind_59 rfl 3 rfl) rfl ?_
            refine Go.trp 72 (go_if_ne_t 72 d_Txt_dropBlanksBehind_60 (by decide) (by decide)) rfl ?_
            refine Go.trp 75 (go_inc1 (n0 := 2) (x := k) [(2, .int (nI (k + 1))), (0, .ref t), (1, .int (nI (dGo gBb c s k).1)), (3, .int 1)] d_Txt_dropBlanksBehind_72 rfl (by decide) rfl) rfl ?_
            refine (go_pick [1, 2, 0, 3] [(0, .ref t), (1, .int (nI (dGo gBb c s k).1)), (2, .int (nI (k + 1))), (3, .int 1)] rfl).tr ?_
            refine Go.trp 4 (go_goto 4 d_Txt_dropBlanksBehind_75 (by decide)) rfl ?_
            refine (go_pick [0, 1, 2] [(0, .ref t), (1, .int (nI (dGo gBb c s k).1)), (2, .int (nI (k + 1)))] rfl).tr ?_
            have hg : gBb (dGo gBb c s k).2.1 (dGo gBb c s k).1 k = true := by simp [gBb, *]
            have h9 := ih (k + 1) (by omega)
            rw [dGo_t hg] at h9
            exact h9
          · refine Go.trp 57 (go_icmp_ne_t 57 d_Txt_dropBlanksBehind_50 (by decide) (c4)) rfl ?_
            refine Go.trp 58 (go_iconst (v := 0) d_Txt_dropBlanksBehind_57 (by decide)) rfl ?_
            refine Go.trp 59 (go_istore_n [(3, .int 0), (0, .ref t), (1, .int (nI (dGo gBb c s k).1)), (2, .int (nI k))] d_Txt_dropBlanksBehind_58 rfl (by decide) rfl) rfl ?_
            refine (go_pick [1, 2, 3, 0] [(0, .ref t), (1, .int (nI (dGo gBb c s k).1)), (2, .int (nI k)), (3, .int 0)] rfl).tr ?_
            refine Go.trp 60 (go_iload_n d_Txt_dropBlanksBehind_59 rfl 3 rfl) rfl ?_
            refine Go.trp 63 (go_if_ne_f 72 d_Txt_dropBlanksBehind_60 (by decide) (by decide)) rfl ?_
            refine Go.trp 64 (go_aload_n d_Txt_dropBlanksBehind_63 rfl 0 rfl) rfl ?_
            refine Go.trp 65 (go_iload_n d_Txt_dropBlanksBehind_64 rfl 2 rfl) rfl ?_
            refine Go.trp 66 (go_iload_n d_Txt_dropBlanksBehind_65 rfl 1 rfl) rfl ?_
            refine Go.trp 69 (go_callV [.int (nI k), .int (nI (dGo gBb c s k).1)] [] c0_Txt_move im_Txt_move se_Txt_move lk_Txt_35 d_Txt_dropBlanksBehind_66 rfl rfl ((gRd_n _ _ (gNe h1 h3)).trans ((gRd_n _ _ (gNe h1 h2)).trans (h1))) (e_Txt_move G _ t tc ts n (dGo gBb c s k).2.1 (dGo gBb c s k).2.2 k (dGo gBb c s k).1 ((gRd_n _ _ (gNe h1 h3)).trans ((gRd_n _ _ (gNe h1 h2)).trans (h1))) ((gRd_n _ _ hcs).trans (gRd_s _ _ _)) (gRd_s _ _ _) hcs hn (by omega) (by omega)) (by decide) rfl rfl (Nat.le_of_ble_eq_true rfl) rfl) rfl ?_
            refine (go_m (M' := (gWr (gWr M tc (aI G 120 (upd (dGo gBb c s k).2.1 (dGo gBb c s k).1 ((dGo gBb c s k).2.1 k)))) ts (aI G 120 (upd (dGo gBb c s k).2.2 (dGo gBb c s k).1 ((dGo gBb c s k).2.2 k))))) ((congrArg (fun m => gWr m ts (aI G 120 (upd (dGo gBb c s k).2.2 (dGo gBb c s k).1 ((dGo gBb c s k).2.2 k)))) ((gWr_cm (gWr M tc (aI G 120 ((dGo gBb c s k).2.1))) (aI G 120 ((dGo gBb c s k).2.2)) (aI G 120 (upd (dGo gBb c s k).2.1 (dGo gBb c s k).1 ((dGo gBb c s k).2.1 k))) (Ne.symm hcs)).trans (congrArg (fun m => gWr m ts (aI G 120 ((dGo gBb c s k).2.2))) (gWr_wr M tc (aI G 120 ((dGo gBb c s k).2.1)) (aI G 120 (upd (dGo gBb c s k).2.1 (dGo gBb c s k).1 ((dGo gBb c s k).2.1 k))))))).trans (gWr_wr (gWr M tc (aI G 120 (upd (dGo gBb c s k).2.1 (dGo gBb c s k).1 ((dGo gBb c s k).2.1 k)))) ts (aI G 120 ((dGo gBb c s k).2.2)) (aI G 120 (upd (dGo gBb c s k).2.2 (dGo gBb c s k).1 ((dGo gBb c s k).2.2 k)))))).tr ?_
            refine Go.trp 72 (go_inc1 (n0 := 1) (x := (dGo gBb c s k).1) [(1, .int (nI ((dGo gBb c s k).1 + 1))), (0, .ref t), (2, .int (nI k)), (3, .int 0)] d_Txt_dropBlanksBehind_69 rfl (by decide) rfl) rfl ?_
            refine (go_pick [1, 0, 2, 3] [(0, .ref t), (1, .int (nI ((dGo gBb c s k).1 + 1))), (2, .int (nI k)), (3, .int 0)] rfl).tr ?_
            refine Go.trp 75 (go_inc1 (n0 := 2) (x := k) [(2, .int (nI (k + 1))), (0, .ref t), (1, .int (nI ((dGo gBb c s k).1 + 1))), (3, .int 0)] d_Txt_dropBlanksBehind_72 rfl (by decide) rfl) rfl ?_
            refine (go_pick [1, 2, 0, 3] [(0, .ref t), (1, .int (nI ((dGo gBb c s k).1 + 1))), (2, .int (nI (k + 1))), (3, .int 0)] rfl).tr ?_
            refine Go.trp 4 (go_goto 4 d_Txt_dropBlanksBehind_75 (by decide)) rfl ?_
            refine (go_pick [0, 1, 2] [(0, .ref t), (1, .int (nI ((dGo gBb c s k).1 + 1))), (2, .int (nI (k + 1)))] rfl).tr ?_
            have hg : gBb (dGo gBb c s k).2.1 (dGo gBb c s k).1 k = false := by simp [gBb, *]
            have h9 := ih (k + 1) (by omega)
            rw [dGo_f hg] at h9
            exact h9
    · refine Go.trp 57 (go_icmp_ne_t 57 d_Txt_dropBlanksBehind_20 (by decide) (c1)) rfl ?_
      refine Go.trp 58 (go_iconst (v := 0) d_Txt_dropBlanksBehind_57 (by decide)) rfl ?_
      refine Go.trp 59 (go_istore_n [(3, .int 0), (0, .ref t), (1, .int (nI (dGo gBb c s k).1)), (2, .int (nI k))] d_Txt_dropBlanksBehind_58 rfl (by decide) rfl) rfl ?_
      refine (go_pick [1, 2, 3, 0] [(0, .ref t), (1, .int (nI (dGo gBb c s k).1)), (2, .int (nI k)), (3, .int 0)] rfl).tr ?_
      refine Go.trp 60 (go_iload_n d_Txt_dropBlanksBehind_59 rfl 3 rfl) rfl ?_
      refine Go.trp 63 (go_if_ne_f 72 d_Txt_dropBlanksBehind_60 (by decide) (by decide)) rfl ?_
      refine Go.trp 64 (go_aload_n d_Txt_dropBlanksBehind_63 rfl 0 rfl) rfl ?_
      refine Go.trp 65 (go_iload_n d_Txt_dropBlanksBehind_64 rfl 2 rfl) rfl ?_
      refine Go.trp 66 (go_iload_n d_Txt_dropBlanksBehind_65 rfl 1 rfl) rfl ?_
      refine Go.trp 69 (go_callV [.int (nI k), .int (nI (dGo gBb c s k).1)] [] c0_Txt_move im_Txt_move se_Txt_move lk_Txt_35 d_Txt_dropBlanksBehind_66 rfl rfl ((gRd_n _ _ (gNe h1 h3)).trans ((gRd_n _ _ (gNe h1 h2)).trans (h1))) (e_Txt_move G _ t tc ts n (dGo gBb c s k).2.1 (dGo gBb c s k).2.2 k (dGo gBb c s k).1 ((gRd_n _ _ (gNe h1 h3)).trans ((gRd_n _ _ (gNe h1 h2)).trans (h1))) ((gRd_n _ _ hcs).trans (gRd_s _ _ _)) (gRd_s _ _ _) hcs hn (by omega) (by omega)) (by decide) rfl rfl (Nat.le_of_ble_eq_true rfl) rfl) rfl ?_
      refine (go_m (M' := (gWr (gWr M tc (aI G 120 (upd (dGo gBb c s k).2.1 (dGo gBb c s k).1 ((dGo gBb c s k).2.1 k)))) ts (aI G 120 (upd (dGo gBb c s k).2.2 (dGo gBb c s k).1 ((dGo gBb c s k).2.2 k))))) ((congrArg (fun m => gWr m ts (aI G 120 (upd (dGo gBb c s k).2.2 (dGo gBb c s k).1 ((dGo gBb c s k).2.2 k)))) ((gWr_cm (gWr M tc (aI G 120 ((dGo gBb c s k).2.1))) (aI G 120 ((dGo gBb c s k).2.2)) (aI G 120 (upd (dGo gBb c s k).2.1 (dGo gBb c s k).1 ((dGo gBb c s k).2.1 k))) (Ne.symm hcs)).trans (congrArg (fun m => gWr m ts (aI G 120 ((dGo gBb c s k).2.2))) (gWr_wr M tc (aI G 120 ((dGo gBb c s k).2.1)) (aI G 120 (upd (dGo gBb c s k).2.1 (dGo gBb c s k).1 ((dGo gBb c s k).2.1 k))))))).trans (gWr_wr (gWr M tc (aI G 120 (upd (dGo gBb c s k).2.1 (dGo gBb c s k).1 ((dGo gBb c s k).2.1 k)))) ts (aI G 120 ((dGo gBb c s k).2.2)) (aI G 120 (upd (dGo gBb c s k).2.2 (dGo gBb c s k).1 ((dGo gBb c s k).2.2 k)))))).tr ?_
      refine Go.trp 72 (go_inc1 (n0 := 1) (x := (dGo gBb c s k).1) [(1, .int (nI ((dGo gBb c s k).1 + 1))), (0, .ref t), (2, .int (nI k)), (3, .int 0)] d_Txt_dropBlanksBehind_69 rfl (by decide) rfl) rfl ?_
      refine (go_pick [1, 0, 2, 3] [(0, .ref t), (1, .int (nI ((dGo gBb c s k).1 + 1))), (2, .int (nI k)), (3, .int 0)] rfl).tr ?_
      refine Go.trp 75 (go_inc1 (n0 := 2) (x := k) [(2, .int (nI (k + 1))), (0, .ref t), (1, .int (nI ((dGo gBb c s k).1 + 1))), (3, .int 0)] d_Txt_dropBlanksBehind_72 rfl (by decide) rfl) rfl ?_
      refine (go_pick [1, 2, 0, 3] [(0, .ref t), (1, .int (nI ((dGo gBb c s k).1 + 1))), (2, .int (nI (k + 1))), (3, .int 0)] rfl).tr ?_
      refine Go.trp 4 (go_goto 4 d_Txt_dropBlanksBehind_75 (by decide)) rfl ?_
      refine (go_pick [0, 1, 2] [(0, .ref t), (1, .int (nI ((dGo gBb c s k).1 + 1))), (2, .int (nI (k + 1)))] rfl).tr ?_
      have hg : gBb (dGo gBb c s k).2.1 (dGo gBb c s k).1 k = false := by simp [gBb, *]
      have h9 := ih (k + 1) (by omega)
      rw [dGo_f hg] at h9
      exact h9
theorem e_Txt_dropBlanksBehind (G : gG) (M : gM) (t tc ts n : Nat) (c s : Nat → Int32) (h1 : gRd M t = some (.inr (3, [.ref tc, .ref ts, .int (nI n)]))) (h2 : gRd M tc = some (aI G 120 c)) (h3 : gRd M ts = some (aI G 120 s)) (hcs : tc ≠ ts) (hn : n ≤ 120) : Ev G 2 m_Txt_dropBlanksBehind [.ref t] M none (gWr (gWr (gWr M tc (aI G 120 (dGo gBb c s n).2.1)) ts (aI G 120 (dGo gBb c s n).2.2)) t (.inr (3, [.ref tc, .ref ts, .int (nI (dGo gBb c s n).1)]))) := by
  refine Ev.of (Nat.le_of_ble_eq_true rfl) ?_
  show EvF G 2 m_Txt_dropBlanksBehind (0, [(0, .ref t)], [], M) _ _
  refine EvF.gop 1 (go_iconst (v := nI 0) d_Txt_dropBlanksBehind_0 (rfl)) rfl ?_
  refine EvF.gop 2 (go_istore_n [(1, .int (nI 0)), (0, .ref t)] d_Txt_dropBlanksBehind_1 rfl (by decide) rfl) rfl ?_
  refine EvF.go (go_pick [1, 0] [(0, .ref t), (1, .int (nI 0))] rfl) ?_
  refine EvF.gop 3 (go_iconst (v := nI 0) d_Txt_dropBlanksBehind_2 (rfl)) rfl ?_
  refine EvF.gop 4 (go_istore_n [(2, .int (nI 0)), (0, .ref t), (1, .int (nI 0))] d_Txt_dropBlanksBehind_3 rfl (by decide) rfl) rfl ?_
  refine EvF.go (go_pick [1, 2, 0] [(0, .ref t), (1, .int (nI 0)), (2, .int (nI 0))] rfl) ?_
  refine EvF.go (go_m (M' := (gWr M tc (aI G 120 c))) (gWr_id (h2)).symm) ?_
  refine EvF.go (go_m (M' := (gWr (gWr M tc (aI G 120 c)) ts (aI G 120 s))) (gWr_id ((gRd_n _ _ (Ne.symm hcs)).trans (h3))).symm) ?_
  refine EvF.go ((g_Txt_dropBlanksBehind G M t tc ts n c s h1 h2 h3 hcs hn n 0 (by omega)).up (by decide)) ?_
  refine EvF.gop 79 (go_aload_n d_Txt_dropBlanksBehind_78 rfl 0 rfl) rfl ?_
  refine EvF.gop 80 (go_iload_n d_Txt_dropBlanksBehind_79 rfl 1 rfl) rfl ?_
  refine EvF.gop 83 (go_put [.ref tc, .ref ts, .int (nI (dGo gBb c s n).1)] f_Txt_18 ft_Txt_2 d_Txt_dropBlanksBehind_80 ((gRd_n _ _ (gNe h1 h3)).trans ((gRd_n _ _ (gNe h1 h2)).trans (h1))) (rfl) (rfl) (Nat.le_of_ble_eq_true rfl) rfl) rfl ?_
  exact EvF.rv d_Txt_dropBlanksBehind_83 rfl rfl
theorem g_Txt_dropBlanksBefore (G : gG) (M : gM) (t tc ts n : Nat) (c s : Nat → Int32) (h1 : gRd M t = some (.inr (3, [.ref tc, .ref ts, .int (nI n)]))) (h2 : gRd M tc = some (aI G 120 c)) (h3 : gRd M ts = some (aI G 120 s)) (hcs : tc ≠ ts) (hn : n ≤ 120) : ∀ r k : Nat, k + r = n → Go G m_Txt_dropBlanksBefore 1 (4, [(0, .ref t), (1, .int (nI (dGo (gBf n) c s k).1)), (2, .int (nI k))], [], (gWr (gWr M tc (aI G 120 ((dGo (gBf n) c s k).2.1))) ts (aI G 120 ((dGo (gBf n) c s k).2.2)))) (71, [(0, .ref t), (1, .int (nI (dGo (gBf n) c s n).1)), (2, .int (nI n))], [], (gWr (gWr M tc (aI G 120 ((dGo (gBf n) c s n).2.1))) ts (aI G 120 ((dGo (gBf n) c s n).2.2)))) := by
  intro r
  induction r with
  | zero =>
    intro k hk
    rw [show k = n from by omega]
    refine Go.trp 5 (go_iload_n d_Txt_dropBlanksBefore_4 rfl 2 rfl) rfl ?_
    refine Go.trp 6 (go_aload_n d_Txt_dropBlanksBefore_5 rfl 0 rfl) rfl ?_
    refine Go.trp 9 (go_get f_Txt_18 d_Txt_dropBlanksBefore_6 ((gRd_n _ _ (gNe h1 h3)).trans ((gRd_n _ _ (gNe h1 h2)).trans (h1))) rfl) rfl ?_
    refine Go.trp 71 (go_icmp_ge_t 71 d_Txt_dropBlanksBefore_9 (by decide) (nI_le (Nat.le_refl n) (by omega))) rfl ?_
    exact Go.rf
  | succ r ih =>
    intro k hk
    have hq := dGo_le (gBf n) c s k
    refine Go.trp 5 (go_iload_n d_Txt_dropBlanksBefore_4 rfl 2 rfl) rfl ?_
    refine Go.trp 6 (go_aload_n d_Txt_dropBlanksBefore_5 rfl 0 rfl) rfl ?_
    refine Go.trp 9 (go_get f_Txt_18 d_Txt_dropBlanksBefore_6 ((gRd_n _ _ (gNe h1 h3)).trans ((gRd_n _ _ (gNe h1 h2)).trans (h1))) rfl) rfl ?_
    refine Go.trp 12 (go_icmp_ge_f 71 d_Txt_dropBlanksBefore_9 (by decide) (nI_ge (by omega) (by omega))) rfl ?_
    refine Go.trp 13 (go_aload_n d_Txt_dropBlanksBefore_12 rfl 0 rfl) rfl ?_
    refine Go.trp 16 (go_get f_Txt_9 d_Txt_dropBlanksBefore_13 ((gRd_n _ _ (gNe h1 h3)).trans ((gRd_n _ _ (gNe h1 h2)).trans (h1))) rfl) rfl ?_
    refine Go.trp 17 (go_iload_n d_Txt_dropBlanksBefore_16 rfl 2 rfl) rfl ?_
    refine Go.trp 18 (go_iald (j := k) d_Txt_dropBlanksBefore_17 ((gRd_n _ _ hcs).trans (gRd_s _ _ _)) (rfl) (by omega) (by omega)) rfl ?_
    refine Go.trp 20 (go_bipush (v := 32) d_Txt_dropBlanksBefore_18 (by decide)) rfl ?_
    by_cases c1 : (((dGo (gBf n) c s k).2.1) k) = 32
    · refine Go.trp 23 (go_icmp_ne_f 50 d_Txt_dropBlanksBefore_20 (by decide) (c1)) rfl ?_
      refine Go.trp 24 (go_iload_n d_Txt_dropBlanksBefore_23 rfl 2 rfl) rfl ?_
      refine Go.trp 25 (go_iconst (v := 1) d_Txt_dropBlanksBefore_24 (by decide)) rfl ?_
      refine Go.trp 26 (go_iadd d_Txt_dropBlanksBefore_25) rfl ?_
      refine (go_v (y := nI (k + 1)) (nI_1 k)).tr ?_
      refine Go.trp 27 (go_aload_n d_Txt_dropBlanksBefore_26 rfl 0 rfl) rfl ?_
      refine Go.trp 30 (go_get f_Txt_18 d_Txt_dropBlanksBefore_27 ((gRd_n _ _ (gNe h1 h3)).trans ((gRd_n _ _ (gNe h1 h2)).trans (h1))) rfl) rfl ?_
      by_cases c2 : (nI (k + 1)) = (nI n)
      · have c2x : (k + 1) = n := (nI_eq (a := (k + 1)) (b := n) (by omega) (by omega)).mp c2
        refine Go.trp 46 (go_icmp_eq_t 46 d_Txt_dropBlanksBefore_30 (by decide) (c2)) rfl ?_
        refine Go.trp 47 (go_iconst (v := 1) d_Txt_dropBlanksBefore_46 (by decide)) rfl ?_
        refine Go.trp 51 (go_goto 51 d_Txt_dropBlanksBefore_47 (by decide)) rfl ?_
        refine Go.trp 52 (go_istore_n [(3, .int 1), (0, .ref t), (1, .int (nI (dGo (gBf n) c s k).1)), (2, .int (nI k))] d_Txt_dropBlanksBefore_51 rfl (by decide) rfl) rfl ?_
        refine (go_pick [1, 2, 3, 0] [(0, .ref t), (1, .int (nI (dGo (gBf n) c s k).1)), (2, .int (nI k)), (3, .int 1)] rfl).tr ?_
        refine Go.trp 53 (go_iload_n d_Txt_dropBlanksBefore_52 rfl 3 rfl) rfl ?_
        refine Go.trp 65 (go_if_ne_t 65 d_Txt_dropBlanksBefore_53 (by decide) (by decide)) rfl ?_
        refine Go.trp 68 (go_inc1 (n0 := 2) (x := k) [(2, .int (nI (k + 1))), (0, .ref t), (1, .int (nI (dGo (gBf n) c s k).1)), (3, .int 1)] d_Txt_dropBlanksBefore_65 rfl (by decide) rfl) rfl ?_
        refine (go_pick [1, 2, 0, 3] [(0, .ref t), (1, .int (nI (dGo (gBf n) c s k).1)), (2, .int (nI (k + 1))), (3, .int 1)] rfl).tr ?_
        refine Go.trp 4 (go_goto 4 d_Txt_dropBlanksBefore_68 (by decide)) rfl ?_
        refine (go_pick [0, 1, 2] [(0, .ref t), (1, .int (nI (dGo (gBf n) c s k).1)), (2, .int (nI (k + 1)))] rfl).tr ?_
        have hg : (gBf n) (dGo (gBf n) c s k).2.1 (dGo (gBf n) c s k).1 k = true := by simp [gBf, *]
        have h9 := ih (k + 1) (by omega)
        rw [dGo_t hg] at h9
        exact h9
      · have c2x : ¬ (k + 1) = n := fun q9 => c2 ((nI_eq (a := (k + 1)) (b := n) (by omega) (by omega)).mpr q9)
        refine Go.trp 33 (go_icmp_eq_f 46 d_Txt_dropBlanksBefore_30 (by decide) (c2)) rfl ?_
        refine Go.trp 34 (go_aload_n d_Txt_dropBlanksBefore_33 rfl 0 rfl) rfl ?_
        refine Go.trp 37 (go_get f_Txt_9 d_Txt_dropBlanksBefore_34 ((gRd_n _ _ (gNe h1 h3)).trans ((gRd_n _ _ (gNe h1 h2)).trans (h1))) rfl) rfl ?_
        refine Go.trp 38 (go_iload_n d_Txt_dropBlanksBefore_37 rfl 2 rfl) rfl ?_
        refine Go.trp 39 (go_iconst (v := 1) d_Txt_dropBlanksBefore_38 (by decide)) rfl ?_
        refine Go.trp 40 (go_iadd d_Txt_dropBlanksBefore_39) rfl ?_
        refine (go_v (y := nI (k + 1)) (nI_1 k)).tr ?_
        refine Go.trp 41 (go_iald (j := (k + 1)) d_Txt_dropBlanksBefore_40 ((gRd_n _ _ hcs).trans (gRd_s _ _ _)) (rfl) (by omega) (by omega)) rfl ?_
        refine Go.trp 43 (go_bipush (v := 124) d_Txt_dropBlanksBefore_41 (by decide)) rfl ?_
        by_cases c3 : (((dGo (gBf n) c s k).2.1) (k + 1)) = 124
        · refine Go.trp 46 (go_icmp_ne_f 50 d_Txt_dropBlanksBefore_43 (by decide) (c3)) rfl ?_
          refine Go.trp 47 (go_iconst (v := 1) d_Txt_dropBlanksBefore_46 (by decide)) rfl ?_
          refine Go.trp 51 (go_goto 51 d_Txt_dropBlanksBefore_47 (by decide)) rfl ?_
          refine Go.trp 52 (go_istore_n [(3, .int 1), (0, .ref t), (1, .int (nI (dGo (gBf n) c s k).1)), (2, .int (nI k))] d_Txt_dropBlanksBefore_51 rfl (by decide) rfl) rfl ?_
          refine (go_pick [1, 2, 3, 0] [(0, .ref t), (1, .int (nI (dGo (gBf n) c s k).1)), (2, .int (nI k)), (3, .int 1)] rfl).tr ?_
          refine Go.trp 53 (go_iload_n d_Txt_dropBlanksBefore_52 rfl 3 rfl) rfl ?_
          refine Go.trp 65 (go_if_ne_t 65 d_Txt_dropBlanksBefore_53 (by decide) (by decide)) rfl ?_
          refine Go.trp 68 (go_inc1 (n0 := 2) (x := k) [(2, .int (nI (k + 1))), (0, .ref t), (1, .int (nI (dGo (gBf n) c s k).1)), (3, .int 1)] d_Txt_dropBlanksBefore_65 rfl (by decide) rfl) rfl ?_
          refine (go_pick [1, 2, 0, 3] [(0, .ref t), (1, .int (nI (dGo (gBf n) c s k).1)), (2, .int (nI (k + 1))), (3, .int 1)] rfl).tr ?_
          refine Go.trp 4 (go_goto 4 d_Txt_dropBlanksBefore_68 (by decide)) rfl ?_
          refine (go_pick [0, 1, 2] [(0, .ref t), (1, .int (nI (dGo (gBf n) c s k).1)), (2, .int (nI (k + 1)))] rfl).tr ?_
          have hg : (gBf n) (dGo (gBf n) c s k).2.1 (dGo (gBf n) c s k).1 k = true := by simp [gBf, *]
          have h9 := ih (k + 1) (by omega)
          rw [dGo_t hg] at h9
          exact h9
        · refine Go.trp 50 (go_icmp_ne_t 50 d_Txt_dropBlanksBefore_43 (by decide) (c3)) rfl ?_
          refine Go.trp 51 (go_iconst (v := 0) d_Txt_dropBlanksBefore_50 (by decide)) rfl ?_
          refine Go.trp 52 (go_istore_n [(3, .int 0), (0, .ref t), (1, .int (nI (dGo (gBf n) c s k).1)), (2, .int (nI k))] d_Txt_dropBlanksBefore_51 rfl (by decide) rfl) rfl ?_
          refine (go_pick [1, 2, 3, 0] [(0, .ref t), (1, .int (nI (dGo (gBf n) c s k).1)), (2, .int (nI k)), (3, .int 0)] rfl).tr ?_
          refine Go.trp 53 (go_iload_n d_Txt_dropBlanksBefore_52 rfl 3 rfl) rfl ?_
          refine Go.trp 56 (go_if_ne_f 65 d_Txt_dropBlanksBefore_53 (by decide) (by decide)) rfl ?_
          refine Go.trp 57 (go_aload_n d_Txt_dropBlanksBefore_56 rfl 0 rfl) rfl ?_
          refine Go.trp 58 (go_iload_n d_Txt_dropBlanksBefore_57 rfl 2 rfl) rfl ?_
          refine Go.trp 59 (go_iload_n d_Txt_dropBlanksBefore_58 rfl 1 rfl) rfl ?_
          refine Go.trp 62 (go_callV [.int (nI k), .int (nI (dGo (gBf n) c s k).1)] [] c0_Txt_move im_Txt_move se_Txt_move lk_Txt_35 d_Txt_dropBlanksBefore_59 rfl rfl ((gRd_n _ _ (gNe h1 h3)).trans ((gRd_n _ _ (gNe h1 h2)).trans (h1))) (e_Txt_move G _ t tc ts n (dGo (gBf n) c s k).2.1 (dGo (gBf n) c s k).2.2 k (dGo (gBf n) c s k).1 ((gRd_n _ _ (gNe h1 h3)).trans ((gRd_n _ _ (gNe h1 h2)).trans (h1))) ((gRd_n _ _ hcs).trans (gRd_s _ _ _)) (gRd_s _ _ _) hcs hn (by omega) (by omega)) (by decide) rfl rfl (Nat.le_of_ble_eq_true rfl) rfl) rfl ?_
          refine (go_m (M' := (gWr (gWr M tc (aI G 120 (upd (dGo (gBf n) c s k).2.1 (dGo (gBf n) c s k).1 ((dGo (gBf n) c s k).2.1 k)))) ts (aI G 120 (upd (dGo (gBf n) c s k).2.2 (dGo (gBf n) c s k).1 ((dGo (gBf n) c s k).2.2 k))))) ((congrArg (fun m => gWr m ts (aI G 120 (upd (dGo (gBf n) c s k).2.2 (dGo (gBf n) c s k).1 ((dGo (gBf n) c s k).2.2 k)))) ((gWr_cm (gWr M tc (aI G 120 ((dGo (gBf n) c s k).2.1))) (aI G 120 ((dGo (gBf n) c s k).2.2)) (aI G 120 (upd (dGo (gBf n) c s k).2.1 (dGo (gBf n) c s k).1 ((dGo (gBf n) c s k).2.1 k))) (Ne.symm hcs)).trans (congrArg (fun m => gWr m ts (aI G 120 ((dGo (gBf n) c s k).2.2))) (gWr_wr M tc (aI G 120 ((dGo (gBf n) c s k).2.1)) (aI G 120 (upd (dGo (gBf n) c s k).2.1 (dGo (gBf n) c s k).1 ((dGo (gBf n) c s k).2.1 k))))))).trans (gWr_wr (gWr M tc (aI G 120 (upd (dGo (gBf n) c s k).2.1 (dGo (gBf n) c s k).1 ((dGo (gBf n) c s k).2.1 k)))) ts (aI G 120 ((dGo (gBf n) c s k).2.2)) (aI G 120 (upd (dGo (gBf n) c s k).2.2 (dGo (gBf n) c s k).1 ((dGo (gBf n) c s k).2.2 k)))))).tr ?_
          refine Go.trp 65 (go_inc1 (n0 := 1) (x := (dGo (gBf n) c s k).1) [(1, .int (nI ((dGo (gBf n) c s k).1 + 1))), (0, .ref t), (2, .int (nI k)), (3, .int 0)] d_Txt_dropBlanksBefore_62 rfl (by decide) rfl) rfl ?_
          refine (go_pick [1, 0, 2, 3] [(0, .ref t), (1, .int (nI ((dGo (gBf n) c s k).1 + 1))), (2, .int (nI k)), (3, .int 0)] rfl).tr ?_
          refine Go.trp 68 (go_inc1 (n0 := 2) (x := k) [(2, .int (nI (k + 1))), (0, .ref t), (1, .int (nI ((dGo (gBf n) c s k).1 + 1))), (3, .int 0)] d_Txt_dropBlanksBefore_65 rfl (by decide) rfl) rfl ?_
          refine (go_pick [1, 2, 0, 3] [(0, .ref t), (1, .int (nI ((dGo (gBf n) c s k).1 + 1))), (2, .int (nI (k + 1))), (3, .int 0)] rfl).tr ?_
          refine Go.trp 4 (go_goto 4 d_Txt_dropBlanksBefore_68 (by decide)) rfl ?_
          refine (go_pick [0, 1, 2] [(0, .ref t), (1, .int (nI ((dGo (gBf n) c s k).1 + 1))), (2, .int (nI (k + 1)))] rfl).tr ?_
          have hg : (gBf n) (dGo (gBf n) c s k).2.1 (dGo (gBf n) c s k).1 k = false := by simp [gBf, *]
          have h9 := ih (k + 1) (by omega)
          rw [dGo_f hg] at h9
          exact h9
    · refine Go.trp 50 (go_icmp_ne_t 50 d_Txt_dropBlanksBefore_20 (by decide) (c1)) rfl ?_
      refine Go.trp 51 (go_iconst (v := 0) d_Txt_dropBlanksBefore_50 (by decide)) rfl ?_
      refine Go.trp 52 (go_istore_n [(3, .int 0), (0, .ref t), (1, .int (nI (dGo (gBf n) c s k).1)), (2, .int (nI k))] d_Txt_dropBlanksBefore_51 rfl (by decide) rfl) rfl ?_
      refine (go_pick [1, 2, 3, 0] [(0, .ref t), (1, .int (nI (dGo (gBf n) c s k).1)), (2, .int (nI k)), (3, .int 0)] rfl).tr ?_
      refine Go.trp 53 (go_iload_n d_Txt_dropBlanksBefore_52 rfl 3 rfl) rfl ?_
      refine Go.trp 56 (go_if_ne_f 65 d_Txt_dropBlanksBefore_53 (by decide) (by decide)) rfl ?_
      refine Go.trp 57 (go_aload_n d_Txt_dropBlanksBefore_56 rfl 0 rfl) rfl ?_
      refine Go.trp 58 (go_iload_n d_Txt_dropBlanksBefore_57 rfl 2 rfl) rfl ?_
      refine Go.trp 59 (go_iload_n d_Txt_dropBlanksBefore_58 rfl 1 rfl) rfl ?_
      refine Go.trp 62 (go_callV [.int (nI k), .int (nI (dGo (gBf n) c s k).1)] [] c0_Txt_move im_Txt_move se_Txt_move lk_Txt_35 d_Txt_dropBlanksBefore_59 rfl rfl ((gRd_n _ _ (gNe h1 h3)).trans ((gRd_n _ _ (gNe h1 h2)).trans (h1))) (e_Txt_move G _ t tc ts n (dGo (gBf n) c s k).2.1 (dGo (gBf n) c s k).2.2 k (dGo (gBf n) c s k).1 ((gRd_n _ _ (gNe h1 h3)).trans ((gRd_n _ _ (gNe h1 h2)).trans (h1))) ((gRd_n _ _ hcs).trans (gRd_s _ _ _)) (gRd_s _ _ _) hcs hn (by omega) (by omega)) (by decide) rfl rfl (Nat.le_of_ble_eq_true rfl) rfl) rfl ?_
      refine (go_m (M' := (gWr (gWr M tc (aI G 120 (upd (dGo (gBf n) c s k).2.1 (dGo (gBf n) c s k).1 ((dGo (gBf n) c s k).2.1 k)))) ts (aI G 120 (upd (dGo (gBf n) c s k).2.2 (dGo (gBf n) c s k).1 ((dGo (gBf n) c s k).2.2 k))))) ((congrArg (fun m => gWr m ts (aI G 120 (upd (dGo (gBf n) c s k).2.2 (dGo (gBf n) c s k).1 ((dGo (gBf n) c s k).2.2 k)))) ((gWr_cm (gWr M tc (aI G 120 ((dGo (gBf n) c s k).2.1))) (aI G 120 ((dGo (gBf n) c s k).2.2)) (aI G 120 (upd (dGo (gBf n) c s k).2.1 (dGo (gBf n) c s k).1 ((dGo (gBf n) c s k).2.1 k))) (Ne.symm hcs)).trans (congrArg (fun m => gWr m ts (aI G 120 ((dGo (gBf n) c s k).2.2))) (gWr_wr M tc (aI G 120 ((dGo (gBf n) c s k).2.1)) (aI G 120 (upd (dGo (gBf n) c s k).2.1 (dGo (gBf n) c s k).1 ((dGo (gBf n) c s k).2.1 k))))))).trans (gWr_wr (gWr M tc (aI G 120 (upd (dGo (gBf n) c s k).2.1 (dGo (gBf n) c s k).1 ((dGo (gBf n) c s k).2.1 k)))) ts (aI G 120 ((dGo (gBf n) c s k).2.2)) (aI G 120 (upd (dGo (gBf n) c s k).2.2 (dGo (gBf n) c s k).1 ((dGo (gBf n) c s k).2.2 k)))))).tr ?_
      refine Go.trp 65 (go_inc1 (n0 := 1) (x := (dGo (gBf n) c s k).1) [(1, .int (nI ((dGo (gBf n) c s k).1 + 1))), (0, .ref t), (2, .int (nI k)), (3, .int 0)] d_Txt_dropBlanksBefore_62 rfl (by decide) rfl) rfl ?_
      refine (go_pick [1, 0, 2, 3] [(0, .ref t), (1, .int (nI ((dGo (gBf n) c s k).1 + 1))), (2, .int (nI k)), (3, .int 0)] rfl).tr ?_
      refine Go.trp 68 (go_inc1 (n0 := 2) (x := k) [(2, .int (nI (k + 1))), (0, .ref t), (1, .int (nI ((dGo (gBf n) c s k).1 + 1))), (3, .int 0)] d_Txt_dropBlanksBefore_65 rfl (by decide) rfl) rfl ?_
      refine (go_pick [1, 2, 0, 3] [(0, .ref t), (1, .int (nI ((dGo (gBf n) c s k).1 + 1))), (2, .int (nI (k + 1))), (3, .int 0)] rfl).tr ?_
      refine Go.trp 4 (go_goto 4 d_Txt_dropBlanksBefore_68 (by decide)) rfl ?_
      refine (go_pick [0, 1, 2] [(0, .ref t), (1, .int (nI ((dGo (gBf n) c s k).1 + 1))), (2, .int (nI (k + 1)))] rfl).tr ?_
      have hg : (gBf n) (dGo (gBf n) c s k).2.1 (dGo (gBf n) c s k).1 k = false := by simp [gBf, *]
      have h9 := ih (k + 1) (by omega)
      rw [dGo_f hg] at h9
      exact h9
theorem e_Txt_dropBlanksBefore (G : gG) (M : gM) (t tc ts n : Nat) (c s : Nat → Int32) (h1 : gRd M t = some (.inr (3, [.ref tc, .ref ts, .int (nI n)]))) (h2 : gRd M tc = some (aI G 120 c)) (h3 : gRd M ts = some (aI G 120 s)) (hcs : tc ≠ ts) (hn : n ≤ 120) : Ev G 2 m_Txt_dropBlanksBefore [.ref t] M none (gWr (gWr (gWr M tc (aI G 120 (dGo (gBf n) c s n).2.1)) ts (aI G 120 (dGo (gBf n) c s n).2.2)) t (.inr (3, [.ref tc, .ref ts, .int (nI (dGo (gBf n) c s n).1)]))) := by
  refine Ev.of (Nat.le_of_ble_eq_true rfl) ?_
  show EvF G 2 m_Txt_dropBlanksBefore (0, [(0, .ref t)], [], M) _ _
  refine EvF.gop 1 (go_iconst (v := nI 0) d_Txt_dropBlanksBefore_0 (rfl)) rfl ?_
  refine EvF.gop 2 (go_istore_n [(1, .int (nI 0)), (0, .ref t)] d_Txt_dropBlanksBefore_1 rfl (by decide) rfl) rfl ?_
  refine EvF.go (go_pick [1, 0] [(0, .ref t), (1, .int (nI 0))] rfl) ?_
  refine EvF.gop 3 (go_iconst (v := nI 0) d_Txt_dropBlanksBefore_2 (rfl)) rfl ?_
  refine EvF.gop 4 (go_istore_n [(2, .int (nI 0)), (0, .ref t), (1, .int (nI 0))] d_Txt_dropBlanksBefore_3 rfl (by decide) rfl) rfl ?_
  refine EvF.go (go_pick [1, 2, 0] [(0, .ref t), (1, .int (nI 0)), (2, .int (nI 0))] rfl) ?_
  refine EvF.go (go_m (M' := (gWr M tc (aI G 120 c))) (gWr_id (h2)).symm) ?_
  refine EvF.go (go_m (M' := (gWr (gWr M tc (aI G 120 c)) ts (aI G 120 s))) (gWr_id ((gRd_n _ _ (Ne.symm hcs)).trans (h3))).symm) ?_
  refine EvF.go ((g_Txt_dropBlanksBefore G M t tc ts n c s h1 h2 h3 hcs hn n 0 (by omega)).up (by decide)) ?_
  refine EvF.gop 72 (go_aload_n d_Txt_dropBlanksBefore_71 rfl 0 rfl) rfl ?_
  refine EvF.gop 73 (go_iload_n d_Txt_dropBlanksBefore_72 rfl 1 rfl) rfl ?_
  refine EvF.gop 76 (go_put [.ref tc, .ref ts, .int (nI (dGo (gBf n) c s n).1)] f_Txt_18 ft_Txt_2 d_Txt_dropBlanksBefore_73 ((gRd_n _ _ (gNe h1 h3)).trans ((gRd_n _ _ (gNe h1 h2)).trans (h1))) (rfl) (rfl) (Nat.le_of_ble_eq_true rfl) rfl) rfl ?_
  exact EvF.rv d_Txt_dropBlanksBefore_76 rfl rfl
theorem g_Txt_dropBarsBehind (G : gG) (M : gM) (t tc ts n : Nat) (c s : Nat → Int32) (h1 : gRd M t = some (.inr (3, [.ref tc, .ref ts, .int (nI n)]))) (h2 : gRd M tc = some (aI G 120 c)) (h3 : gRd M ts = some (aI G 120 s)) (hcs : tc ≠ ts) (hn : n ≤ 120) : ∀ r k : Nat, k + r = n → Go G m_Txt_dropBarsBehind 1 (4, [(0, .ref t), (1, .int (nI (dGo gBr c s k).1)), (2, .int (nI k))], [], (gWr (gWr M tc (aI G 120 ((dGo gBr c s k).2.1))) ts (aI G 120 ((dGo gBr c s k).2.2)))) (65, [(0, .ref t), (1, .int (nI (dGo gBr c s n).1)), (2, .int (nI n))], [], (gWr (gWr M tc (aI G 120 ((dGo gBr c s n).2.1))) ts (aI G 120 ((dGo gBr c s n).2.2)))) := by
  intro r
  induction r with
  | zero =>
    intro k hk
    rw [show k = n from by omega]
    refine Go.trp 5 (go_iload_n d_Txt_dropBarsBehind_4 rfl 2 rfl) rfl ?_
    refine Go.trp 6 (go_aload_n d_Txt_dropBarsBehind_5 rfl 0 rfl) rfl ?_
    refine Go.trp 9 (go_get f_Txt_18 d_Txt_dropBarsBehind_6 ((gRd_n _ _ (gNe h1 h3)).trans ((gRd_n _ _ (gNe h1 h2)).trans (h1))) rfl) rfl ?_
    refine Go.trp 65 (go_icmp_ge_t 65 d_Txt_dropBarsBehind_9 (by decide) (nI_le (Nat.le_refl n) (by omega))) rfl ?_
    exact Go.rf
  | succ r ih =>
    intro k hk
    have hq := dGo_le gBr c s k
    refine Go.trp 5 (go_iload_n d_Txt_dropBarsBehind_4 rfl 2 rfl) rfl ?_
    refine Go.trp 6 (go_aload_n d_Txt_dropBarsBehind_5 rfl 0 rfl) rfl ?_
    refine Go.trp 9 (go_get f_Txt_18 d_Txt_dropBarsBehind_6 ((gRd_n _ _ (gNe h1 h3)).trans ((gRd_n _ _ (gNe h1 h2)).trans (h1))) rfl) rfl ?_
    refine Go.trp 12 (go_icmp_ge_f 65 d_Txt_dropBarsBehind_9 (by decide) (nI_ge (by omega) (by omega))) rfl ?_
    refine Go.trp 13 (go_aload_n d_Txt_dropBarsBehind_12 rfl 0 rfl) rfl ?_
    refine Go.trp 16 (go_get f_Txt_9 d_Txt_dropBarsBehind_13 ((gRd_n _ _ (gNe h1 h3)).trans ((gRd_n _ _ (gNe h1 h2)).trans (h1))) rfl) rfl ?_
    refine Go.trp 17 (go_iload_n d_Txt_dropBarsBehind_16 rfl 2 rfl) rfl ?_
    refine Go.trp 18 (go_iald (j := k) d_Txt_dropBarsBehind_17 ((gRd_n _ _ hcs).trans (gRd_s _ _ _)) (rfl) (by omega) (by omega)) rfl ?_
    refine Go.trp 20 (go_bipush (v := 124) d_Txt_dropBarsBehind_18 (by decide)) rfl ?_
    by_cases c1 : (((dGo gBr c s k).2.1) k) = 124
    · refine Go.trp 23 (go_icmp_ne_f 44 d_Txt_dropBarsBehind_20 (by decide) (c1)) rfl ?_
      refine Go.trp 24 (go_iload_n d_Txt_dropBarsBehind_23 rfl 1 rfl) rfl ?_
      by_cases c2 : (nI (dGo gBr c s k).1) = 0
      · have c2x : (dGo gBr c s k).1 = 0 := (nI_eq (a := (dGo gBr c s k).1) (b := 0) (by omega) (by decide)).mp c2
        refine Go.trp 40 (go_if_eq_t 40 d_Txt_dropBarsBehind_24 (by decide) (c2)) rfl ?_
        refine Go.trp 41 (go_iconst (v := 1) d_Txt_dropBarsBehind_40 (by decide)) rfl ?_
        refine Go.trp 45 (go_goto 45 d_Txt_dropBarsBehind_41 (by decide)) rfl ?_
        refine Go.trp 46 (go_istore_n [(3, .int 1), (0, .ref t), (1, .int (nI (dGo gBr c s k).1)), (2, .int (nI k))] d_Txt_dropBarsBehind_45 rfl (by decide) rfl) rfl ?_
        refine (go_pick [1, 2, 3, 0] [(0, .ref t), (1, .int (nI (dGo gBr c s k).1)), (2, .int (nI k)), (3, .int 1)] rfl).tr ?_
        refine Go.trp 47 (go_iload_n d_Txt_dropBarsBehind_46 rfl 3 rfl) rfl ?_
        refine Go.trp 59 (go_if_ne_t 59 d_Txt_dropBarsBehind_47 (by decide) (by decide)) rfl ?_
        refine Go.trp 62 (go_inc1 (n0 := 2) (x := k) [(2, .int (nI (k + 1))), (0, .ref t), (1, .int (nI (dGo gBr c s k).1)), (3, .int 1)] d_Txt_dropBarsBehind_59 rfl (by decide) rfl) rfl ?_
        refine (go_pick [1, 2, 0, 3] [(0, .ref t), (1, .int (nI (dGo gBr c s k).1)), (2, .int (nI (k + 1))), (3, .int 1)] rfl).tr ?_
        refine Go.trp 4 (go_goto 4 d_Txt_dropBarsBehind_62 (by decide)) rfl ?_
        refine (go_pick [0, 1, 2] [(0, .ref t), (1, .int (nI (dGo gBr c s k).1)), (2, .int (nI (k + 1)))] rfl).tr ?_
        have hg : gBr (dGo gBr c s k).2.1 (dGo gBr c s k).1 k = true := by simp [gBr, *]
        have h9 := ih (k + 1) (by omega)
        rw [dGo_t hg] at h9
        exact h9
      · have c2x : ¬ (dGo gBr c s k).1 = 0 := fun q9 => c2 ((nI_eq (a := (dGo gBr c s k).1) (b := 0) (by omega) (by decide)).mpr q9)
        refine Go.trp 27 (go_if_eq_f 40 d_Txt_dropBarsBehind_24 (by decide) (c2)) rfl ?_
        refine Go.trp 28 (go_aload_n d_Txt_dropBarsBehind_27 rfl 0 rfl) rfl ?_
        refine Go.trp 31 (go_get f_Txt_9 d_Txt_dropBarsBehind_28 ((gRd_n _ _ (gNe h1 h3)).trans ((gRd_n _ _ (gNe h1 h2)).trans (h1))) rfl) rfl ?_
        refine Go.trp 32 (go_iload_n d_Txt_dropBarsBehind_31 rfl 1 rfl) rfl ?_
        refine Go.trp 33 (go_iconst (v := 1) d_Txt_dropBarsBehind_32 (by decide)) rfl ?_
        refine Go.trp 34 (go_isub d_Txt_dropBarsBehind_33) rfl ?_
        refine (go_v (y := nI ((dGo gBr c s k).1 - 1)) (by rw [← pk_sub (by omega)]; rfl)).tr ?_
        refine Go.trp 35 (go_iald (j := ((dGo gBr c s k).1 - 1)) d_Txt_dropBarsBehind_34 ((gRd_n _ _ hcs).trans (gRd_s _ _ _)) (rfl) (by omega) (by omega)) rfl ?_
        refine Go.trp 37 (go_bipush (v := 124) d_Txt_dropBarsBehind_35 (by decide)) rfl ?_
        by_cases c3 : (((dGo gBr c s k).2.1) ((dGo gBr c s k).1 - 1)) = 124
        · refine Go.trp 40 (go_icmp_ne_f 44 d_Txt_dropBarsBehind_37 (by decide) (c3)) rfl ?_
          refine Go.trp 41 (go_iconst (v := 1) d_Txt_dropBarsBehind_40 (by decide)) rfl ?_
          refine Go.trp 45 (go_goto 45 d_Txt_dropBarsBehind_41 (by decide)) rfl ?_
          refine Go.trp 46 (go_istore_n [(3, .int 1), (0, .ref t), (1, .int (nI (dGo gBr c s k).1)), (2, .int (nI k))] d_Txt_dropBarsBehind_45 rfl (by decide) rfl) rfl ?_
          refine (go_pick [1, 2, 3, 0] [(0, .ref t), (1, .int (nI (dGo gBr c s k).1)), (2, .int (nI k)), (3, .int 1)] rfl).tr ?_
          refine Go.trp 47 (go_iload_n d_Txt_dropBarsBehind_46 rfl 3 rfl) rfl ?_
          refine Go.trp 59 (go_if_ne_t 59 d_Txt_dropBarsBehind_47 (by decide) (by decide)) rfl ?_
          refine Go.trp 62 (go_inc1 (n0 := 2) (x := k) [(2, .int (nI (k + 1))), (0, .ref t), (1, .int (nI (dGo gBr c s k).1)), (3, .int 1)] d_Txt_dropBarsBehind_59 rfl (by decide) rfl) rfl ?_
          refine (go_pick [1, 2, 0, 3] [(0, .ref t), (1, .int (nI (dGo gBr c s k).1)), (2, .int (nI (k + 1))), (3, .int 1)] rfl).tr ?_
          refine Go.trp 4 (go_goto 4 d_Txt_dropBarsBehind_62 (by decide)) rfl ?_
          refine (go_pick [0, 1, 2] [(0, .ref t), (1, .int (nI (dGo gBr c s k).1)), (2, .int (nI (k + 1)))] rfl).tr ?_
          have hg : gBr (dGo gBr c s k).2.1 (dGo gBr c s k).1 k = true := by simp [gBr, *]
          have h9 := ih (k + 1) (by omega)
          rw [dGo_t hg] at h9
          exact h9
        · refine Go.trp 44 (go_icmp_ne_t 44 d_Txt_dropBarsBehind_37 (by decide) (c3)) rfl ?_
          refine Go.trp 45 (go_iconst (v := 0) d_Txt_dropBarsBehind_44 (by decide)) rfl ?_
          refine Go.trp 46 (go_istore_n [(3, .int 0), (0, .ref t), (1, .int (nI (dGo gBr c s k).1)), (2, .int (nI k))] d_Txt_dropBarsBehind_45 rfl (by decide) rfl) rfl ?_
          refine (go_pick [1, 2, 3, 0] [(0, .ref t), (1, .int (nI (dGo gBr c s k).1)), (2, .int (nI k)), (3, .int 0)] rfl).tr ?_
          refine Go.trp 47 (go_iload_n d_Txt_dropBarsBehind_46 rfl 3 rfl) rfl ?_
          refine Go.trp 50 (go_if_ne_f 59 d_Txt_dropBarsBehind_47 (by decide) (by decide)) rfl ?_
          refine Go.trp 51 (go_aload_n d_Txt_dropBarsBehind_50 rfl 0 rfl) rfl ?_
          refine Go.trp 52 (go_iload_n d_Txt_dropBarsBehind_51 rfl 2 rfl) rfl ?_
          refine Go.trp 53 (go_iload_n d_Txt_dropBarsBehind_52 rfl 1 rfl) rfl ?_
          refine Go.trp 56 (go_callV [.int (nI k), .int (nI (dGo gBr c s k).1)] [] c0_Txt_move im_Txt_move se_Txt_move lk_Txt_35 d_Txt_dropBarsBehind_53 rfl rfl ((gRd_n _ _ (gNe h1 h3)).trans ((gRd_n _ _ (gNe h1 h2)).trans (h1))) (e_Txt_move G _ t tc ts n (dGo gBr c s k).2.1 (dGo gBr c s k).2.2 k (dGo gBr c s k).1 ((gRd_n _ _ (gNe h1 h3)).trans ((gRd_n _ _ (gNe h1 h2)).trans (h1))) ((gRd_n _ _ hcs).trans (gRd_s _ _ _)) (gRd_s _ _ _) hcs hn (by omega) (by omega)) (by decide) rfl rfl (Nat.le_of_ble_eq_true rfl) rfl) rfl ?_
          refine (go_m (M' := (gWr (gWr M tc (aI G 120 (upd (dGo gBr c s k).2.1 (dGo gBr c s k).1 ((dGo gBr c s k).2.1 k)))) ts (aI G 120 (upd (dGo gBr c s k).2.2 (dGo gBr c s k).1 ((dGo gBr c s k).2.2 k))))) ((congrArg (fun m => gWr m ts (aI G 120 (upd (dGo gBr c s k).2.2 (dGo gBr c s k).1 ((dGo gBr c s k).2.2 k)))) ((gWr_cm (gWr M tc (aI G 120 ((dGo gBr c s k).2.1))) (aI G 120 ((dGo gBr c s k).2.2)) (aI G 120 (upd (dGo gBr c s k).2.1 (dGo gBr c s k).1 ((dGo gBr c s k).2.1 k))) (Ne.symm hcs)).trans (congrArg (fun m => gWr m ts (aI G 120 ((dGo gBr c s k).2.2))) (gWr_wr M tc (aI G 120 ((dGo gBr c s k).2.1)) (aI G 120 (upd (dGo gBr c s k).2.1 (dGo gBr c s k).1 ((dGo gBr c s k).2.1 k))))))).trans (gWr_wr (gWr M tc (aI G 120 (upd (dGo gBr c s k).2.1 (dGo gBr c s k).1 ((dGo gBr c s k).2.1 k)))) ts (aI G 120 ((dGo gBr c s k).2.2)) (aI G 120 (upd (dGo gBr c s k).2.2 (dGo gBr c s k).1 ((dGo gBr c s k).2.2 k)))))).tr ?_
          refine Go.trp 59 (go_inc1 (n0 := 1) (x := (dGo gBr c s k).1) [(1, .int (nI ((dGo gBr c s k).1 + 1))), (0, .ref t), (2, .int (nI k)), (3, .int 0)] d_Txt_dropBarsBehind_56 rfl (by decide) rfl) rfl ?_
          refine (go_pick [1, 0, 2, 3] [(0, .ref t), (1, .int (nI ((dGo gBr c s k).1 + 1))), (2, .int (nI k)), (3, .int 0)] rfl).tr ?_
          refine Go.trp 62 (go_inc1 (n0 := 2) (x := k) [(2, .int (nI (k + 1))), (0, .ref t), (1, .int (nI ((dGo gBr c s k).1 + 1))), (3, .int 0)] d_Txt_dropBarsBehind_59 rfl (by decide) rfl) rfl ?_
          refine (go_pick [1, 2, 0, 3] [(0, .ref t), (1, .int (nI ((dGo gBr c s k).1 + 1))), (2, .int (nI (k + 1))), (3, .int 0)] rfl).tr ?_
          refine Go.trp 4 (go_goto 4 d_Txt_dropBarsBehind_62 (by decide)) rfl ?_
          refine (go_pick [0, 1, 2] [(0, .ref t), (1, .int (nI ((dGo gBr c s k).1 + 1))), (2, .int (nI (k + 1)))] rfl).tr ?_
          have hg : gBr (dGo gBr c s k).2.1 (dGo gBr c s k).1 k = false := by simp [gBr, *]
          have h9 := ih (k + 1) (by omega)
          rw [dGo_f hg] at h9
          exact h9
    · refine Go.trp 44 (go_icmp_ne_t 44 d_Txt_dropBarsBehind_20 (by decide) (c1)) rfl ?_
      refine Go.trp 45 (go_iconst (v := 0) d_Txt_dropBarsBehind_44 (by decide)) rfl ?_
      refine Go.trp 46 (go_istore_n [(3, .int 0), (0, .ref t), (1, .int (nI (dGo gBr c s k).1)), (2, .int (nI k))] d_Txt_dropBarsBehind_45 rfl (by decide) rfl) rfl ?_
      refine (go_pick [1, 2, 3, 0] [(0, .ref t), (1, .int (nI (dGo gBr c s k).1)), (2, .int (nI k)), (3, .int 0)] rfl).tr ?_
      refine Go.trp 47 (go_iload_n d_Txt_dropBarsBehind_46 rfl 3 rfl) rfl ?_
      refine Go.trp 50 (go_if_ne_f 59 d_Txt_dropBarsBehind_47 (by decide) (by decide)) rfl ?_
      refine Go.trp 51 (go_aload_n d_Txt_dropBarsBehind_50 rfl 0 rfl) rfl ?_
      refine Go.trp 52 (go_iload_n d_Txt_dropBarsBehind_51 rfl 2 rfl) rfl ?_
      refine Go.trp 53 (go_iload_n d_Txt_dropBarsBehind_52 rfl 1 rfl) rfl ?_
      refine Go.trp 56 (go_callV [.int (nI k), .int (nI (dGo gBr c s k).1)] [] c0_Txt_move im_Txt_move se_Txt_move lk_Txt_35 d_Txt_dropBarsBehind_53 rfl rfl ((gRd_n _ _ (gNe h1 h3)).trans ((gRd_n _ _ (gNe h1 h2)).trans (h1))) (e_Txt_move G _ t tc ts n (dGo gBr c s k).2.1 (dGo gBr c s k).2.2 k (dGo gBr c s k).1 ((gRd_n _ _ (gNe h1 h3)).trans ((gRd_n _ _ (gNe h1 h2)).trans (h1))) ((gRd_n _ _ hcs).trans (gRd_s _ _ _)) (gRd_s _ _ _) hcs hn (by omega) (by omega)) (by decide) rfl rfl (Nat.le_of_ble_eq_true rfl) rfl) rfl ?_
      refine (go_m (M' := (gWr (gWr M tc (aI G 120 (upd (dGo gBr c s k).2.1 (dGo gBr c s k).1 ((dGo gBr c s k).2.1 k)))) ts (aI G 120 (upd (dGo gBr c s k).2.2 (dGo gBr c s k).1 ((dGo gBr c s k).2.2 k))))) ((congrArg (fun m => gWr m ts (aI G 120 (upd (dGo gBr c s k).2.2 (dGo gBr c s k).1 ((dGo gBr c s k).2.2 k)))) ((gWr_cm (gWr M tc (aI G 120 ((dGo gBr c s k).2.1))) (aI G 120 ((dGo gBr c s k).2.2)) (aI G 120 (upd (dGo gBr c s k).2.1 (dGo gBr c s k).1 ((dGo gBr c s k).2.1 k))) (Ne.symm hcs)).trans (congrArg (fun m => gWr m ts (aI G 120 ((dGo gBr c s k).2.2))) (gWr_wr M tc (aI G 120 ((dGo gBr c s k).2.1)) (aI G 120 (upd (dGo gBr c s k).2.1 (dGo gBr c s k).1 ((dGo gBr c s k).2.1 k))))))).trans (gWr_wr (gWr M tc (aI G 120 (upd (dGo gBr c s k).2.1 (dGo gBr c s k).1 ((dGo gBr c s k).2.1 k)))) ts (aI G 120 ((dGo gBr c s k).2.2)) (aI G 120 (upd (dGo gBr c s k).2.2 (dGo gBr c s k).1 ((dGo gBr c s k).2.2 k)))))).tr ?_
      refine Go.trp 59 (go_inc1 (n0 := 1) (x := (dGo gBr c s k).1) [(1, .int (nI ((dGo gBr c s k).1 + 1))), (0, .ref t), (2, .int (nI k)), (3, .int 0)] d_Txt_dropBarsBehind_56 rfl (by decide) rfl) rfl ?_
      refine (go_pick [1, 0, 2, 3] [(0, .ref t), (1, .int (nI ((dGo gBr c s k).1 + 1))), (2, .int (nI k)), (3, .int 0)] rfl).tr ?_
      refine Go.trp 62 (go_inc1 (n0 := 2) (x := k) [(2, .int (nI (k + 1))), (0, .ref t), (1, .int (nI ((dGo gBr c s k).1 + 1))), (3, .int 0)] d_Txt_dropBarsBehind_59 rfl (by decide) rfl) rfl ?_
      refine (go_pick [1, 2, 0, 3] [(0, .ref t), (1, .int (nI ((dGo gBr c s k).1 + 1))), (2, .int (nI (k + 1))), (3, .int 0)] rfl).tr ?_
      refine Go.trp 4 (go_goto 4 d_Txt_dropBarsBehind_62 (by decide)) rfl ?_
      refine (go_pick [0, 1, 2] [(0, .ref t), (1, .int (nI ((dGo gBr c s k).1 + 1))), (2, .int (nI (k + 1)))] rfl).tr ?_
      have hg : gBr (dGo gBr c s k).2.1 (dGo gBr c s k).1 k = false := by simp [gBr, *]
      have h9 := ih (k + 1) (by omega)
      rw [dGo_f hg] at h9
      exact h9
theorem e_Txt_dropBarsBehind (G : gG) (M : gM) (t tc ts n : Nat) (c s : Nat → Int32) (h1 : gRd M t = some (.inr (3, [.ref tc, .ref ts, .int (nI n)]))) (h2 : gRd M tc = some (aI G 120 c)) (h3 : gRd M ts = some (aI G 120 s)) (hcs : tc ≠ ts) (hn : n ≤ 120) : Ev G 2 m_Txt_dropBarsBehind [.ref t] M none (gWr (gWr (gWr M tc (aI G 120 (dGo gBr c s n).2.1)) ts (aI G 120 (dGo gBr c s n).2.2)) t (.inr (3, [.ref tc, .ref ts, .int (nI (dGo gBr c s n).1)]))) := by
  refine Ev.of (Nat.le_of_ble_eq_true rfl) ?_
  show EvF G 2 m_Txt_dropBarsBehind (0, [(0, .ref t)], [], M) _ _
  refine EvF.gop 1 (go_iconst (v := nI 0) d_Txt_dropBarsBehind_0 (rfl)) rfl ?_
  refine EvF.gop 2 (go_istore_n [(1, .int (nI 0)), (0, .ref t)] d_Txt_dropBarsBehind_1 rfl (by decide) rfl) rfl ?_
  refine EvF.go (go_pick [1, 0] [(0, .ref t), (1, .int (nI 0))] rfl) ?_
  refine EvF.gop 3 (go_iconst (v := nI 0) d_Txt_dropBarsBehind_2 (rfl)) rfl ?_
  refine EvF.gop 4 (go_istore_n [(2, .int (nI 0)), (0, .ref t), (1, .int (nI 0))] d_Txt_dropBarsBehind_3 rfl (by decide) rfl) rfl ?_
  refine EvF.go (go_pick [1, 2, 0] [(0, .ref t), (1, .int (nI 0)), (2, .int (nI 0))] rfl) ?_
  refine EvF.go (go_m (M' := (gWr M tc (aI G 120 c))) (gWr_id (h2)).symm) ?_
  refine EvF.go (go_m (M' := (gWr (gWr M tc (aI G 120 c)) ts (aI G 120 s))) (gWr_id ((gRd_n _ _ (Ne.symm hcs)).trans (h3))).symm) ?_
  refine EvF.go ((g_Txt_dropBarsBehind G M t tc ts n c s h1 h2 h3 hcs hn n 0 (by omega)).up (by decide)) ?_
  refine EvF.gop 66 (go_aload_n d_Txt_dropBarsBehind_65 rfl 0 rfl) rfl ?_
  refine EvF.gop 67 (go_iload_n d_Txt_dropBarsBehind_66 rfl 1 rfl) rfl ?_
  refine EvF.gop 70 (go_put [.ref tc, .ref ts, .int (nI (dGo gBr c s n).1)] f_Txt_18 ft_Txt_2 d_Txt_dropBarsBehind_67 ((gRd_n _ _ (gNe h1 h3)).trans ((gRd_n _ _ (gNe h1 h2)).trans (h1))) (rfl) (rfl) (Nat.le_of_ble_eq_true rfl) rfl) rfl ?_
  exact EvF.rv d_Txt_dropBarsBehind_70 rfl rfl
end
section
/-- addSign -/
theorem e_Pat_addSign (G : gG) (M : gM) (p ps pl n : Nat) (sg lv : Nat → Int32) (c : Int32) (h1 : gRd M p = some (.inr (4, [.ref ps, .ref pl, .int (nI n)]))) (h2 : gRd M ps = some (aI G 5 sg)) (h3 : gRd M pl = some (aI G 6 lv)) (hne : ps ≠ pl) (hn : n ≤ 5) (hlt : n < 5) (hc : (cLet c || decide (c = 46)) = true) : Ev G 1 m_Pat_addSign [.ref p, .int c] M (some (.int (1))) (gWr (gWr (gWr M ps (aI G 5 (upd sg n c))) p (.inr (4, [.ref ps, .ref pl, .int (nI (n + 1))]))) pl (aI G 6 (upd lv (n + 1) 0))) := by
  have q1 : ¬ nI n = 5 := fun q => absurd ((nI_eq (a := n) (b := 5) (by omega) (by decide)).mp q) (by omega)
  refine Ev.of (Nat.le_of_ble_eq_true rfl) ?_
  show EvF G 1 m_Pat_addSign (0, [(0, .ref p), (1, .int c)], [], M) _ _
  refine EvF.gop 1 (go_aload_n d_Pat_addSign_0 rfl 0 rfl) rfl ?_
  refine EvF.gop 4 (go_get f_Pat_18 d_Pat_addSign_1 (h1) rfl) rfl ?_
  refine EvF.gop 5 (go_iconst (v := 5) d_Pat_addSign_4 (by decide)) rfl ?_
  refine EvF.gop 8 (go_icmp_eq_f 21 d_Pat_addSign_5 (by decide) (q1)) rfl ?_
  refine EvF.gop 9 (go_iload_n d_Pat_addSign_8 rfl 1 rfl) rfl ?_
  refine EvF.gop 12 (go_callS [.int c] [.int (bI (cLet c))] c0_PS_isLetter sm_PS_isLetter lk_Pat_39 d_Pat_addSign_9 (e_PS_isLetter G M c) (by decide) rfl rfl (Nat.le_of_ble_eq_true rfl) rfl) rfl ?_
  by_cases c1 : (bI (cLet c)) = 0
  · have c1x : (cLet c) = false := bI_0.mp c1
    refine EvF.gop 15 (go_if_ne_f 23 d_Pat_addSign_12 (by decide) (c1)) rfl ?_
    refine EvF.gop 16 (go_iload_n d_Pat_addSign_15 rfl 1 rfl) rfl ?_
    refine EvF.gop 18 (go_bipush (v := 46) d_Pat_addSign_16 (by decide)) rfl ?_
    by_cases c2 : c = 46
    · refine EvF.gop 23 (go_icmp_eq_t 23 d_Pat_addSign_18 (by decide) (c2)) rfl ?_
      refine EvF.gop 24 (go_aload_n d_Pat_addSign_23 rfl 0 rfl) rfl ?_
      refine EvF.gop 27 (go_get f_Pat_9 d_Pat_addSign_24 (h1) rfl) rfl ?_
      refine EvF.gop 28 (go_aload_n d_Pat_addSign_27 rfl 0 rfl) rfl ?_
      refine EvF.gop 31 (go_get f_Pat_18 d_Pat_addSign_28 (h1) rfl) rfl ?_
      refine EvF.gop 32 (go_iload_n d_Pat_addSign_31 rfl 1 rfl) rfl ?_
      refine EvF.gop 33 (go_iast (j := n) d_Pat_addSign_32 (h2) (rfl) (by omega) (by omega)) rfl ?_
      refine EvF.gop 34 (go_aload_n d_Pat_addSign_33 rfl 0 rfl) rfl ?_
      refine EvF.gop 35 (go_dup d_Pat_addSign_34 rfl) rfl ?_
      refine EvF.gop 38 (go_get f_Pat_18 d_Pat_addSign_35 ((gRd_n _ _ (gNe h1 h2)).trans (h1)) rfl) rfl ?_
      refine EvF.gop 39 (go_iconst (v := 1) d_Pat_addSign_38 (by decide)) rfl ?_
      refine EvF.gop 40 (go_iadd d_Pat_addSign_39) rfl ?_
      refine EvF.go (go_v (y := nI (n + 1)) (nI_1 n)) ?_
      refine EvF.gop 43 (go_put [.ref ps, .ref pl, .int (nI (n + 1))] f_Pat_18 ft_Pat_2 d_Pat_addSign_40 ((gRd_n _ _ (gNe h1 h2)).trans (h1)) (rfl) (rfl) (Nat.le_of_ble_eq_true rfl) rfl) rfl ?_
      refine EvF.gop 44 (go_aload_n d_Pat_addSign_43 rfl 0 rfl) rfl ?_
      refine EvF.gop 47 (go_get f_Pat_15 d_Pat_addSign_44 (gRd_s _ _ _) rfl) rfl ?_
      refine EvF.gop 48 (go_aload_n d_Pat_addSign_47 rfl 0 rfl) rfl ?_
      refine EvF.gop 51 (go_get f_Pat_18 d_Pat_addSign_48 (gRd_s _ _ _) rfl) rfl ?_
      refine EvF.gop 52 (go_iconst (v := 0) d_Pat_addSign_51 (by decide)) rfl ?_
      refine EvF.gop 53 (go_iast (j := (n + 1)) d_Pat_addSign_52 ((gRd_n _ _ (Ne.symm (gNe h1 h3))).trans ((gRd_n _ _ (Ne.symm hne)).trans (h3))) (rfl) (by omega) (by omega)) rfl ?_
      refine EvF.gop 54 (go_iconst (v := 1) d_Pat_addSign_53 (by decide)) rfl ?_
      exact EvF.rz d_Pat_addSign_54 rfl (by decide) (rfl) (rfl)
    · refine EvF.gop 21 (go_icmp_eq_f 23 d_Pat_addSign_18 (by decide) (c2)) rfl ?_
      refine EvF.gop 22 (go_iconst (v := 0) d_Pat_addSign_21 (by decide)) rfl ?_
      exact absurd hc (by simp [*])
  · have c1x : (cLet c) = true := bI_n0.mp c1
    refine EvF.gop 23 (go_if_ne_t 23 d_Pat_addSign_12 (by decide) (c1)) rfl ?_
    refine EvF.gop 24 (go_aload_n d_Pat_addSign_23 rfl 0 rfl) rfl ?_
    refine EvF.gop 27 (go_get f_Pat_9 d_Pat_addSign_24 (h1) rfl) rfl ?_
    refine EvF.gop 28 (go_aload_n d_Pat_addSign_27 rfl 0 rfl) rfl ?_
    refine EvF.gop 31 (go_get f_Pat_18 d_Pat_addSign_28 (h1) rfl) rfl ?_
    refine EvF.gop 32 (go_iload_n d_Pat_addSign_31 rfl 1 rfl) rfl ?_
    refine EvF.gop 33 (go_iast (j := n) d_Pat_addSign_32 (h2) (rfl) (by omega) (by omega)) rfl ?_
    refine EvF.gop 34 (go_aload_n d_Pat_addSign_33 rfl 0 rfl) rfl ?_
    refine EvF.gop 35 (go_dup d_Pat_addSign_34 rfl) rfl ?_
    refine EvF.gop 38 (go_get f_Pat_18 d_Pat_addSign_35 ((gRd_n _ _ (gNe h1 h2)).trans (h1)) rfl) rfl ?_
    refine EvF.gop 39 (go_iconst (v := 1) d_Pat_addSign_38 (by decide)) rfl ?_
    refine EvF.gop 40 (go_iadd d_Pat_addSign_39) rfl ?_
    refine EvF.go (go_v (y := nI (n + 1)) (nI_1 n)) ?_
    refine EvF.gop 43 (go_put [.ref ps, .ref pl, .int (nI (n + 1))] f_Pat_18 ft_Pat_2 d_Pat_addSign_40 ((gRd_n _ _ (gNe h1 h2)).trans (h1)) (rfl) (rfl) (Nat.le_of_ble_eq_true rfl) rfl) rfl ?_
    refine EvF.gop 44 (go_aload_n d_Pat_addSign_43 rfl 0 rfl) rfl ?_
    refine EvF.gop 47 (go_get f_Pat_15 d_Pat_addSign_44 (gRd_s _ _ _) rfl) rfl ?_
    refine EvF.gop 48 (go_aload_n d_Pat_addSign_47 rfl 0 rfl) rfl ?_
    refine EvF.gop 51 (go_get f_Pat_18 d_Pat_addSign_48 (gRd_s _ _ _) rfl) rfl ?_
    refine EvF.gop 52 (go_iconst (v := 0) d_Pat_addSign_51 (by decide)) rfl ?_
    refine EvF.gop 53 (go_iast (j := (n + 1)) d_Pat_addSign_52 ((gRd_n _ _ (Ne.symm (gNe h1 h3))).trans ((gRd_n _ _ (Ne.symm hne)).trans (h3))) (rfl) (by omega) (by omega)) rfl ?_
    refine EvF.gop 54 (go_iconst (v := 1) d_Pat_addSign_53 (by decide)) rfl ?_
    exact EvF.rz d_Pat_addSign_54 rfl (by decide) (rfl) (rfl)
/-- addSign refuses -/
theorem e_Pat_addSignF (G : gG) (M : gM) (p ps pl n : Nat) (sg lv : Nat → Int32) (c : Int32) (h1 : gRd M p = some (.inr (4, [.ref ps, .ref pl, .int (nI n)]))) (h2 : gRd M ps = some (aI G 5 sg)) (h3 : gRd M pl = some (aI G 6 lv)) (hne : ps ≠ pl) (hn : n ≤ 5) (hc : n = 5 ∨ (cLet c || decide (c = 46)) = false) : Ev G 1 m_Pat_addSign [.ref p, .int c] M (some (.int (0))) M := by
  refine Ev.of (Nat.le_of_ble_eq_true rfl) ?_
  show EvF G 1 m_Pat_addSign (0, [(0, .ref p), (1, .int c)], [], M) _ _
  refine EvF.gop 1 (go_aload_n d_Pat_addSign_0 rfl 0 rfl) rfl ?_
  refine EvF.gop 4 (go_get f_Pat_18 d_Pat_addSign_1 (h1) rfl) rfl ?_
  refine EvF.gop 5 (go_iconst (v := 5) d_Pat_addSign_4 (by decide)) rfl ?_
  by_cases c1 : (nI n) = 5
  · have c1x : n = 5 := (nI_eq (a := n) (b := 5) (by omega) (by decide)).mp c1
    refine EvF.gop 21 (go_icmp_eq_t 21 d_Pat_addSign_5 (by decide) (c1)) rfl ?_
    refine EvF.gop 22 (go_iconst (v := 0) d_Pat_addSign_21 (by decide)) rfl ?_
    exact EvF.rz d_Pat_addSign_22 rfl (by decide) (rfl) (rfl)
  · have c1x : ¬ n = 5 := fun q9 => c1 ((nI_eq (a := n) (b := 5) (by omega) (by decide)).mpr q9)
    refine EvF.gop 8 (go_icmp_eq_f 21 d_Pat_addSign_5 (by decide) (c1)) rfl ?_
    refine EvF.gop 9 (go_iload_n d_Pat_addSign_8 rfl 1 rfl) rfl ?_
    refine EvF.gop 12 (go_callS [.int c] [.int (bI (cLet c))] c0_PS_isLetter sm_PS_isLetter lk_Pat_39 d_Pat_addSign_9 (e_PS_isLetter G M c) (by decide) rfl rfl (Nat.le_of_ble_eq_true rfl) rfl) rfl ?_
    by_cases c2 : (bI (cLet c)) = 0
    · have c2x : (cLet c) = false := bI_0.mp c2
      refine EvF.gop 15 (go_if_ne_f 23 d_Pat_addSign_12 (by decide) (c2)) rfl ?_
      refine EvF.gop 16 (go_iload_n d_Pat_addSign_15 rfl 1 rfl) rfl ?_
      refine EvF.gop 18 (go_bipush (v := 46) d_Pat_addSign_16 (by decide)) rfl ?_
      by_cases c3 : c = 46
      · refine EvF.gop 23 (go_icmp_eq_t 23 d_Pat_addSign_18 (by decide) (c3)) rfl ?_
        refine EvF.gop 24 (go_aload_n d_Pat_addSign_23 rfl 0 rfl) rfl ?_
        refine EvF.gop 27 (go_get f_Pat_9 d_Pat_addSign_24 (h1) rfl) rfl ?_
        refine EvF.gop 28 (go_aload_n d_Pat_addSign_27 rfl 0 rfl) rfl ?_
        refine EvF.gop 31 (go_get f_Pat_18 d_Pat_addSign_28 (h1) rfl) rfl ?_
        refine EvF.gop 32 (go_iload_n d_Pat_addSign_31 rfl 1 rfl) rfl ?_
        refine EvF.gop 33 (go_iast (j := n) d_Pat_addSign_32 (h2) (rfl) (by omega) (by omega)) rfl ?_
        refine EvF.gop 34 (go_aload_n d_Pat_addSign_33 rfl 0 rfl) rfl ?_
        refine EvF.gop 35 (go_dup d_Pat_addSign_34 rfl) rfl ?_
        refine EvF.gop 38 (go_get f_Pat_18 d_Pat_addSign_35 ((gRd_n _ _ (gNe h1 h2)).trans (h1)) rfl) rfl ?_
        refine EvF.gop 39 (go_iconst (v := 1) d_Pat_addSign_38 (by decide)) rfl ?_
        refine EvF.gop 40 (go_iadd d_Pat_addSign_39) rfl ?_
        refine EvF.go (go_v (y := nI (n + 1)) (nI_1 n)) ?_
        refine EvF.gop 43 (go_put [.ref ps, .ref pl, .int (nI (n + 1))] f_Pat_18 ft_Pat_2 d_Pat_addSign_40 ((gRd_n _ _ (gNe h1 h2)).trans (h1)) (rfl) (rfl) (Nat.le_of_ble_eq_true rfl) rfl) rfl ?_
        refine EvF.gop 44 (go_aload_n d_Pat_addSign_43 rfl 0 rfl) rfl ?_
        refine EvF.gop 47 (go_get f_Pat_15 d_Pat_addSign_44 (gRd_s _ _ _) rfl) rfl ?_
        refine EvF.gop 48 (go_aload_n d_Pat_addSign_47 rfl 0 rfl) rfl ?_
        refine EvF.gop 51 (go_get f_Pat_18 d_Pat_addSign_48 (gRd_s _ _ _) rfl) rfl ?_
        refine EvF.gop 52 (go_iconst (v := 0) d_Pat_addSign_51 (by decide)) rfl ?_
        refine EvF.gop 53 (go_iast (j := (n + 1)) d_Pat_addSign_52 ((gRd_n _ _ (Ne.symm (gNe h1 h3))).trans ((gRd_n _ _ (Ne.symm hne)).trans (h3))) (rfl) (by omega) (by omega)) rfl ?_
        refine EvF.gop 54 (go_iconst (v := 1) d_Pat_addSign_53 (by decide)) rfl ?_
        exact absurd hc (by simp [*])
      · refine EvF.gop 21 (go_icmp_eq_f 23 d_Pat_addSign_18 (by decide) (c3)) rfl ?_
        refine EvF.gop 22 (go_iconst (v := 0) d_Pat_addSign_21 (by decide)) rfl ?_
        exact EvF.rz d_Pat_addSign_22 rfl (by decide) (rfl) (rfl)
    · have c2x : (cLet c) = true := bI_n0.mp c2
      refine EvF.gop 23 (go_if_ne_t 23 d_Pat_addSign_12 (by decide) (c2)) rfl ?_
      refine EvF.gop 24 (go_aload_n d_Pat_addSign_23 rfl 0 rfl) rfl ?_
      refine EvF.gop 27 (go_get f_Pat_9 d_Pat_addSign_24 (h1) rfl) rfl ?_
      refine EvF.gop 28 (go_aload_n d_Pat_addSign_27 rfl 0 rfl) rfl ?_
      refine EvF.gop 31 (go_get f_Pat_18 d_Pat_addSign_28 (h1) rfl) rfl ?_
      refine EvF.gop 32 (go_iload_n d_Pat_addSign_31 rfl 1 rfl) rfl ?_
      refine EvF.gop 33 (go_iast (j := n) d_Pat_addSign_32 (h2) (rfl) (by omega) (by omega)) rfl ?_
      refine EvF.gop 34 (go_aload_n d_Pat_addSign_33 rfl 0 rfl) rfl ?_
      refine EvF.gop 35 (go_dup d_Pat_addSign_34 rfl) rfl ?_
      refine EvF.gop 38 (go_get f_Pat_18 d_Pat_addSign_35 ((gRd_n _ _ (gNe h1 h2)).trans (h1)) rfl) rfl ?_
      refine EvF.gop 39 (go_iconst (v := 1) d_Pat_addSign_38 (by decide)) rfl ?_
      refine EvF.gop 40 (go_iadd d_Pat_addSign_39) rfl ?_
      refine EvF.go (go_v (y := nI (n + 1)) (nI_1 n)) ?_
      refine EvF.gop 43 (go_put [.ref ps, .ref pl, .int (nI (n + 1))] f_Pat_18 ft_Pat_2 d_Pat_addSign_40 ((gRd_n _ _ (gNe h1 h2)).trans (h1)) (rfl) (rfl) (Nat.le_of_ble_eq_true rfl) rfl) rfl ?_
      refine EvF.gop 44 (go_aload_n d_Pat_addSign_43 rfl 0 rfl) rfl ?_
      refine EvF.gop 47 (go_get f_Pat_15 d_Pat_addSign_44 (gRd_s _ _ _) rfl) rfl ?_
      refine EvF.gop 48 (go_aload_n d_Pat_addSign_47 rfl 0 rfl) rfl ?_
      refine EvF.gop 51 (go_get f_Pat_18 d_Pat_addSign_48 (gRd_s _ _ _) rfl) rfl ?_
      refine EvF.gop 52 (go_iconst (v := 0) d_Pat_addSign_51 (by decide)) rfl ?_
      refine EvF.gop 53 (go_iast (j := (n + 1)) d_Pat_addSign_52 ((gRd_n _ _ (Ne.symm (gNe h1 h3))).trans ((gRd_n _ _ (Ne.symm hne)).trans (h3))) (rfl) (by omega) (by omega)) rfl ?_
      refine EvF.gop 54 (go_iconst (v := 1) d_Pat_addSign_53 (by decide)) rfl ?_
      exact absurd hc (by simp [*])
def edF (sg : Nat → Int32) : Nat → Nat → Bool
  | 0, _ => true
  | r + 1, k => if sg k = 46 then false else edF sg r (k + 1)
theorem g_Pat_edges (G : gG) (M : gM) (p ps pl n : Nat) (sg lv : Nat → Int32) (h1 : gRd M p = some (.inr (4, [.ref ps, .ref pl, .int (nI n)]))) (h2 : gRd M ps = some (aI G 5 sg)) (h3 : gRd M pl = some (aI G 6 lv)) (hne : ps ≠ pl) (hn : n ≤ 5) (hn1 : 1 ≤ n) : ∀ (r k : Nat), k + r = (if n ≤ 2 then 1 else n - 1) → 1 ≤ k → EvF G 0 m_Pat_hasPointsAtEdgesOnly (2, [(0, .ref p), (1, .int (nI k))], [], M) (some (.int (bI (edF sg r k)))) M := by
  intro r
  induction r with
  | zero =>
    intro k hk hk1
    refine EvF.gop 3 (go_iload_n d_Pat_hasPointsAtEdgesOnly_2 rfl 1 rfl) rfl ?_
    refine EvF.gop 4 (go_aload_n d_Pat_hasPointsAtEdgesOnly_3 rfl 0 rfl) rfl ?_
    refine EvF.gop 7 (go_get f_Pat_18 d_Pat_hasPointsAtEdgesOnly_4 (h1) rfl) rfl ?_
    refine EvF.gop 8 (go_iconst (v := 1) d_Pat_hasPointsAtEdgesOnly_7 (by decide)) rfl ?_
    refine EvF.gop 9 (go_isub d_Pat_hasPointsAtEdgesOnly_8) rfl ?_
    refine EvF.go (go_v (y := nI (n - 1)) (by rw [← pk_sub (by omega)]; rfl)) ?_
    refine EvF.gop 31 (go_icmp_ge_t 31 d_Pat_hasPointsAtEdgesOnly_9 (by decide) (nI_le (by split at hk <;> omega) (by split at hk <;> omega))) rfl ?_
    refine EvF.gop 32 (go_iconst (v := 1) d_Pat_hasPointsAtEdgesOnly_31 (by decide)) rfl ?_
    exact EvF.rz d_Pat_hasPointsAtEdgesOnly_32 rfl (by decide) (rfl) (rfl)
  | succ r ih =>
    intro k hk hk1
    refine EvF.gop 3 (go_iload_n d_Pat_hasPointsAtEdgesOnly_2 rfl 1 rfl) rfl ?_
    refine EvF.gop 4 (go_aload_n d_Pat_hasPointsAtEdgesOnly_3 rfl 0 rfl) rfl ?_
    refine EvF.gop 7 (go_get f_Pat_18 d_Pat_hasPointsAtEdgesOnly_4 (h1) rfl) rfl ?_
    refine EvF.gop 8 (go_iconst (v := 1) d_Pat_hasPointsAtEdgesOnly_7 (by decide)) rfl ?_
    refine EvF.gop 9 (go_isub d_Pat_hasPointsAtEdgesOnly_8) rfl ?_
    refine EvF.go (go_v (y := nI (n - 1)) (by rw [← pk_sub (by omega)]; rfl)) ?_
    refine EvF.gop 12 (go_icmp_ge_f 31 d_Pat_hasPointsAtEdgesOnly_9 (by decide) (nI_ge (by split at hk <;> omega) (by omega))) rfl ?_
    refine EvF.gop 13 (go_aload_n d_Pat_hasPointsAtEdgesOnly_12 rfl 0 rfl) rfl ?_
    refine EvF.gop 16 (go_get f_Pat_9 d_Pat_hasPointsAtEdgesOnly_13 (h1) rfl) rfl ?_
    refine EvF.gop 17 (go_iload_n d_Pat_hasPointsAtEdgesOnly_16 rfl 1 rfl) rfl ?_
    refine EvF.gop 18 (go_iald (j := k) d_Pat_hasPointsAtEdgesOnly_17 (h2) (rfl) (by split at hk <;> omega) (by omega)) rfl ?_
    refine EvF.gop 20 (go_bipush (v := 46) d_Pat_hasPointsAtEdgesOnly_18 (by decide)) rfl ?_
    by_cases c1 : (sg k) = 46
    · refine EvF.gop 23 (go_icmp_ne_f 25 d_Pat_hasPointsAtEdgesOnly_20 (by decide) (c1)) rfl ?_
      refine EvF.gop 24 (go_iconst (v := 0) d_Pat_hasPointsAtEdgesOnly_23 (by decide)) rfl ?_
      exact EvF.rz d_Pat_hasPointsAtEdgesOnly_24 rfl (by decide) (by simp [bI, edF, *]) (rfl)
    · refine EvF.gop 25 (go_icmp_ne_t 25 d_Pat_hasPointsAtEdgesOnly_20 (by decide) (c1)) rfl ?_
      refine EvF.gop 28 (go_inc1 (n0 := 1) (x := k) [(1, .int (nI (k + 1))), (0, .ref p)] d_Pat_hasPointsAtEdgesOnly_25 rfl (by decide) rfl) rfl ?_
      refine EvF.go (go_pick [1, 0] [(0, .ref p), (1, .int (nI (k + 1)))] rfl) ?_
      refine EvF.gop 2 (go_goto 2 d_Pat_hasPointsAtEdgesOnly_28 (by decide)) rfl ?_
      rw [show edF sg (r + 1) k = edF sg r (k + 1) from by simp [edF, *]]
      exact ih (k + 1) (by omega) (by omega)
theorem e_Pat_edges (G : gG) (M : gM) (p ps pl n : Nat) (sg lv : Nat → Int32) (h1 : gRd M p = some (.inr (4, [.ref ps, .ref pl, .int (nI n)]))) (h2 : gRd M ps = some (aI G 5 sg)) (h3 : gRd M pl = some (aI G 6 lv)) (hne : ps ≠ pl) (hn : n ≤ 5) (hn1 : 1 ≤ n) : Ev G 0 m_Pat_hasPointsAtEdgesOnly [.ref p] M (some (.int (bI (edF sg (n - 2) 1)))) M := by
  refine Ev.of (Nat.le_of_ble_eq_true rfl) ?_
  show EvF G 0 m_Pat_hasPointsAtEdgesOnly (0, [(0, .ref p)], [], M) _ _
  refine EvF.gop 1 (go_iconst (v := nI 1) d_Pat_hasPointsAtEdgesOnly_0 (rfl)) rfl ?_
  refine EvF.gop 2 (go_istore_n [(1, .int (nI 1)), (0, .ref p)] d_Pat_hasPointsAtEdgesOnly_1 rfl (by decide) rfl) rfl ?_
  refine EvF.go (go_pick [1, 0] [(0, .ref p), (1, .int (nI 1))] rfl) ?_
  exact g_Pat_edges G M p ps pl n sg lv h1 h2 h3 hne hn hn1 (n - 2) 1 (by split <;> omega) (Nat.le_refl 1)
def rdF (g : Nat → Int32) : Nat → Nat → Nat → (Nat → Int32) → (Nat → Int32) → Bool → Bool × Nat × (Nat → Int32) × (Nat → Int32)
  | 0, _, n, sg, lv, _ => (decide (0 < n) && edF sg (n - 2) 1, n, sg, lv)
  | r + 1, k, n, sg, lv, b =>
    if cDig (g k) = true then (if b = true then (false, n, sg, lv) else rdF g r (k + 1) n sg (upd lv n (g k - 48)) true)
    else (if n = 5 ∨ (cLet (g k) || decide (g k = 46)) = false then (false, n, sg, lv) else rdF g r (k + 1) (n + 1) (upd sg n (g k)) (upd lv (n + 1) 0) false)
theorem g_Pat_read (G : gG) (M : gM) (p ps pl b br nb m : Nat) (x : Int32) (sg0 lv0 g : Nat → Int32) (h1 : gRd M p = some (.inr (4, [.ref ps, .ref pl, .int x]))) (h2 : gRd M ps = some (aI G 5 sg0)) (h3 : gRd M pl = some (aI G 6 lv0)) (h4 : gRd M b = some (.inr (0, [.ref br, .int (nI m)]))) (h5 : gRd M br = some (aI G nb g)) (hne : ps ≠ pl) (hbs : br ≠ ps) (hbl : br ≠ pl) (hm : m ≤ nb) (hnb : nb < 2 ^ 31) : ∀ (r k : Nat) (n : Nat) (sg lv : Nat → Int32) (z : Bool), k + r = m → n ≤ 5 → EvF G 2 m_Pat_read (16, [(0, .ref p), (1, .ref b), (2, .int (bI z)), (3, .int (nI k))], [], (gWr (gWr (gWr M p (.inr (4, [.ref ps, .ref pl, .int (nI n)]))) pl (aI G 6 lv)) ps (aI G 5 sg))) (some (.int (bI (rdF g r k n sg lv z).1))) (gWr (gWr (gWr M p (.inr (4, [.ref ps, .ref pl, .int (nI ((rdF g r k n sg lv z).2.1))]))) pl (aI G 6 ((rdF g r k n sg lv z).2.2.2))) ps (aI G 5 ((rdF g r k n sg lv z).2.2.1))) := by
  intro r
  induction r with
  | zero =>
    intro k n sg lv z hk hn
    refine EvF.gop 17 (go_iload_n d_Pat_read_16 rfl 3 rfl) rfl ?_
    refine EvF.gop 18 (go_aload_n d_Pat_read_17 rfl 1 rfl) rfl ?_
    refine EvF.gop 21 (go_get f_Pat_22 d_Pat_read_18 ((gRd_n _ _ (gNe h4 h2)).trans ((gRd_n _ _ (gNe h4 h3)).trans ((gRd_n _ _ (Ne.symm (gNeK h1 h4 (by decide)))).trans (h4)))) rfl) rfl ?_
    refine EvF.gop 84 (go_icmp_ge_t 84 d_Pat_read_21 (by decide) (nI_le (by omega) (by omega))) rfl ?_
    refine EvF.gop 85 (go_aload_n d_Pat_read_84 rfl 0 rfl) rfl ?_
    refine EvF.gop 88 (go_get f_Pat_18 d_Pat_read_85 ((gRd_n _ _ (gNe h1 h2)).trans ((gRd_n _ _ (gNe h1 h3)).trans (gRd_s _ _ _))) rfl) rfl ?_
    by_cases c1 : (nI n) ≤ 0
    · have c1x : n ≤ 0 := (nI_leI (a := n) (b := 0) (by omega) (by decide)).mp c1
      have c1y : ¬ 0 < n := by omega
      refine EvF.gop 102 (go_if_le_t 102 d_Pat_read_88 (by decide) (c1)) rfl ?_
      refine EvF.gop 103 (go_iconst (v := 0) d_Pat_read_102 (by decide)) rfl ?_
      exact EvF.rz d_Pat_read_103 rfl (by decide) (by simp [bI, rdF, *]) (by simp [rdF])
    · have c1x : 0 < n := Nat.lt_of_not_le (fun q9 => c1 ((nI_leI (a := n) (b := 0) (by omega) (by decide)).mpr q9))
      have c1y : ¬ n ≤ 0 := by omega
      refine EvF.gop 91 (go_if_le_f 102 d_Pat_read_88 (by decide) (c1)) rfl ?_
      refine EvF.gop 92 (go_aload_n d_Pat_read_91 rfl 0 rfl) rfl ?_
      refine EvF.gop 95 (go_callV [] [.int (bI (edF sg (n - 2) 1))] c0_Pat_hasPointsAtEdgesOnly im_Pat_hasPointsAtEdgesOnly se_Pat_hasPointsAtEdgesOnly lk_Pat_35 d_Pat_read_92 rfl rfl ((gRd_n _ _ (gNe h1 h2)).trans ((gRd_n _ _ (gNe h1 h3)).trans (gRd_s _ _ _))) (e_Pat_edges G _ p ps pl n sg lv ((gRd_n _ _ (gNe h1 h2)).trans ((gRd_n _ _ (gNe h1 h3)).trans (gRd_s _ _ _))) (gRd_s _ _ _) ((gRd_n _ _ (Ne.symm hne)).trans (gRd_s _ _ _)) hne hn (by omega)) (by decide) rfl rfl (Nat.le_of_ble_eq_true rfl) rfl) rfl ?_
      by_cases c2 : (bI (edF sg (n - 2) 1)) = 0
      · have c2x : (edF sg (n - 2) 1) = false := bI_0.mp c2
        refine EvF.gop 102 (go_if_eq_t 102 d_Pat_read_95 (by decide) (c2)) rfl ?_
        refine EvF.gop 103 (go_iconst (v := 0) d_Pat_read_102 (by decide)) rfl ?_
        exact EvF.rz d_Pat_read_103 rfl (by decide) (by simp [bI, rdF, *]) (by simp [rdF])
      · have c2x : (edF sg (n - 2) 1) = true := bI_n0.mp c2
        refine EvF.gop 98 (go_if_eq_f 102 d_Pat_read_95 (by decide) (c2)) rfl ?_
        refine EvF.gop 99 (go_iconst (v := 1) d_Pat_read_98 (by decide)) rfl ?_
        refine EvF.gop 103 (go_goto 103 d_Pat_read_99 (by decide)) rfl ?_
        exact EvF.rz d_Pat_read_103 rfl (by decide) (by simp [bI, rdF, *]) (by simp [rdF])
  | succ r ih =>
    intro k n sg lv z hk hn
    refine EvF.gop 17 (go_iload_n d_Pat_read_16 rfl 3 rfl) rfl ?_
    refine EvF.gop 18 (go_aload_n d_Pat_read_17 rfl 1 rfl) rfl ?_
    refine EvF.gop 21 (go_get f_Pat_22 d_Pat_read_18 ((gRd_n _ _ (gNe h4 h2)).trans ((gRd_n _ _ (gNe h4 h3)).trans ((gRd_n _ _ (Ne.symm (gNeK h1 h4 (by decide)))).trans (h4)))) rfl) rfl ?_
    refine EvF.gop 24 (go_icmp_ge_f 84 d_Pat_read_21 (by decide) (nI_ge (by omega) (by omega))) rfl ?_
    refine EvF.gop 25 (go_aload_n d_Pat_read_24 rfl 1 rfl) rfl ?_
    refine EvF.gop 28 (go_get f_Pat_25 d_Pat_read_25 ((gRd_n _ _ (gNe h4 h2)).trans ((gRd_n _ _ (gNe h4 h3)).trans ((gRd_n _ _ (Ne.symm (gNeK h1 h4 (by decide)))).trans (h4)))) rfl) rfl ?_
    refine EvF.gop 29 (go_iload_n d_Pat_read_28 rfl 3 rfl) rfl ?_
    refine EvF.gop 30 (go_iald (j := k) d_Pat_read_29 ((gRd_n _ _ hbs).trans ((gRd_n _ _ hbl).trans ((gRd_n _ _ (Ne.symm (gNe h1 h5))).trans (h5)))) (rfl) (by omega) (by omega)) rfl ?_
    refine EvF.gop 32 (go_istore [(4, .int (g k)), (0, .ref p), (1, .ref b), (2, .int (bI z)), (3, .int (nI k))] d_Pat_read_30 (by decide) rfl) rfl ?_
    refine EvF.go (go_pick [1, 2, 3, 4, 0] [(0, .ref p), (1, .ref b), (2, .int (bI z)), (3, .int (nI k)), (4, .int (g k))] rfl) ?_
    refine EvF.gop 34 (go_iload d_Pat_read_32 4 rfl) rfl ?_
    refine EvF.gop 37 (go_callS [.int (g k)] [.int (bI (cDig (g k)))] c0_PS_isDigit sm_PS_isDigit lk_Pat_28 d_Pat_read_34 (e_PS_isDigit G _ (g k)) (by decide) rfl rfl (Nat.le_of_ble_eq_true rfl) rfl) rfl ?_
    by_cases c1 : (bI (cDig (g k))) = 0
    · have c1x : (cDig (g k)) = false := bI_0.mp c1
      refine EvF.gop 65 (go_if_eq_t 65 d_Pat_read_37 (by decide) (c1)) rfl ?_
      refine EvF.gop 66 (go_aload_n d_Pat_read_65 rfl 0 rfl) rfl ?_
      refine EvF.gop 68 (go_iload d_Pat_read_66 4 rfl) rfl ?_
      by_cases hs : n = 5 ∨ (cLet (g k) || decide (g k = 46)) = false
      · refine EvF.gop 71 (go_callV [.int (g k)] [.int 0] c0_Pat_addSign im_Pat_addSign se_Pat_addSign lk_Pat_32 d_Pat_read_68 rfl rfl ((gRd_n _ _ (gNe h1 h2)).trans ((gRd_n _ _ (gNe h1 h3)).trans (gRd_s _ _ _))) (e_Pat_addSignF G _ p ps pl n sg lv (g k) ((gRd_n _ _ (gNe h1 h2)).trans ((gRd_n _ _ (gNe h1 h3)).trans (gRd_s _ _ _))) (gRd_s _ _ _) ((gRd_n _ _ (Ne.symm hne)).trans (gRd_s _ _ _)) hne hn hs) (by decide) rfl rfl (Nat.le_of_ble_eq_true rfl) rfl) rfl ?_
        refine EvF.gop 74 (go_if_ne_f 76 d_Pat_read_71 (by decide) (by decide)) rfl ?_
        refine EvF.gop 75 (go_iconst (v := 0) d_Pat_read_74 (by decide)) rfl ?_
        rw [show rdF g (r + 1) k n sg lv z = (false, n, sg, lv) from by rw [rdF, if_neg (by rw [c1x]; decide), if_pos hs]]
        exact EvF.rz d_Pat_read_75 rfl (by decide) (rfl) (rfl)
      · have hs5 : n < 5 := by have := fun q => hs (Or.inl q); omega
        have hs6 : (cLet (g k) || decide (g k = 46)) = true := by cases hh : (cLet (g k) || decide (g k = 46)) with | true => rfl | false => exact absurd (Or.inr hh) hs
        refine EvF.gop 71 (go_callV [.int (g k)] [.int 1] c0_Pat_addSign im_Pat_addSign se_Pat_addSign lk_Pat_32 d_Pat_read_68 rfl rfl ((gRd_n _ _ (gNe h1 h2)).trans ((gRd_n _ _ (gNe h1 h3)).trans (gRd_s _ _ _))) (e_Pat_addSign G _ p ps pl n sg lv (g k) ((gRd_n _ _ (gNe h1 h2)).trans ((gRd_n _ _ (gNe h1 h3)).trans (gRd_s _ _ _))) (gRd_s _ _ _) ((gRd_n _ _ (Ne.symm hne)).trans (gRd_s _ _ _)) hne hn hs5 hs6) (by decide) rfl rfl (Nat.le_of_ble_eq_true rfl) rfl) rfl ?_
        refine EvF.go (go_m (M' := (gWr (gWr (gWr M p (.inr (4, [.ref ps, .ref pl, .int (nI (n + 1))]))) pl (aI G 6 (upd lv (n + 1) 0))) ps (aI G 5 (upd sg n (g k))))) ((congrArg (fun m => gWr m pl (aI G 6 (upd lv (n + 1) 0))) ((congrArg (fun m => gWr m p (.inr (4, [.ref ps, .ref pl, .int (nI (n + 1))]))) (gWr_wr (gWr (gWr M p (.inr (4, [.ref ps, .ref pl, .int (nI n)]))) pl (aI G 6 lv)) ps (aI G 5 sg) (aI G 5 (upd sg n (g k))))).trans ((gWr_cm (gWr (gWr M p (.inr (4, [.ref ps, .ref pl, .int (nI n)]))) pl (aI G 6 lv)) (aI G 5 (upd sg n (g k))) (.inr (4, [.ref ps, .ref pl, .int (nI (n + 1))])) (Ne.symm (gNe h1 h2))).trans (congrArg (fun m => gWr m ps (aI G 5 (upd sg n (g k)))) ((gWr_cm (gWr M p (.inr (4, [.ref ps, .ref pl, .int (nI n)]))) (aI G 6 lv) (.inr (4, [.ref ps, .ref pl, .int (nI (n + 1))])) (Ne.symm (gNe h1 h3))).trans (congrArg (fun m => gWr m pl (aI G 6 lv)) (gWr_wr M p (.inr (4, [.ref ps, .ref pl, .int (nI n)])) (.inr (4, [.ref ps, .ref pl, .int (nI (n + 1))]))))))))).trans ((gWr_cm (gWr (gWr M p (.inr (4, [.ref ps, .ref pl, .int (nI (n + 1))]))) pl (aI G 6 lv)) (aI G 5 (upd sg n (g k))) (aI G 6 (upd lv (n + 1) 0)) hne).trans (congrArg (fun m => gWr m ps (aI G 5 (upd sg n (g k)))) (gWr_wr (gWr M p (.inr (4, [.ref ps, .ref pl, .int (nI (n + 1))]))) pl (aI G 6 lv) (aI G 6 (upd lv (n + 1) 0))))))) ?_
        refine EvF.gop 76 (go_if_ne_t 76 d_Pat_read_71 (by decide) (by decide)) rfl ?_
        refine EvF.gop 77 (go_iconst (v := bI false) d_Pat_read_76 (rfl)) rfl ?_
        refine EvF.gop 78 (go_istore_n [(2, .int (bI false)), (0, .ref p), (1, .ref b), (3, .int (nI k)), (4, .int (g k))] d_Pat_read_77 rfl (by decide) rfl) rfl ?_
        refine EvF.go (go_pick [1, 2, 0, 3, 4] [(0, .ref p), (1, .ref b), (2, .int (bI false)), (3, .int (nI k)), (4, .int (g k))] rfl) ?_
        refine EvF.gop 81 (go_inc1 (n0 := 3) (x := k) [(3, .int (nI (k + 1))), (0, .ref p), (1, .ref b), (2, .int (bI false)), (4, .int (g k))] d_Pat_read_78 rfl (by decide) rfl) rfl ?_
        refine EvF.go (go_pick [1, 2, 3, 0, 4] [(0, .ref p), (1, .ref b), (2, .int (bI false)), (3, .int (nI (k + 1))), (4, .int (g k))] rfl) ?_
        refine EvF.gop 16 (go_goto 16 d_Pat_read_81 (by decide)) rfl ?_
        refine EvF.go (go_pick [0, 1, 2, 3] [(0, .ref p), (1, .ref b), (2, .int (bI false)), (3, .int (nI (k + 1)))] rfl) ?_
        rw [show rdF g (r + 1) k n sg lv z = rdF g r (k + 1) (n + 1) (upd sg n (g k)) (upd lv (n + 1) 0) false from by rw [rdF, if_neg (by rw [c1x]; decide), if_neg hs]]
        exact ih (k + 1) (n + 1) (upd sg n (g k)) (upd lv (n + 1) 0) false (by omega) (by omega)
    · have c1x : (cDig (g k)) = true := bI_n0.mp c1
      refine EvF.gop 40 (go_if_eq_f 65 d_Pat_read_37 (by decide) (c1)) rfl ?_
      refine EvF.gop 41 (go_iload_n d_Pat_read_40 rfl 2 rfl) rfl ?_
      by_cases c2 : (bI z) = 0
      · have c2x : z = false := bI_0.mp c2
        refine EvF.gop 46 (go_if_eq_t 46 d_Pat_read_41 (by decide) (c2)) rfl ?_
        refine EvF.gop 47 (go_aload_n d_Pat_read_46 rfl 0 rfl) rfl ?_
        refine EvF.gop 50 (go_get f_Pat_15 d_Pat_read_47 ((gRd_n _ _ (gNe h1 h2)).trans ((gRd_n _ _ (gNe h1 h3)).trans (gRd_s _ _ _))) rfl) rfl ?_
        refine EvF.gop 51 (go_aload_n d_Pat_read_50 rfl 0 rfl) rfl ?_
        refine EvF.gop 54 (go_get f_Pat_18 d_Pat_read_51 ((gRd_n _ _ (gNe h1 h2)).trans ((gRd_n _ _ (gNe h1 h3)).trans (gRd_s _ _ _))) rfl) rfl ?_
        refine EvF.gop 56 (go_iload d_Pat_read_54 4 rfl) rfl ?_
        refine EvF.gop 58 (go_bipush (v := 48) d_Pat_read_56 (by decide)) rfl ?_
        refine EvF.gop 59 (go_isub d_Pat_read_58) rfl ?_
        refine EvF.gop 60 (go_iast (j := n) d_Pat_read_59 ((gRd_n _ _ (Ne.symm hne)).trans (gRd_s _ _ _)) (rfl) (by omega) (by omega)) rfl ?_
        refine EvF.go (go_m (M' := (gWr (gWr (gWr M p (.inr (4, [.ref ps, .ref pl, .int (nI n)]))) pl (aI G 6 (upd lv n ((g k) - 48)))) ps (aI G 5 sg))) ((gWr_cm (gWr (gWr M p (.inr (4, [.ref ps, .ref pl, .int (nI n)]))) pl (aI G 6 lv)) (aI G 5 sg) (aI G 6 (upd lv n ((g k) - 48))) hne).trans (congrArg (fun m => gWr m ps (aI G 5 sg)) (gWr_wr (gWr M p (.inr (4, [.ref ps, .ref pl, .int (nI n)]))) pl (aI G 6 lv) (aI G 6 (upd lv n ((g k) - 48))))))) ?_
        refine EvF.gop 61 (go_iconst (v := bI true) d_Pat_read_60 (rfl)) rfl ?_
        refine EvF.gop 62 (go_istore_n [(2, .int (bI true)), (0, .ref p), (1, .ref b), (3, .int (nI k)), (4, .int (g k))] d_Pat_read_61 rfl (by decide) rfl) rfl ?_
        refine EvF.go (go_pick [1, 2, 0, 3, 4] [(0, .ref p), (1, .ref b), (2, .int (bI true)), (3, .int (nI k)), (4, .int (g k))] rfl) ?_
        refine EvF.gop 78 (go_goto 78 d_Pat_read_62 (by decide)) rfl ?_
        refine EvF.gop 81 (go_inc1 (n0 := 3) (x := k) [(3, .int (nI (k + 1))), (0, .ref p), (1, .ref b), (2, .int (bI true)), (4, .int (g k))] d_Pat_read_78 rfl (by decide) rfl) rfl ?_
        refine EvF.go (go_pick [1, 2, 3, 0, 4] [(0, .ref p), (1, .ref b), (2, .int (bI true)), (3, .int (nI (k + 1))), (4, .int (g k))] rfl) ?_
        refine EvF.gop 16 (go_goto 16 d_Pat_read_81 (by decide)) rfl ?_
        refine EvF.go (go_pick [0, 1, 2, 3] [(0, .ref p), (1, .ref b), (2, .int (bI true)), (3, .int (nI (k + 1)))] rfl) ?_
        rw [show rdF g (r + 1) k n sg lv z = rdF g r (k + 1) n sg (upd lv n (g k - 48)) true from by simp [rdF, *]]
        exact ih (k + 1) n sg (upd lv n (g k - 48)) true (by omega) (by omega)
      · have c2x : z = true := bI_n0.mp c2
        refine EvF.gop 44 (go_if_eq_f 46 d_Pat_read_41 (by decide) (c2)) rfl ?_
        refine EvF.gop 45 (go_iconst (v := 0) d_Pat_read_44 (by decide)) rfl ?_
        rw [show rdF g (r + 1) k n sg lv z = (false, n, sg, lv) from by simp [rdF, *]]
        exact EvF.rz d_Pat_read_45 rfl (by decide) (rfl) (rfl)
theorem e_Pat_read (G : gG) (M : gM) (p ps pl b br nb m : Nat) (x : Int32) (sg0 lv0 g : Nat → Int32) (h1 : gRd M p = some (.inr (4, [.ref ps, .ref pl, .int x]))) (h2 : gRd M ps = some (aI G 5 sg0)) (h3 : gRd M pl = some (aI G 6 lv0)) (h4 : gRd M b = some (.inr (0, [.ref br, .int (nI m)]))) (h5 : gRd M br = some (aI G nb g)) (hne : ps ≠ pl) (hbs : br ≠ ps) (hbl : br ≠ pl) (hm : m ≤ nb) (hnb : nb < 2 ^ 31) : Ev G 2 m_Pat_read [.ref p, .ref b] M (some (.int (bI (rdF g m 0 0 sg0 (upd lv0 0 0) false).1))) (gWr (gWr (gWr M p (.inr (4, [.ref ps, .ref pl, .int (nI ((rdF g m 0 0 sg0 (upd lv0 0 0) false).2.1))]))) pl (aI G 6 ((rdF g m 0 0 sg0 (upd lv0 0 0) false).2.2.2))) ps (aI G 5 ((rdF g m 0 0 sg0 (upd lv0 0 0) false).2.2.1))) := by
  refine Ev.of (Nat.le_of_ble_eq_true rfl) ?_
  show EvF G 2 m_Pat_read (0, [(0, .ref p), (1, .ref b)], [], M) _ _
  refine EvF.gop 1 (go_aload_n d_Pat_read_0 rfl 0 rfl) rfl ?_
  refine EvF.gop 2 (go_iconst (v := nI 0) d_Pat_read_1 (rfl)) rfl ?_
  refine EvF.gop 5 (go_put [.ref ps, .ref pl, .int (nI 0)] f_Pat_18 ft_Pat_2 d_Pat_read_2 (h1) (rfl) (rfl) (Nat.le_of_ble_eq_true rfl) rfl) rfl ?_
  refine EvF.gop 6 (go_aload_n d_Pat_read_5 rfl 0 rfl) rfl ?_
  refine EvF.gop 9 (go_get f_Pat_15 d_Pat_read_6 (gRd_s _ _ _) rfl) rfl ?_
  refine EvF.gop 10 (go_iconst (v := nI 0) d_Pat_read_9 (rfl)) rfl ?_
  refine EvF.gop 11 (go_iconst (v := 0) d_Pat_read_10 (by decide)) rfl ?_
  refine EvF.gop 12 (go_iast (j := 0) d_Pat_read_11 ((gRd_n _ _ (Ne.symm (gNe h1 h3))).trans (h3)) (rfl) (by omega) (by omega)) rfl ?_
  refine EvF.gop 13 (go_iconst (v := bI false) d_Pat_read_12 (rfl)) rfl ?_
  refine EvF.gop 14 (go_istore_n [(2, .int (bI false)), (0, .ref p), (1, .ref b)] d_Pat_read_13 rfl (by decide) rfl) rfl ?_
  refine EvF.go (go_pick [1, 2, 0] [(0, .ref p), (1, .ref b), (2, .int (bI false))] rfl) ?_
  refine EvF.gop 15 (go_iconst (v := nI 0) d_Pat_read_14 (rfl)) rfl ?_
  refine EvF.gop 16 (go_istore_n [(3, .int (nI 0)), (0, .ref p), (1, .ref b), (2, .int (bI false))] d_Pat_read_15 rfl (by decide) rfl) rfl ?_
  refine EvF.go (go_pick [1, 2, 3, 0] [(0, .ref p), (1, .ref b), (2, .int (bI false)), (3, .int (nI 0))] rfl) ?_
  refine EvF.go (go_m (M' := (gWr (gWr (gWr M p (.inr (4, [.ref ps, .ref pl, .int (nI 0)]))) pl (aI G 6 (upd lv0 0 0))) ps (aI G 5 sg0))) (gWr_id ((gRd_n _ _ hne).trans ((gRd_n _ _ (Ne.symm (gNe h1 h2))).trans (h2)))).symm) ?_
  exact g_Pat_read G M p ps pl b br nb m x sg0 lv0 g h1 h2 h3 h4 h5 hne hbs hbl hm hnb m 0 0 sg0 (upd lv0 0 0) false (by omega) (by omega)
end
section
/-- max -/
theorem e_Math_max (G : gG) (M : gM) (x y : Int32) : Ev G 0 m_Math_max [.int x, .int y] M (some (.int (if x < y then y else x))) M := by
  refine Ev.of (Nat.le_of_ble_eq_true rfl) ?_
  show EvF G 0 m_Math_max (0, [(0, .int x), (1, .int y)], [], M) _ _
  refine EvF.gop 1 (go_iload_n d_Math_max_0 rfl 0 rfl) rfl ?_
  refine EvF.gop 2 (go_iload_n d_Math_max_1 rfl 1 rfl) rfl ?_
  by_cases c1 : x < y
  · have c1x : ¬ y ≤ x := Int32.not_le.mpr c1
    refine EvF.gop 9 (go_icmp_lt_t 9 d_Math_max_2 (by decide) (c1)) rfl ?_
    refine EvF.gop 10 (go_iload_n d_Math_max_9 rfl 1 rfl) rfl ?_
    exact EvF.ri d_Math_max_10 rfl (by simp [*]) (rfl)
  · have c1x : y ≤ x := Int32.not_lt.mp c1
    refine EvF.gop 5 (go_icmp_lt_f 9 d_Math_max_2 (by decide) (c1)) rfl ?_
    refine EvF.gop 6 (go_iload_n d_Math_max_5 rfl 0 rfl) rfl ?_
    refine EvF.gop 10 (go_goto 10 d_Math_max_6 (by decide)) rfl ?_
    exact EvF.ri d_Math_max_10 rfl (by simp [*]) (rfl)
/-- abs -/
theorem e_Math_abs (G : gG) (M : gM) (x : Int32) : Ev G 0 m_Math_abs [.int x] M (some (.int (if 0 ≤ x then x else -x))) M := by
  refine Ev.of (Nat.le_of_ble_eq_true rfl) ?_
  show EvF G 0 m_Math_abs (0, [(0, .int x)], [], M) _ _
  refine EvF.gop 1 (go_iload_n d_Math_abs_0 rfl 0 rfl) rfl ?_
  by_cases c1 : 0 ≤ x
  · have c1x : ¬ x < 0 := Int32.not_lt.mpr c1
    refine EvF.gop 9 (go_if_ge_t 9 d_Math_abs_1 (by decide) (c1)) rfl ?_
    refine EvF.gop 10 (go_iload_n d_Math_abs_9 rfl 0 rfl) rfl ?_
    exact EvF.ri d_Math_abs_10 rfl (by simp [*]) (rfl)
  · have c1x : x < 0 := Int32.not_le.mp c1
    refine EvF.gop 4 (go_if_ge_f 9 d_Math_abs_1 (by decide) (c1)) rfl ?_
    refine EvF.gop 5 (go_iload_n d_Math_abs_4 rfl 0 rfl) rfl ?_
    refine EvF.gop 6 (go_ineg d_Math_abs_5) rfl ?_
    refine EvF.gop 10 (go_goto 10 d_Math_abs_6 (by decide)) rfl ?_
    exact EvF.ri d_Math_abs_10 rfl (by simp [*]) (rfl)
def fdI (x y : Int32) : Int32 := if (x ^^^ y) < 0 then (if x / y * y = x then x / y else x / y - 1) else x / y
/-- floorDiv -/
theorem e_Math_floorDiv (G : gG) (M : gM) (x y : Int32) (hy : ¬ y = 0) : Ev G 0 m_Math_floorDiv [.int x, .int y] M (some (.int (fdI x y))) M := by
  refine Ev.of (Nat.le_of_ble_eq_true rfl) ?_
  show EvF G 0 m_Math_floorDiv (0, [(0, .int x), (1, .int y)], [], M) _ _
  refine EvF.gop 1 (go_iload_n d_Math_floorDiv_0 rfl 0 rfl) rfl ?_
  refine EvF.gop 2 (go_iload_n d_Math_floorDiv_1 rfl 1 rfl) rfl ?_
  refine EvF.gop 3 (go_idiv d_Math_floorDiv_2 (hy)) rfl ?_
  refine EvF.gop 4 (go_istore_n [(2, .int (x / y)), (0, .int x), (1, .int y)] d_Math_floorDiv_3 rfl (by decide) rfl) rfl ?_
  refine EvF.go (go_pick [1, 2, 0] [(0, .int x), (1, .int y), (2, .int (x / y))] rfl) ?_
  refine EvF.gop 5 (go_iload_n d_Math_floorDiv_4 rfl 0 rfl) rfl ?_
  refine EvF.gop 6 (go_iload_n d_Math_floorDiv_5 rfl 1 rfl) rfl ?_
  refine EvF.gop 7 (go_ixor d_Math_floorDiv_6) rfl ?_
  by_cases c1 : 0 ≤ (x ^^^ y)
  · have c1x : ¬ (x ^^^ y) < 0 := Int32.not_lt.mpr c1
    refine EvF.gop 21 (go_if_ge_t 21 d_Math_floorDiv_7 (by decide) (c1)) rfl ?_
    refine EvF.gop 22 (go_iload_n d_Math_floorDiv_21 rfl 2 rfl) rfl ?_
    exact EvF.ri d_Math_floorDiv_22 rfl (by simp [fdI, *]) (rfl)
  · have c1x : (x ^^^ y) < 0 := Int32.not_le.mp c1
    refine EvF.gop 10 (go_if_ge_f 21 d_Math_floorDiv_7 (by decide) (c1)) rfl ?_
    refine EvF.gop 11 (go_iload_n d_Math_floorDiv_10 rfl 2 rfl) rfl ?_
    refine EvF.gop 12 (go_iload_n d_Math_floorDiv_11 rfl 1 rfl) rfl ?_
    refine EvF.gop 13 (go_imul d_Math_floorDiv_12) rfl ?_
    refine EvF.gop 14 (go_iload_n d_Math_floorDiv_13 rfl 0 rfl) rfl ?_
    by_cases c2 : ((x / y) * y) = x
    · refine EvF.gop 21 (go_icmp_eq_t 21 d_Math_floorDiv_14 (by decide) (c2)) rfl ?_
      refine EvF.gop 22 (go_iload_n d_Math_floorDiv_21 rfl 2 rfl) rfl ?_
      exact EvF.ri d_Math_floorDiv_22 rfl (by simp [fdI, *]) (rfl)
    · refine EvF.gop 17 (go_icmp_eq_f 21 d_Math_floorDiv_14 (by decide) (c2)) rfl ?_
      refine EvF.gop 18 (go_iload_n d_Math_floorDiv_17 rfl 2 rfl) rfl ?_
      refine EvF.gop 19 (go_iconst (v := 1) d_Math_floorDiv_18 (by decide)) rfl ?_
      refine EvF.gop 20 (go_isub d_Math_floorDiv_19) rfl ?_
      exact EvF.ri d_Math_floorDiv_20 rfl (by simp [fdI, *]) (rfl)
abbrev bS : Type := Nat × (Nat → Int32) × (Nat → Int32) × (Nat → Int32)
/-- one more break, if there is room -/
def bA (x y z : Int32) (S : bS) : Bool × bS := if S.1 = 24 then (false, S) else (true, (S.1 + 1, upd S.2.1 (S.1 + 1) x, upd S.2.2.1 (S.1 + 1) y, upd S.2.2.2 (S.1 + 1) z))
def bAt (tn : Nat) (c : Nat → Int32) (k : Nat) (S : bS) : Bool × bS :=
  if c k = 32 then bA 0 (nI k) (nI (k + 1)) S else if c k = 124 then bA 3 (nI k) (nI (k + 1)) S
  else if c k = 45 ∧ k + 1 < tn then bA 1 (nI (k + 1)) (if c (k + 1) = 32 then nI (k + 2) else nI (k + 1)) S else (true, S)
def bP (pt : Nat → Bool) (k : Nat) (S : bS) : Bool × bS := if pt k = true then bA 2 (nI k) (nI k) S else (true, S)
def bkF (tn : Nat) (c : Nat → Int32) (pt : Nat → Bool) : Nat → Nat → bS → Bool × bS
  | 0, _, S => if tn = 0 then (true, S) else bA 4 (nI tn) (nI tn) S
  | r + 1, k, S => if (bP pt k S).1 = true then (if (bAt tn c k (bP pt k S).2).1 = true then bkF tn c pt r (k + 1) (bAt tn c k (bP pt k S).2).2 else (false, (bAt tn c k (bP pt k S).2).2)) else (false, (bP pt k S).2)
theorem bA_le {x y z : Int32} {S : bS} (h : S.1 ≤ 24) : (bA x y z S).2.1 ≤ 24 := by
  unfold bA
  split
  · exact h
  · show S.1 + 1 ≤ 24
    omega
theorem bAt_le {tn k : Nat} {c : Nat → Int32} {S : bS} (h : S.1 ≤ 24) : (bAt tn c k S).2.1 ≤ 24 := by
  unfold bAt
  split
  · exact bA_le h
  · split
    · exact bA_le h
    · split
      · exact bA_le h
      · exact h
theorem bP_le {pt : Nat → Bool} {k : Nat} {S : bS} (h : S.1 ≤ 24) : (bP pt k S).2.1 ≤ 24 := by
  unfold bP
  split
  · exact bA_le h
  · exact h
def D4 (b bk be bb : Nat) : Prop := b ≠ bk ∧ b ≠ be ∧ b ≠ bb ∧ bk ≠ be ∧ bk ≠ bb ∧ be ≠ bb
/-- the memory M with the breaks S in the cells of b -/
abbrev mB (G : gG) (M : gM) (b bk be bb : Nat) (S : bS) : gM := gWr (gWr (gWr (gWr M b (.inr (6, [.ref bk, .ref be, .ref bb, .int (nI S.1)]))) bk (aI G 25 S.2.1)) be (aI G 25 S.2.2.1)) bb (aI G 25 S.2.2.2)
theorem e_Brk_add (G : gG) (M : gM) (b bk be bb : Nat) (S : bS) (x y z : Int32) (hD : D4 b bk be bb) (hn : S.1 ≤ 24) : Ev G 0 m_Brk_add [.ref b, .int x, .int y, .int z] (gWr (gWr (gWr (gWr M b (.inr (6, [.ref bk, .ref be, .ref bb, .int (nI S.1)]))) bk (aI G 25 S.2.1)) be (aI G 25 S.2.2.1)) bb (aI G 25 S.2.2.2)) (some (.int (bI (bA x y z S).1))) (gWr (gWr (gWr (gWr M b (.inr (6, [.ref bk, .ref be, .ref bb, .int (nI (bA x y z S).2.1)]))) bk (aI G 25 ((bA x y z S).2.2.1))) be (aI G 25 ((bA x y z S).2.2.2.1))) bb (aI G 25 ((bA x y z S).2.2.2.2))) := by
  refine Ev.of (Nat.le_of_ble_eq_true rfl) ?_
  show EvF G 0 m_Brk_add (0, [(0, .ref b), (1, .int x), (2, .int y), (3, .int z)], [], (gWr (gWr (gWr (gWr M b (.inr (6, [.ref bk, .ref be, .ref bb, .int (nI S.1)]))) bk (aI G 25 S.2.1)) be (aI G 25 S.2.2.1)) bb (aI G 25 S.2.2.2))) _ _
  refine EvF.gop 1 (go_aload_n d_Brk_add_0 rfl 0 rfl) rfl ?_
  refine EvF.gop 4 (go_get f_Brk_21 d_Brk_add_1 ((gRd_n _ _ hD.2.2.1).trans ((gRd_n _ _ hD.2.1).trans ((gRd_n _ _ hD.1).trans (gRd_s _ _ _)))) rfl) rfl ?_
  refine EvF.gop 6 (go_bipush (v := 24) d_Brk_add_4 (by decide)) rfl ?_
  by_cases c1 : (nI S.1) = 24
  · have c1x : S.1 = 24 := (nI_eq (a := S.1) (b := 24) (by omega) (by decide)).mp c1
    refine EvF.gop 9 (go_icmp_ne_f 11 d_Brk_add_6 (by decide) (c1)) rfl ?_
    refine EvF.gop 10 (go_iconst (v := 0) d_Brk_add_9 (by decide)) rfl ?_
    exact EvF.rz d_Brk_add_10 rfl (by decide) (by simp [bI, bA, *]) (by simp [bA, *])
  · have c1x : ¬ S.1 = 24 := fun q9 => c1 ((nI_eq (a := S.1) (b := 24) (by omega) (by decide)).mpr q9)
    refine EvF.gop 11 (go_icmp_ne_t 11 d_Brk_add_6 (by decide) (c1)) rfl ?_
    refine EvF.gop 12 (go_aload_n d_Brk_add_11 rfl 0 rfl) rfl ?_
    refine EvF.gop 13 (go_dup d_Brk_add_12 rfl) rfl ?_
    refine EvF.gop 16 (go_get f_Brk_21 d_Brk_add_13 ((gRd_n _ _ hD.2.2.1).trans ((gRd_n _ _ hD.2.1).trans ((gRd_n _ _ hD.1).trans (gRd_s _ _ _)))) rfl) rfl ?_
    refine EvF.gop 17 (go_iconst (v := 1) d_Brk_add_16 (by decide)) rfl ?_
    refine EvF.gop 18 (go_iadd d_Brk_add_17) rfl ?_
    refine EvF.go (go_v (y := nI (S.1 + 1)) (nI_1 S.1)) ?_
    refine EvF.gop 21 (go_put [.ref bk, .ref be, .ref bb, .int (nI (S.1 + 1))] f_Brk_21 ft_Brk_3 d_Brk_add_18 ((gRd_n _ _ hD.2.2.1).trans ((gRd_n _ _ hD.2.1).trans ((gRd_n _ _ hD.1).trans (gRd_s _ _ _)))) (rfl) (rfl) (Nat.le_of_ble_eq_true rfl) rfl) rfl ?_
    refine EvF.go (go_m (M' := (gWr (gWr (gWr (gWr M b (.inr (6, [.ref bk, .ref be, .ref bb, .int (nI (S.1 + 1))]))) bk (aI G 25 S.2.1)) be (aI G 25 S.2.2.1)) bb (aI G 25 S.2.2.2))) ((gWr_cm (gWr (gWr (gWr M b (.inr (6, [.ref bk, .ref be, .ref bb, .int (nI S.1)]))) bk (aI G 25 S.2.1)) be (aI G 25 S.2.2.1)) (aI G 25 S.2.2.2) (.inr (6, [.ref bk, .ref be, .ref bb, .int (nI (S.1 + 1))])) (Ne.symm hD.2.2.1)).trans (congrArg (fun m => gWr m bb (aI G 25 S.2.2.2)) ((gWr_cm (gWr (gWr M b (.inr (6, [.ref bk, .ref be, .ref bb, .int (nI S.1)]))) bk (aI G 25 S.2.1)) (aI G 25 S.2.2.1) (.inr (6, [.ref bk, .ref be, .ref bb, .int (nI (S.1 + 1))])) (Ne.symm hD.2.1)).trans (congrArg (fun m => gWr m be (aI G 25 S.2.2.1)) ((gWr_cm (gWr M b (.inr (6, [.ref bk, .ref be, .ref bb, .int (nI S.1)]))) (aI G 25 S.2.1) (.inr (6, [.ref bk, .ref be, .ref bb, .int (nI (S.1 + 1))])) (Ne.symm hD.1)).trans (congrArg (fun m => gWr m bk (aI G 25 S.2.1)) (gWr_wr M b (.inr (6, [.ref bk, .ref be, .ref bb, .int (nI S.1)])) (.inr (6, [.ref bk, .ref be, .ref bb, .int (nI (S.1 + 1))])))))))))) ?_
    refine EvF.gop 22 (go_aload_n d_Brk_add_21 rfl 0 rfl) rfl ?_
    refine EvF.gop 25 (go_get f_Brk_9 d_Brk_add_22 ((gRd_n _ _ hD.2.2.1).trans ((gRd_n _ _ hD.2.1).trans ((gRd_n _ _ hD.1).trans (gRd_s _ _ _)))) rfl) rfl ?_
    refine EvF.gop 26 (go_aload_n d_Brk_add_25 rfl 0 rfl) rfl ?_
    refine EvF.gop 29 (go_get f_Brk_21 d_Brk_add_26 ((gRd_n _ _ hD.2.2.1).trans ((gRd_n _ _ hD.2.1).trans ((gRd_n _ _ hD.1).trans (gRd_s _ _ _)))) rfl) rfl ?_
    refine EvF.gop 30 (go_iload_n d_Brk_add_29 rfl 1 rfl) rfl ?_
    refine EvF.gop 31 (go_iast (j := (S.1 + 1)) d_Brk_add_30 ((gRd_n _ _ hD.2.2.2.2.1).trans ((gRd_n _ _ hD.2.2.2.1).trans (gRd_s _ _ _))) (rfl) (by omega) (by omega)) rfl ?_
    refine EvF.go (go_m (M' := (gWr (gWr (gWr (gWr M b (.inr (6, [.ref bk, .ref be, .ref bb, .int (nI (S.1 + 1))]))) bk (aI G 25 (upd S.2.1 (S.1 + 1) x))) be (aI G 25 S.2.2.1)) bb (aI G 25 S.2.2.2))) ((gWr_cm (gWr (gWr (gWr M b (.inr (6, [.ref bk, .ref be, .ref bb, .int (nI (S.1 + 1))]))) bk (aI G 25 S.2.1)) be (aI G 25 S.2.2.1)) (aI G 25 S.2.2.2) (aI G 25 (upd S.2.1 (S.1 + 1) x)) (Ne.symm hD.2.2.2.2.1)).trans (congrArg (fun m => gWr m bb (aI G 25 S.2.2.2)) ((gWr_cm (gWr (gWr M b (.inr (6, [.ref bk, .ref be, .ref bb, .int (nI (S.1 + 1))]))) bk (aI G 25 S.2.1)) (aI G 25 S.2.2.1) (aI G 25 (upd S.2.1 (S.1 + 1) x)) (Ne.symm hD.2.2.2.1)).trans (congrArg (fun m => gWr m be (aI G 25 S.2.2.1)) (gWr_wr (gWr M b (.inr (6, [.ref bk, .ref be, .ref bb, .int (nI (S.1 + 1))]))) bk (aI G 25 S.2.1) (aI G 25 (upd S.2.1 (S.1 + 1) x)))))))) ?_
    refine EvF.gop 32 (go_aload_n d_Brk_add_31 rfl 0 rfl) rfl ?_
    refine EvF.gop 35 (go_get f_Brk_15 d_Brk_add_32 ((gRd_n _ _ hD.2.2.1).trans ((gRd_n _ _ hD.2.1).trans ((gRd_n _ _ hD.1).trans (gRd_s _ _ _)))) rfl) rfl ?_
    refine EvF.gop 36 (go_aload_n d_Brk_add_35 rfl 0 rfl) rfl ?_
    refine EvF.gop 39 (go_get f_Brk_21 d_Brk_add_36 ((gRd_n _ _ hD.2.2.1).trans ((gRd_n _ _ hD.2.1).trans ((gRd_n _ _ hD.1).trans (gRd_s _ _ _)))) rfl) rfl ?_
    refine EvF.gop 40 (go_iload_n d_Brk_add_39 rfl 2 rfl) rfl ?_
    refine EvF.gop 41 (go_iast (j := (S.1 + 1)) d_Brk_add_40 ((gRd_n _ _ hD.2.2.2.2.2).trans (gRd_s _ _ _)) (rfl) (by omega) (by omega)) rfl ?_
    refine EvF.go (go_m (M' := (gWr (gWr (gWr (gWr M b (.inr (6, [.ref bk, .ref be, .ref bb, .int (nI (S.1 + 1))]))) bk (aI G 25 (upd S.2.1 (S.1 + 1) x))) be (aI G 25 (upd S.2.2.1 (S.1 + 1) y))) bb (aI G 25 S.2.2.2))) ((gWr_cm (gWr (gWr (gWr M b (.inr (6, [.ref bk, .ref be, .ref bb, .int (nI (S.1 + 1))]))) bk (aI G 25 (upd S.2.1 (S.1 + 1) x))) be (aI G 25 S.2.2.1)) (aI G 25 S.2.2.2) (aI G 25 (upd S.2.2.1 (S.1 + 1) y)) (Ne.symm hD.2.2.2.2.2)).trans (congrArg (fun m => gWr m bb (aI G 25 S.2.2.2)) (gWr_wr (gWr (gWr M b (.inr (6, [.ref bk, .ref be, .ref bb, .int (nI (S.1 + 1))]))) bk (aI G 25 (upd S.2.1 (S.1 + 1) x))) be (aI G 25 S.2.2.1) (aI G 25 (upd S.2.2.1 (S.1 + 1) y)))))) ?_
    refine EvF.gop 42 (go_aload_n d_Brk_add_41 rfl 0 rfl) rfl ?_
    refine EvF.gop 45 (go_get f_Brk_18 d_Brk_add_42 ((gRd_n _ _ hD.2.2.1).trans ((gRd_n _ _ hD.2.1).trans ((gRd_n _ _ hD.1).trans (gRd_s _ _ _)))) rfl) rfl ?_
    refine EvF.gop 46 (go_aload_n d_Brk_add_45 rfl 0 rfl) rfl ?_
    refine EvF.gop 49 (go_get f_Brk_21 d_Brk_add_46 ((gRd_n _ _ hD.2.2.1).trans ((gRd_n _ _ hD.2.1).trans ((gRd_n _ _ hD.1).trans (gRd_s _ _ _)))) rfl) rfl ?_
    refine EvF.gop 50 (go_iload_n d_Brk_add_49 rfl 3 rfl) rfl ?_
    refine EvF.gop 51 (go_iast (j := (S.1 + 1)) d_Brk_add_50 (gRd_s _ _ _) (rfl) (by omega) (by omega)) rfl ?_
    refine EvF.go (go_m (M' := (gWr (gWr (gWr (gWr M b (.inr (6, [.ref bk, .ref be, .ref bb, .int (nI (S.1 + 1))]))) bk (aI G 25 (upd S.2.1 (S.1 + 1) x))) be (aI G 25 (upd S.2.2.1 (S.1 + 1) y))) bb (aI G 25 (upd S.2.2.2 (S.1 + 1) z)))) (gWr_wr (gWr (gWr (gWr M b (.inr (6, [.ref bk, .ref be, .ref bb, .int (nI (S.1 + 1))]))) bk (aI G 25 (upd S.2.1 (S.1 + 1) x))) be (aI G 25 (upd S.2.2.1 (S.1 + 1) y))) bb (aI G 25 S.2.2.2) (aI G 25 (upd S.2.2.2 (S.1 + 1) z)))) ?_
    refine EvF.gop 52 (go_iconst (v := 1) d_Brk_add_51 (by decide)) rfl ?_
    exact EvF.rz d_Brk_add_52 rfl (by decide) (by simp [bI, bA, *]) (by simp [bA, *])
theorem e_Brk_addAt (G : gG) (M : gM) (b bk be bb : Nat) (S : bS) (t tc ts tn : Nat) (c s : Nat → Int32) (k : Nat) (hD : D4 b bk be bb) (hn : S.1 ≤ 24) (t1 : gRd M t = some (.inr (3, [.ref tc, .ref ts, .int (nI tn)]))) (t2 : gRd M tc = some (aI G 120 c)) (t3 : gRd M ts = some (aI G 120 s)) (htn : tn ≤ 120) (hcs : tc ≠ ts) (hT : ∀ q, (q = t ∨ q = tc ∨ q = ts) → q ≠ b ∧ q ≠ bk ∧ q ≠ be ∧ q ≠ bb) (hk : k < tn) : Ev G 1 m_Brk_addAt [.ref b, .ref t, .int (nI k)] (gWr (gWr (gWr (gWr M b (.inr (6, [.ref bk, .ref be, .ref bb, .int (nI S.1)]))) bk (aI G 25 S.2.1)) be (aI G 25 S.2.2.1)) bb (aI G 25 S.2.2.2)) (some (.int (bI (bAt tn c k S).1))) (gWr (gWr (gWr (gWr M b (.inr (6, [.ref bk, .ref be, .ref bb, .int (nI (bAt tn c k S).2.1)]))) bk (aI G 25 ((bAt tn c k S).2.2.1))) be (aI G 25 ((bAt tn c k S).2.2.2.1))) bb (aI G 25 ((bAt tn c k S).2.2.2.2))) := by
  refine Ev.of (Nat.le_of_ble_eq_true rfl) ?_
  show EvF G 1 m_Brk_addAt (0, [(0, .ref b), (1, .ref t), (2, .int (nI k))], [], (gWr (gWr (gWr (gWr M b (.inr (6, [.ref bk, .ref be, .ref bb, .int (nI S.1)]))) bk (aI G 25 S.2.1)) be (aI G 25 S.2.2.1)) bb (aI G 25 S.2.2.2))) _ _
  refine EvF.gop 1 (go_aload_n d_Brk_addAt_0 rfl 1 rfl) rfl ?_
  refine EvF.gop 4 (go_get f_Brk_42 d_Brk_addAt_1 ((gRd_n _ _ ((hT _ (Or.inl rfl)).2.2.2)).trans ((gRd_n _ _ ((hT _ (Or.inl rfl)).2.2.1)).trans ((gRd_n _ _ ((hT _ (Or.inl rfl)).2.1)).trans ((gRd_n _ _ ((hT _ (Or.inl rfl)).1)).trans (t1))))) rfl) rfl ?_
  refine EvF.gop 5 (go_iload_n d_Brk_addAt_4 rfl 2 rfl) rfl ?_
  refine EvF.gop 6 (go_iald (j := k) d_Brk_addAt_5 ((gRd_n _ _ ((hT _ (Or.inr (Or.inl rfl))).2.2.2)).trans ((gRd_n _ _ ((hT _ (Or.inr (Or.inl rfl))).2.2.1)).trans ((gRd_n _ _ ((hT _ (Or.inr (Or.inl rfl))).2.1)).trans ((gRd_n _ _ ((hT _ (Or.inr (Or.inl rfl))).1)).trans (t2))))) (rfl) (by omega) (by omega)) rfl ?_
  refine EvF.gop 7 (go_istore_n [(3, .int (c k)), (0, .ref b), (1, .ref t), (2, .int (nI k))] d_Brk_addAt_6 rfl (by decide) rfl) rfl ?_
  refine EvF.go (go_pick [1, 2, 3, 0] [(0, .ref b), (1, .ref t), (2, .int (nI k)), (3, .int (c k))] rfl) ?_
  refine EvF.gop 8 (go_iload_n d_Brk_addAt_7 rfl 3 rfl) rfl ?_
  refine EvF.gop 10 (go_bipush (v := 32) d_Brk_addAt_8 (by decide)) rfl ?_
  by_cases c1 : (c k) = 32
  · refine EvF.gop 13 (go_icmp_ne_f 23 d_Brk_addAt_10 (by decide) (c1)) rfl ?_
    refine EvF.gop 14 (go_aload_n d_Brk_addAt_13 rfl 0 rfl) rfl ?_
    refine EvF.gop 15 (go_iconst (v := 0) d_Brk_addAt_14 (by decide)) rfl ?_
    refine EvF.gop 16 (go_iload_n d_Brk_addAt_15 rfl 2 rfl) rfl ?_
    refine EvF.gop 17 (go_iload_n d_Brk_addAt_16 rfl 2 rfl) rfl ?_
    refine EvF.gop 18 (go_iconst (v := 1) d_Brk_addAt_17 (by decide)) rfl ?_
    refine EvF.gop 19 (go_iadd d_Brk_addAt_18) rfl ?_
    refine EvF.go (go_v (y := nI (k + 1)) (nI_1 k)) ?_
    refine EvF.gop 22 (go_callV [.int 0, .int (nI k), .int (nI (k + 1))] [.int (bI (bA 0 (nI k) (nI (k + 1)) S).1)] c0_Brk_add im_Brk_add se_Brk_add lk_Brk_34 d_Brk_addAt_19 rfl rfl ((gRd_n _ _ hD.2.2.1).trans ((gRd_n _ _ hD.2.1).trans ((gRd_n _ _ hD.1).trans (gRd_s _ _ _)))) (e_Brk_add G M b bk be bb S 0 (nI k) (nI (k + 1)) hD hn) (by decide) rfl rfl (Nat.le_of_ble_eq_true rfl) rfl) rfl ?_
    exact EvF.rz d_Brk_addAt_22 rfl (bI_01 _) (by simp [bAt, bI, *]) (by simp [bAt, *])
  · refine EvF.gop 23 (go_icmp_ne_t 23 d_Brk_addAt_10 (by decide) (c1)) rfl ?_
    refine EvF.gop 24 (go_iload_n d_Brk_addAt_23 rfl 3 rfl) rfl ?_
    refine EvF.gop 26 (go_bipush (v := 124) d_Brk_addAt_24 (by decide)) rfl ?_
    by_cases c2 : (c k) = 124
    · refine EvF.gop 29 (go_icmp_ne_f 39 d_Brk_addAt_26 (by decide) (c2)) rfl ?_
      refine EvF.gop 30 (go_aload_n d_Brk_addAt_29 rfl 0 rfl) rfl ?_
      refine EvF.gop 31 (go_iconst (v := 3) d_Brk_addAt_30 (by decide)) rfl ?_
      refine EvF.gop 32 (go_iload_n d_Brk_addAt_31 rfl 2 rfl) rfl ?_
      refine EvF.gop 33 (go_iload_n d_Brk_addAt_32 rfl 2 rfl) rfl ?_
      refine EvF.gop 34 (go_iconst (v := 1) d_Brk_addAt_33 (by decide)) rfl ?_
      refine EvF.gop 35 (go_iadd d_Brk_addAt_34) rfl ?_
      refine EvF.go (go_v (y := nI (k + 1)) (nI_1 k)) ?_
      refine EvF.gop 38 (go_callV [.int 3, .int (nI k), .int (nI (k + 1))] [.int (bI (bA 3 (nI k) (nI (k + 1)) S).1)] c0_Brk_add im_Brk_add se_Brk_add lk_Brk_34 d_Brk_addAt_35 rfl rfl ((gRd_n _ _ hD.2.2.1).trans ((gRd_n _ _ hD.2.1).trans ((gRd_n _ _ hD.1).trans (gRd_s _ _ _)))) (e_Brk_add G M b bk be bb S 3 (nI k) (nI (k + 1)) hD hn) (by decide) rfl rfl (Nat.le_of_ble_eq_true rfl) rfl) rfl ?_
      exact EvF.rz d_Brk_addAt_38 rfl (bI_01 _) (by simp [bAt, bI, *]) (by simp [bAt, *])
    · refine EvF.gop 39 (go_icmp_ne_t 39 d_Brk_addAt_26 (by decide) (c2)) rfl ?_
      refine EvF.gop 40 (go_iload_n d_Brk_addAt_39 rfl 3 rfl) rfl ?_
      refine EvF.gop 42 (go_bipush (v := 45) d_Brk_addAt_40 (by decide)) rfl ?_
      by_cases c3 : (c k) = 45
      · refine EvF.gop 45 (go_icmp_ne_f 83 d_Brk_addAt_42 (by decide) (c3)) rfl ?_
        refine EvF.gop 46 (go_iload_n d_Brk_addAt_45 rfl 2 rfl) rfl ?_
        refine EvF.gop 47 (go_iconst (v := 1) d_Brk_addAt_46 (by decide)) rfl ?_
        refine EvF.gop 48 (go_iadd d_Brk_addAt_47) rfl ?_
        refine EvF.go (go_v (y := nI (k + 1)) (nI_1 k)) ?_
        refine EvF.gop 49 (go_aload_n d_Brk_addAt_48 rfl 1 rfl) rfl ?_
        refine EvF.gop 52 (go_get f_Brk_25 d_Brk_addAt_49 ((gRd_n _ _ ((hT _ (Or.inl rfl)).2.2.2)).trans ((gRd_n _ _ ((hT _ (Or.inl rfl)).2.2.1)).trans ((gRd_n _ _ ((hT _ (Or.inl rfl)).2.1)).trans ((gRd_n _ _ ((hT _ (Or.inl rfl)).1)).trans (t1))))) rfl) rfl ?_
        by_cases c4 : (nI tn) ≤ (nI (k + 1))
        · have c4x : tn ≤ (k + 1) := (nI_leI (a := tn) (b := (k + 1)) (by omega) (by omega)).mp c4
          have c4y : ¬ (k + 1) < tn := by omega
          refine EvF.gop 83 (go_icmp_ge_t 83 d_Brk_addAt_52 (by decide) (c4)) rfl ?_
          refine EvF.gop 84 (go_iconst (v := 1) d_Brk_addAt_83 (by decide)) rfl ?_
          exact EvF.rz d_Brk_addAt_84 rfl (by decide) (by simp [bAt, bI, *]) (by simp [bAt, *])
        · have c4x : (k + 1) < tn := Nat.lt_of_not_le (fun q9 => c4 ((nI_leI (a := tn) (b := (k + 1)) (by omega) (by omega)).mpr q9))
          have c4y : ¬ tn ≤ (k + 1) := by omega
          refine EvF.gop 55 (go_icmp_ge_f 83 d_Brk_addAt_52 (by decide) (c4)) rfl ?_
          refine EvF.gop 56 (go_aload_n d_Brk_addAt_55 rfl 0 rfl) rfl ?_
          refine EvF.gop 57 (go_iconst (v := 1) d_Brk_addAt_56 (by decide)) rfl ?_
          refine EvF.gop 58 (go_iload_n d_Brk_addAt_57 rfl 2 rfl) rfl ?_
          refine EvF.gop 59 (go_iconst (v := 1) d_Brk_addAt_58 (by decide)) rfl ?_
          refine EvF.gop 60 (go_iadd d_Brk_addAt_59) rfl ?_
          refine EvF.go (go_v (y := nI (k + 1)) (nI_1 k)) ?_
          refine EvF.gop 61 (go_aload_n d_Brk_addAt_60 rfl 1 rfl) rfl ?_
          refine EvF.gop 62 (go_iload_n d_Brk_addAt_61 rfl 2 rfl) rfl ?_
          refine EvF.gop 63 (go_iconst (v := 1) d_Brk_addAt_62 (by decide)) rfl ?_
          refine EvF.gop 64 (go_iadd d_Brk_addAt_63) rfl ?_
          refine EvF.go (go_v (y := nI (k + 1)) (nI_1 k)) ?_
          refine EvF.gop 67 (go_callV [.int (nI (k + 1))] [.int (bI (decide (k + 1 < tn) && decide (c (k + 1) = 32))), .int (nI (k + 1)), .int 1, .ref b] c0_Txt_isBlank im_Txt_isBlank se_Txt_isBlank lk_Brk_45 d_Brk_addAt_64 rfl rfl ((gRd_n _ _ ((hT _ (Or.inl rfl)).2.2.2)).trans ((gRd_n _ _ ((hT _ (Or.inl rfl)).2.2.1)).trans ((gRd_n _ _ ((hT _ (Or.inl rfl)).2.1)).trans ((gRd_n _ _ ((hT _ (Or.inl rfl)).1)).trans (t1))))) (e_Txt_isBlank G _ t tc ts tn c s (k + 1) ((gRd_n _ _ ((hT _ (Or.inl rfl)).2.2.2)).trans ((gRd_n _ _ ((hT _ (Or.inl rfl)).2.2.1)).trans ((gRd_n _ _ ((hT _ (Or.inl rfl)).2.1)).trans ((gRd_n _ _ ((hT _ (Or.inl rfl)).1)).trans (t1))))) ((gRd_n _ _ ((hT _ (Or.inr (Or.inl rfl))).2.2.2)).trans ((gRd_n _ _ ((hT _ (Or.inr (Or.inl rfl))).2.2.1)).trans ((gRd_n _ _ ((hT _ (Or.inr (Or.inl rfl))).2.1)).trans ((gRd_n _ _ ((hT _ (Or.inr (Or.inl rfl))).1)).trans (t2))))) ((gRd_n _ _ ((hT _ (Or.inr (Or.inr rfl))).2.2.2)).trans ((gRd_n _ _ ((hT _ (Or.inr (Or.inr rfl))).2.2.1)).trans ((gRd_n _ _ ((hT _ (Or.inr (Or.inr rfl))).2.1)).trans ((gRd_n _ _ ((hT _ (Or.inr (Or.inr rfl))).1)).trans (t3))))) hcs htn (by omega)) (by decide) rfl rfl (Nat.le_of_ble_eq_true rfl) rfl) rfl ?_
          by_cases c5 : (bI (decide (k + 1 < tn) && decide (c (k + 1) = 32))) = 0
          · have c5x : (decide (k + 1 < tn) && decide (c (k + 1) = 32)) = false := bI_0.mp c5
            refine EvF.gop 76 (go_if_eq_t 76 d_Brk_addAt_67 (by decide) (c5)) rfl ?_
            refine EvF.gop 77 (go_iload_n d_Brk_addAt_76 rfl 2 rfl) rfl ?_
            refine EvF.gop 78 (go_iconst (v := 1) d_Brk_addAt_77 (by decide)) rfl ?_
            refine EvF.gop 79 (go_iadd d_Brk_addAt_78) rfl ?_
            refine EvF.go (go_v (y := nI (k + 1)) (nI_1 k)) ?_
            refine EvF.gop 82 (go_callV [.int 1, .int (nI (k + 1)), .int (nI (k + 1))] [.int (bI (bA 1 (nI (k + 1)) (nI (k + 1)) S).1)] c0_Brk_add im_Brk_add se_Brk_add lk_Brk_34 d_Brk_addAt_79 rfl rfl ((gRd_n _ _ hD.2.2.1).trans ((gRd_n _ _ hD.2.1).trans ((gRd_n _ _ hD.1).trans (gRd_s _ _ _)))) (e_Brk_add G M b bk be bb S 1 (nI (k + 1)) (nI (k + 1)) hD hn) (by decide) rfl rfl (Nat.le_of_ble_eq_true rfl) rfl) rfl ?_
            exact EvF.rz d_Brk_addAt_82 rfl (bI_01 _) (by have c6 : ¬ c (k + 1) = 32 := (by simpa [c4x] using c5x); simp [bAt, bI, *]) (by have c6 : ¬ c (k + 1) = 32 := (by simpa [c4x] using c5x); simp [bAt, *])
          · have c5x : (decide (k + 1 < tn) && decide (c (k + 1) = 32)) = true := bI_n0.mp c5
            refine EvF.gop 70 (go_if_eq_f 76 d_Brk_addAt_67 (by decide) (c5)) rfl ?_
            refine EvF.gop 71 (go_iload_n d_Brk_addAt_70 rfl 2 rfl) rfl ?_
            refine EvF.gop 72 (go_iconst (v := 2) d_Brk_addAt_71 (by decide)) rfl ?_
            refine EvF.gop 73 (go_iadd d_Brk_addAt_72) rfl ?_
            refine EvF.go (go_v (y := nI (k + 2)) (nI_add k 2)) ?_
            refine EvF.gop 79 (go_goto 79 d_Brk_addAt_73 (by decide)) rfl ?_
            refine EvF.gop 82 (go_callV [.int 1, .int (nI (k + 1)), .int (nI (k + 2))] [.int (bI (bA 1 (nI (k + 1)) (nI (k + 2)) S).1)] c0_Brk_add im_Brk_add se_Brk_add lk_Brk_34 d_Brk_addAt_79 rfl rfl ((gRd_n _ _ hD.2.2.1).trans ((gRd_n _ _ hD.2.1).trans ((gRd_n _ _ hD.1).trans (gRd_s _ _ _)))) (e_Brk_add G M b bk be bb S 1 (nI (k + 1)) (nI (k + 2)) hD hn) (by decide) rfl rfl (Nat.le_of_ble_eq_true rfl) rfl) rfl ?_
            exact EvF.rz d_Brk_addAt_82 rfl (bI_01 _) (by have c6 : c (k + 1) = 32 := (by simpa [c4x] using c5x); simp [bAt, bI, *]) (by have c6 : c (k + 1) = 32 := (by simpa [c4x] using c5x); simp [bAt, *])
      · refine EvF.gop 83 (go_icmp_ne_t 83 d_Brk_addAt_42 (by decide) (c3)) rfl ?_
        refine EvF.gop 84 (go_iconst (v := 1) d_Brk_addAt_83 (by decide)) rfl ?_
        exact EvF.rz d_Brk_addAt_84 rfl (by decide) (by simp [bAt, bI, *]) (by simp [bAt, *])
def cnt2 (f : Nat → Int32) : Nat → Nat
  | 0 => 0
  | k + 1 => cnt2 f k + (if f (k + 1) = 2 then 1 else 0)
theorem cnt2_le (f : Nat → Int32) : ∀ k, cnt2 f k ≤ k
  | 0 => Nat.le_refl 0
  | k + 1 => by
    have := cnt2_le f k
    show cnt2 f k + _ ≤ k + 1
    split <;> omega
theorem g_Brk_points (G : gG) (M : gM) (b bk be bb n : Nat) (f : Nat → Int32) (h1 : gRd M b = some (.inr (6, [.ref bk, .ref be, .ref bb, .int (nI n)]))) (h2 : gRd M bk = some (aI G 25 f)) (hn : n ≤ 24) : ∀ r k : Nat, k + r = n → Go G m_Brk_points 0 (4, [(0, .ref b), (1, .int (nI (cnt2 f k))), (2, .int (nI (k + 1)))], [], M) (31, [(0, .ref b), (1, .int (nI (cnt2 f n))), (2, .int (nI (n + 1)))], [], M) := by
  intro r
  induction r with
  | zero =>
    intro k hk
    rw [show k = n from by omega]
    refine Go.trp 5 (go_iload_n d_Brk_points_4 rfl 2 rfl) rfl ?_
    refine Go.trp 6 (go_aload_n d_Brk_points_5 rfl 0 rfl) rfl ?_
    refine Go.trp 9 (go_get f_Brk_21 d_Brk_points_6 (h1) rfl) rfl ?_
    refine Go.trp 31 (go_icmp_gt_t 31 d_Brk_points_9 (by decide) (nI_lt (by omega) (by omega))) rfl ?_
    exact Go.rf
  | succ r ih =>
    intro k hk
    have ih9 := ih (k + 1) (by omega)
    refine Go.trp 5 (go_iload_n d_Brk_points_4 rfl 2 rfl) rfl ?_
    refine Go.trp 6 (go_aload_n d_Brk_points_5 rfl 0 rfl) rfl ?_
    refine Go.trp 9 (go_get f_Brk_21 d_Brk_points_6 (h1) rfl) rfl ?_
    refine Go.trp 12 (go_icmp_gt_f 31 d_Brk_points_9 (by decide) (nI_nlt (by omega) (by omega))) rfl ?_
    refine Go.trp 13 (go_aload_n d_Brk_points_12 rfl 0 rfl) rfl ?_
    refine Go.trp 16 (go_get f_Brk_9 d_Brk_points_13 (h1) rfl) rfl ?_
    refine Go.trp 17 (go_iload_n d_Brk_points_16 rfl 2 rfl) rfl ?_
    refine Go.trp 18 (go_iald (j := (k + 1)) d_Brk_points_17 (h2) (rfl) (by omega) (by omega)) rfl ?_
    refine Go.trp 19 (go_iconst (v := 2) d_Brk_points_18 (by decide)) rfl ?_
    by_cases c1 : (f (k + 1)) = 2
    · refine Go.trp 22 (go_icmp_ne_f 25 d_Brk_points_19 (by decide) (c1)) rfl ?_
      refine Go.trp 25 (go_inc1 (n0 := 1) (x := (cnt2 f k)) [(1, .int (nI ((cnt2 f k) + 1))), (0, .ref b), (2, .int (nI (k + 1)))] d_Brk_points_22 rfl (by decide) rfl) rfl ?_
      refine (go_pick [1, 0, 2] [(0, .ref b), (1, .int (nI ((cnt2 f k) + 1))), (2, .int (nI (k + 1)))] rfl).tr ?_
      refine Go.trp 28 (go_inc1 (n0 := 2) (x := (k + 1)) [(2, .int (nI ((k + 1) + 1))), (0, .ref b), (1, .int (nI ((cnt2 f k) + 1)))] d_Brk_points_25 rfl (by decide) rfl) rfl ?_
      refine (go_pick [1, 2, 0] [(0, .ref b), (1, .int (nI ((cnt2 f k) + 1))), (2, .int (nI ((k + 1) + 1)))] rfl).tr ?_
      refine Go.trp 4 (go_goto 4 d_Brk_points_28 (by decide)) rfl ?_
      rw [show cnt2 f (k + 1) = cnt2 f k + 1 from by simp [cnt2, *]] at ih9
      exact ih9
    · refine Go.trp 25 (go_icmp_ne_t 25 d_Brk_points_19 (by decide) (c1)) rfl ?_
      refine Go.trp 28 (go_inc1 (n0 := 2) (x := (k + 1)) [(2, .int (nI ((k + 1) + 1))), (0, .ref b), (1, .int (nI (cnt2 f k)))] d_Brk_points_25 rfl (by decide) rfl) rfl ?_
      refine (go_pick [1, 2, 0] [(0, .ref b), (1, .int (nI (cnt2 f k))), (2, .int (nI ((k + 1) + 1)))] rfl).tr ?_
      refine Go.trp 4 (go_goto 4 d_Brk_points_28 (by decide)) rfl ?_
      rw [show cnt2 f (k + 1) = cnt2 f k from by simp [cnt2, *]] at ih9
      exact ih9
theorem e_Brk_points (G : gG) (M : gM) (b bk be bb n : Nat) (f : Nat → Int32) (h1 : gRd M b = some (.inr (6, [.ref bk, .ref be, .ref bb, .int (nI n)]))) (h2 : gRd M bk = some (aI G 25 f)) (hn : n ≤ 24) : Ev G 0 m_Brk_points [.ref b] M (some (.int (nI (cnt2 f n)))) M := by
  refine Ev.of (Nat.le_of_ble_eq_true rfl) ?_
  show EvF G 0 m_Brk_points (0, [(0, .ref b)], [], M) _ _
  refine EvF.gop 1 (go_iconst (v := nI (cnt2 f 0)) d_Brk_points_0 (rfl)) rfl ?_
  refine EvF.gop 2 (go_istore_n [(1, .int (nI (cnt2 f 0))), (0, .ref b)] d_Brk_points_1 rfl (by decide) rfl) rfl ?_
  refine EvF.go (go_pick [1, 0] [(0, .ref b), (1, .int (nI (cnt2 f 0)))] rfl) ?_
  refine EvF.gop 3 (go_iconst (v := nI (0 + 1)) d_Brk_points_2 (rfl)) rfl ?_
  refine EvF.gop 4 (go_istore_n [(2, .int (nI (0 + 1))), (0, .ref b), (1, .int (nI (cnt2 f 0)))] d_Brk_points_3 rfl (by decide) rfl) rfl ?_
  refine EvF.go (go_pick [1, 2, 0] [(0, .ref b), (1, .int (nI (cnt2 f 0))), (2, .int (nI (0 + 1)))] rfl) ?_
  refine EvF.go (g_Brk_points G M b bk be bb n f h1 h2 hn n 0 (by omega)) ?_
  refine EvF.gop 32 (go_iload_n d_Brk_points_31 rfl 1 rfl) rfl ?_
  exact EvF.ri d_Brk_points_32 rfl rfl rfl
end
section
def ptL (f : Nat → Int32) (k : Nat) : Bool := decide (f k - f k / 2 * 2 = 1)
/-- isPoint -/
theorem e_Hyp_isPoint (G : gG) (M : gM) (h hp hl : Nat) (hs : Int32) (fl : Nat → Int32) (k : Nat) (u1 : gRd M h = some (.inr (5, [.ref hp, .int hs, .ref hl]))) (u2 : gRd M hl = some (aI G 121 fl)) (hk : k < 121) : Ev G 0 m_Hyp_isPoint [.ref h, .int (nI k)] M (some (.int (bI (ptL fl k)))) M := by
  refine Ev.of (Nat.le_of_ble_eq_true rfl) ?_
  show EvF G 0 m_Hyp_isPoint (0, [(0, .ref h), (1, .int (nI k))], [], M) _ _
  refine EvF.gop 1 (go_aload_n d_Hyp_isPoint_0 rfl 0 rfl) rfl ?_
  refine EvF.gop 4 (go_get f_Hyp_21 d_Hyp_isPoint_1 (u1) rfl) rfl ?_
  refine EvF.gop 5 (go_iload_n d_Hyp_isPoint_4 rfl 1 rfl) rfl ?_
  refine EvF.gop 6 (go_iald (j := k) d_Hyp_isPoint_5 (u2) (rfl) (hk) (by omega)) rfl ?_
  refine EvF.gop 7 (go_iconst (v := 2) d_Hyp_isPoint_6 (by decide)) rfl ?_
  refine EvF.gop 8 (go_irem d_Hyp_isPoint_7 (by decide)) rfl ?_
  refine EvF.gop 9 (go_iconst (v := 1) d_Hyp_isPoint_8 (by decide)) rfl ?_
  by_cases c1 : ((fl k) - (fl k) / 2 * 2) = 1
  · refine EvF.gop 12 (go_icmp_ne_f 16 d_Hyp_isPoint_9 (by decide) (c1)) rfl ?_
    refine EvF.gop 13 (go_iconst (v := 1) d_Hyp_isPoint_12 (by decide)) rfl ?_
    refine EvF.gop 17 (go_goto 17 d_Hyp_isPoint_13 (by decide)) rfl ?_
    exact EvF.rz d_Hyp_isPoint_17 rfl (by decide) (by simp [bI, ptL, *]) (rfl)
  · refine EvF.gop 16 (go_icmp_ne_t 16 d_Hyp_isPoint_9 (by decide) (c1)) rfl ?_
    refine EvF.gop 17 (go_iconst (v := 0) d_Hyp_isPoint_16 (by decide)) rfl ?_
    exact EvF.rz d_Hyp_isPoint_17 rfl (by decide) (by simp [bI, ptL, *]) (rfl)
theorem g_Brk_find (G : gG) (M : gM) (b bk be bb : Nat) (t tc ts tn : Nat) (c s : Nat → Int32) (h hp hl : Nat) (hs : Int32) (fl : Nat → Int32) (hD : D4 b bk be bb) (t1 : gRd M t = some (.inr (3, [.ref tc, .ref ts, .int (nI tn)]))) (t2 : gRd M tc = some (aI G 120 c)) (t3 : gRd M ts = some (aI G 120 s)) (htn : tn ≤ 120) (hcs : tc ≠ ts) (hT : ∀ q, (q = t ∨ q = tc ∨ q = ts) → q ≠ b ∧ q ≠ bk ∧ q ≠ be ∧ q ≠ bb) (u1 : gRd M h = some (.inr (5, [.ref hp, .int hs, .ref hl]))) (u2 : gRd M hl = some (aI G 121 fl)) (hU : ∀ q, (q = h ∨ q = hl) → q ≠ b ∧ q ≠ bk ∧ q ≠ be ∧ q ≠ bb) : ∀ (r k : Nat) (S : bS), k + r = tn → S.1 ≤ 24 → EvF G 2 m_Brk_find (28, [(0, .ref b), (1, .ref t), (2, .ref h), (3, .int (nI k))], [], (gWr (gWr (gWr (gWr M b (.inr (6, [.ref bk, .ref be, .ref bb, .int (nI S.1)]))) bk (aI G 25 S.2.1)) be (aI G 25 S.2.2.1)) bb (aI G 25 S.2.2.2))) (some (.int (bI (bkF tn c (ptL fl) r k S).1))) (gWr (gWr (gWr (gWr M b (.inr (6, [.ref bk, .ref be, .ref bb, .int (nI (bkF tn c (ptL fl) r k S).2.1)]))) bk (aI G 25 ((bkF tn c (ptL fl) r k S).2.2.1))) be (aI G 25 ((bkF tn c (ptL fl) r k S).2.2.2.1))) bb (aI G 25 ((bkF tn c (ptL fl) r k S).2.2.2.2))) := by
  intro r
  induction r with
  | zero =>
    intro k S hk hn
    refine EvF.gop 29 (go_iload_n d_Brk_find_28 rfl 3 rfl) rfl ?_
    refine EvF.gop 30 (go_aload_n d_Brk_find_29 rfl 1 rfl) rfl ?_
    refine EvF.gop 33 (go_get f_Brk_25 d_Brk_find_30 ((gRd_n _ _ ((hT _ (Or.inl rfl)).2.2.2)).trans ((gRd_n _ _ ((hT _ (Or.inl rfl)).2.2.1)).trans ((gRd_n _ _ ((hT _ (Or.inl rfl)).2.1)).trans ((gRd_n _ _ ((hT _ (Or.inl rfl)).1)).trans (t1))))) rfl) rfl ?_
    refine EvF.gop 71 (go_icmp_ge_t 71 d_Brk_find_33 (by decide) (nI_le (by omega) (by omega))) rfl ?_
    refine EvF.gop 72 (go_aload_n d_Brk_find_71 rfl 1 rfl) rfl ?_
    refine EvF.gop 75 (go_get f_Brk_25 d_Brk_find_72 ((gRd_n _ _ ((hT _ (Or.inl rfl)).2.2.2)).trans ((gRd_n _ _ ((hT _ (Or.inl rfl)).2.2.1)).trans ((gRd_n _ _ ((hT _ (Or.inl rfl)).2.1)).trans ((gRd_n _ _ ((hT _ (Or.inl rfl)).1)).trans (t1))))) rfl) rfl ?_
    by_cases c1 : (nI tn) = 0
    · have c1x : tn = 0 := (nI_eq (a := tn) (b := 0) (by omega) (by decide)).mp c1
      refine EvF.gop 94 (go_if_eq_t 94 d_Brk_find_75 (by decide) (c1)) rfl ?_
      refine EvF.gop 95 (go_iconst (v := 1) d_Brk_find_94 (by decide)) rfl ?_
      refine EvF.gop 99 (go_goto 99 d_Brk_find_95 (by decide)) rfl ?_
      exact EvF.rz d_Brk_find_99 rfl (by decide) (by simp [bI, bkF, *]) (by simp [bkF, *])
    · have c1x : ¬ tn = 0 := fun q9 => c1 ((nI_eq (a := tn) (b := 0) (by omega) (by decide)).mpr q9)
      refine EvF.gop 78 (go_if_eq_f 94 d_Brk_find_75 (by decide) (c1)) rfl ?_
      refine EvF.gop 79 (go_aload_n d_Brk_find_78 rfl 0 rfl) rfl ?_
      refine EvF.gop 80 (go_iconst (v := 4) d_Brk_find_79 (by decide)) rfl ?_
      refine EvF.gop 81 (go_aload_n d_Brk_find_80 rfl 1 rfl) rfl ?_
      refine EvF.gop 84 (go_get f_Brk_25 d_Brk_find_81 ((gRd_n _ _ ((hT _ (Or.inl rfl)).2.2.2)).trans ((gRd_n _ _ ((hT _ (Or.inl rfl)).2.2.1)).trans ((gRd_n _ _ ((hT _ (Or.inl rfl)).2.1)).trans ((gRd_n _ _ ((hT _ (Or.inl rfl)).1)).trans (t1))))) rfl) rfl ?_
      refine EvF.gop 85 (go_aload_n d_Brk_find_84 rfl 1 rfl) rfl ?_
      refine EvF.gop 88 (go_get f_Brk_25 d_Brk_find_85 ((gRd_n _ _ ((hT _ (Or.inl rfl)).2.2.2)).trans ((gRd_n _ _ ((hT _ (Or.inl rfl)).2.2.1)).trans ((gRd_n _ _ ((hT _ (Or.inl rfl)).2.1)).trans ((gRd_n _ _ ((hT _ (Or.inl rfl)).1)).trans (t1))))) rfl) rfl ?_
      refine EvF.gop 91 (go_callV [.int 4, .int (nI tn), .int (nI tn)] [.int (bI (bA 4 (nI tn) (nI tn) S).1)] c0_Brk_add im_Brk_add se_Brk_add lk_Brk_34 d_Brk_find_88 rfl rfl ((gRd_n _ _ hD.2.2.1).trans ((gRd_n _ _ hD.2.1).trans ((gRd_n _ _ hD.1).trans (gRd_s _ _ _)))) (e_Brk_add G M b bk be bb S 4 (nI tn) (nI tn) hD hn) (by decide) rfl rfl (Nat.le_of_ble_eq_true rfl) rfl) rfl ?_
      by_cases c2 : (bI (bA 4 (nI tn) (nI tn) S).1) = 0
      · have c2x : (bA 4 (nI tn) (nI tn) S).1 = false := bI_0.mp c2
        refine EvF.gop 98 (go_if_eq_t 98 d_Brk_find_91 (by decide) (c2)) rfl ?_
        refine EvF.gop 99 (go_iconst (v := 0) d_Brk_find_98 (by decide)) rfl ?_
        exact EvF.rz d_Brk_find_99 rfl (by decide) (by simp [bI, bkF, *]) (by simp [bkF, *])
      · have c2x : (bA 4 (nI tn) (nI tn) S).1 = true := bI_n0.mp c2
        refine EvF.gop 94 (go_if_eq_f 98 d_Brk_find_91 (by decide) (c2)) rfl ?_
        refine EvF.gop 95 (go_iconst (v := 1) d_Brk_find_94 (by decide)) rfl ?_
        refine EvF.gop 99 (go_goto 99 d_Brk_find_95 (by decide)) rfl ?_
        exact EvF.rz d_Brk_find_99 rfl (by decide) (by simp [bI, bkF, *]) (by simp [bkF, *])
  | succ r ih =>
    intro k S hk hn
    refine EvF.gop 29 (go_iload_n d_Brk_find_28 rfl 3 rfl) rfl ?_
    refine EvF.gop 30 (go_aload_n d_Brk_find_29 rfl 1 rfl) rfl ?_
    refine EvF.gop 33 (go_get f_Brk_25 d_Brk_find_30 ((gRd_n _ _ ((hT _ (Or.inl rfl)).2.2.2)).trans ((gRd_n _ _ ((hT _ (Or.inl rfl)).2.2.1)).trans ((gRd_n _ _ ((hT _ (Or.inl rfl)).2.1)).trans ((gRd_n _ _ ((hT _ (Or.inl rfl)).1)).trans (t1))))) rfl) rfl ?_
    refine EvF.gop 36 (go_icmp_ge_f 71 d_Brk_find_33 (by decide) (nI_ge (by omega) (by omega))) rfl ?_
    refine EvF.gop 37 (go_aload_n d_Brk_find_36 rfl 2 rfl) rfl ?_
    refine EvF.gop 38 (go_iload_n d_Brk_find_37 rfl 3 rfl) rfl ?_
    refine EvF.gop 41 (go_callV [.int (nI k)] [.int (bI (ptL fl k))] c0_Hyp_isPoint im_Hyp_isPoint se_Hyp_isPoint lk_Brk_28 d_Brk_find_38 rfl rfl ((gRd_n _ _ ((hU _ (Or.inl rfl)).2.2.2)).trans ((gRd_n _ _ ((hU _ (Or.inl rfl)).2.2.1)).trans ((gRd_n _ _ ((hU _ (Or.inl rfl)).2.1)).trans ((gRd_n _ _ ((hU _ (Or.inl rfl)).1)).trans (u1))))) (e_Hyp_isPoint G _ h hp hl hs fl k ((gRd_n _ _ ((hU _ (Or.inl rfl)).2.2.2)).trans ((gRd_n _ _ ((hU _ (Or.inl rfl)).2.2.1)).trans ((gRd_n _ _ ((hU _ (Or.inl rfl)).2.1)).trans ((gRd_n _ _ ((hU _ (Or.inl rfl)).1)).trans (u1))))) ((gRd_n _ _ ((hU _ (Or.inr rfl)).2.2.2)).trans ((gRd_n _ _ ((hU _ (Or.inr rfl)).2.2.1)).trans ((gRd_n _ _ ((hU _ (Or.inr rfl)).2.1)).trans ((gRd_n _ _ ((hU _ (Or.inr rfl)).1)).trans (u2))))) (by omega)) (by decide) rfl rfl (Nat.le_of_ble_eq_true rfl) rfl) rfl ?_
    by_cases c1 : (bI (ptL fl k)) = 0
    · have c1x : (ptL fl k) = false := bI_0.mp c1
      refine EvF.gop 54 (go_if_eq_t 54 d_Brk_find_41 (by decide) (c1)) rfl ?_
      refine EvF.gop 55 (go_aload_n d_Brk_find_54 rfl 0 rfl) rfl ?_
      refine EvF.gop 56 (go_aload_n d_Brk_find_55 rfl 1 rfl) rfl ?_
      refine EvF.gop 57 (go_iload_n d_Brk_find_56 rfl 3 rfl) rfl ?_
      refine EvF.gop 60 (go_callV [.ref t, .int (nI k)] [.int (bI (bAt tn c k S).1)] c0_Brk_addAt im_Brk_addAt se_Brk_addAt lk_Brk_38 d_Brk_find_57 rfl rfl ((gRd_n _ _ hD.2.2.1).trans ((gRd_n _ _ hD.2.1).trans ((gRd_n _ _ hD.1).trans (gRd_s _ _ _)))) (e_Brk_addAt G M b bk be bb S t tc ts tn c s k hD hn t1 t2 t3 htn hcs hT (by omega)) (by decide) rfl rfl (Nat.le_of_ble_eq_true rfl) rfl) rfl ?_
      by_cases c2 : (bI (bAt tn c k S).1) = 0
      · have c2x : (bAt tn c k S).1 = false := bI_0.mp c2
        refine EvF.gop 63 (go_if_ne_f 65 d_Brk_find_60 (by decide) (c2)) rfl ?_
        refine EvF.gop 64 (go_iconst (v := 0) d_Brk_find_63 (by decide)) rfl ?_
        have e1 : bP (ptL fl) k S = (true, S) := by simp [bP, *]
        rw [show bkF tn c (ptL fl) (r + 1) k S = (false, (bAt tn c k S).2) from by rw [bkF, e1]; simp [*]]
        exact EvF.rz d_Brk_find_64 rfl (by decide) (rfl) (rfl)
      · have c2x : (bAt tn c k S).1 = true := bI_n0.mp c2
        refine EvF.gop 65 (go_if_ne_t 65 d_Brk_find_60 (by decide) (c2)) rfl ?_
        refine EvF.gop 68 (go_inc1 (n0 := 3) (x := k) [(3, .int (nI (k + 1))), (0, .ref b), (1, .ref t), (2, .ref h)] d_Brk_find_65 rfl (by decide) rfl) rfl ?_
        refine EvF.go (go_pick [1, 2, 3, 0] [(0, .ref b), (1, .ref t), (2, .ref h), (3, .int (nI (k + 1)))] rfl) ?_
        refine EvF.gop 28 (go_goto 28 d_Brk_find_68 (by decide)) rfl ?_
        have e1 : bP (ptL fl) k S = (true, S) := by simp [bP, *]
        rw [show bkF tn c (ptL fl) (r + 1) k S = bkF tn c (ptL fl) r (k + 1) (bAt tn c k S).2 from by rw [bkF, e1]; simp [*]]
        exact ih (k + 1) _ (by omega) (bAt_le hn)
    · have c1x : (ptL fl k) = true := bI_n0.mp c1
      refine EvF.gop 44 (go_if_eq_f 54 d_Brk_find_41 (by decide) (c1)) rfl ?_
      refine EvF.gop 45 (go_aload_n d_Brk_find_44 rfl 0 rfl) rfl ?_
      refine EvF.gop 46 (go_iconst (v := 2) d_Brk_find_45 (by decide)) rfl ?_
      refine EvF.gop 47 (go_iload_n d_Brk_find_46 rfl 3 rfl) rfl ?_
      refine EvF.gop 48 (go_iload_n d_Brk_find_47 rfl 3 rfl) rfl ?_
      refine EvF.gop 51 (go_callV [.int 2, .int (nI k), .int (nI k)] [.int (bI (bA 2 (nI k) (nI k) S).1)] c0_Brk_add im_Brk_add se_Brk_add lk_Brk_34 d_Brk_find_48 rfl rfl ((gRd_n _ _ hD.2.2.1).trans ((gRd_n _ _ hD.2.1).trans ((gRd_n _ _ hD.1).trans (gRd_s _ _ _)))) (e_Brk_add G M b bk be bb S 2 (nI k) (nI k) hD hn) (by decide) rfl rfl (Nat.le_of_ble_eq_true rfl) rfl) rfl ?_
      by_cases c3 : (bI (bA 2 (nI k) (nI k) S).1) = 0
      · have c3x : (bA 2 (nI k) (nI k) S).1 = false := bI_0.mp c3
        refine EvF.gop 63 (go_if_eq_t 63 d_Brk_find_51 (by decide) (c3)) rfl ?_
        refine EvF.gop 64 (go_iconst (v := 0) d_Brk_find_63 (by decide)) rfl ?_
        have e1 : bP (ptL fl) k S = (bA 2 (nI k) (nI k) S) := by simp [bP, *]
        rw [show bkF tn c (ptL fl) (r + 1) k S = (false, (bA 2 (nI k) (nI k) S).2) from by rw [bkF, e1]; simp [*]]
        exact EvF.rz d_Brk_find_64 rfl (by decide) (rfl) (rfl)
      · have c3x : (bA 2 (nI k) (nI k) S).1 = true := bI_n0.mp c3
        refine EvF.gop 54 (go_if_eq_f 63 d_Brk_find_51 (by decide) (c3)) rfl ?_
        refine EvF.gop 55 (go_aload_n d_Brk_find_54 rfl 0 rfl) rfl ?_
        refine EvF.gop 56 (go_aload_n d_Brk_find_55 rfl 1 rfl) rfl ?_
        refine EvF.gop 57 (go_iload_n d_Brk_find_56 rfl 3 rfl) rfl ?_
        refine EvF.gop 60 (go_callV [.ref t, .int (nI k)] [.int (bI (bAt tn c k ((bA 2 (nI k) (nI k) S).2)).1)] c0_Brk_addAt im_Brk_addAt se_Brk_addAt lk_Brk_38 d_Brk_find_57 rfl rfl ((gRd_n _ _ hD.2.2.1).trans ((gRd_n _ _ hD.2.1).trans ((gRd_n _ _ hD.1).trans (gRd_s _ _ _)))) (e_Brk_addAt G M b bk be bb ((bA 2 (nI k) (nI k) S).2) t tc ts tn c s k hD (bA_le hn) t1 t2 t3 htn hcs hT (by omega)) (by decide) rfl rfl (Nat.le_of_ble_eq_true rfl) rfl) rfl ?_
        by_cases c4 : (bI (bAt tn c k ((bA 2 (nI k) (nI k) S).2)).1) = 0
        · have c4x : (bAt tn c k ((bA 2 (nI k) (nI k) S).2)).1 = false := bI_0.mp c4
          refine EvF.gop 63 (go_if_ne_f 65 d_Brk_find_60 (by decide) (c4)) rfl ?_
          refine EvF.gop 64 (go_iconst (v := 0) d_Brk_find_63 (by decide)) rfl ?_
          have e1 : bP (ptL fl) k S = (bA 2 (nI k) (nI k) S) := by simp [bP, *]
          rw [show bkF tn c (ptL fl) (r + 1) k S = (false, (bAt tn c k ((bA 2 (nI k) (nI k) S).2)).2) from by rw [bkF, e1]; simp [*]]
          exact EvF.rz d_Brk_find_64 rfl (by decide) (rfl) (rfl)
        · have c4x : (bAt tn c k ((bA 2 (nI k) (nI k) S).2)).1 = true := bI_n0.mp c4
          refine EvF.gop 65 (go_if_ne_t 65 d_Brk_find_60 (by decide) (c4)) rfl ?_
          refine EvF.gop 68 (go_inc1 (n0 := 3) (x := k) [(3, .int (nI (k + 1))), (0, .ref b), (1, .ref t), (2, .ref h)] d_Brk_find_65 rfl (by decide) rfl) rfl ?_
          refine EvF.go (go_pick [1, 2, 3, 0] [(0, .ref b), (1, .ref t), (2, .ref h), (3, .int (nI (k + 1)))] rfl) ?_
          refine EvF.gop 28 (go_goto 28 d_Brk_find_68 (by decide)) rfl ?_
          have e1 : bP (ptL fl) k S = (bA 2 (nI k) (nI k) S) := by simp [bP, *]
          rw [show bkF tn c (ptL fl) (r + 1) k S = bkF tn c (ptL fl) r (k + 1) (bAt tn c k ((bA 2 (nI k) (nI k) S).2)).2 from by rw [bkF, e1]; simp [*]]
          exact ih (k + 1) _ (by omega) (bAt_le (bA_le hn))
theorem e_Brk_find (G : gG) (M : gM) (b bk be bb : Nat) (t tc ts tn : Nat) (c s : Nat → Int32) (h hp hl : Nat) (hs : Int32) (fl : Nat → Int32) (x : Int32) (K E B : Nat → Int32) (hD : D4 b bk be bb) (t1 : gRd M t = some (.inr (3, [.ref tc, .ref ts, .int (nI tn)]))) (t2 : gRd M tc = some (aI G 120 c)) (t3 : gRd M ts = some (aI G 120 s)) (htn : tn ≤ 120) (hcs : tc ≠ ts) (hT : ∀ q, (q = t ∨ q = tc ∨ q = ts) → q ≠ b ∧ q ≠ bk ∧ q ≠ be ∧ q ≠ bb) (u1 : gRd M h = some (.inr (5, [.ref hp, .int hs, .ref hl]))) (u2 : gRd M hl = some (aI G 121 fl)) (hU : ∀ q, (q = h ∨ q = hl) → q ≠ b ∧ q ≠ bk ∧ q ≠ be ∧ q ≠ bb) (b1 : gRd M b = some (.inr (6, [.ref bk, .ref be, .ref bb, .int x]))) (b2 : gRd M bk = some (aI G 25 K)) (b3 : gRd M be = some (aI G 25 E)) (b4 : gRd M bb = some (aI G 25 B)) : Ev G 2 m_Brk_find [.ref b, .ref t, .ref h] M (some (.int (bI (bkF tn c (ptL fl) tn 0 (0, upd K 0 (-1), upd E 0 0, upd B 0 0)).1))) (mB G M b bk be bb (bkF tn c (ptL fl) tn 0 (0, upd K 0 (-1), upd E 0 0, upd B 0 0)).2) := by
  refine Ev.of (Nat.le_of_ble_eq_true rfl) ?_
  show EvF G 2 m_Brk_find (0, [(0, .ref b), (1, .ref t), (2, .ref h)], [], M) _ _
  refine EvF.gop 1 (go_aload_n d_Brk_find_0 rfl 0 rfl) rfl ?_
  refine EvF.gop 2 (go_iconst (v := nI 0) d_Brk_find_1 (rfl)) rfl ?_
  refine EvF.gop 5 (go_put [.ref bk, .ref be, .ref bb, .int (nI 0)] f_Brk_21 ft_Brk_3 d_Brk_find_2 (b1) (rfl) (rfl) (Nat.le_of_ble_eq_true rfl) rfl) rfl ?_
  refine EvF.gop 6 (go_aload_n d_Brk_find_5 rfl 0 rfl) rfl ?_
  refine EvF.gop 9 (go_get f_Brk_9 d_Brk_find_6 (gRd_s _ _ _) rfl) rfl ?_
  refine EvF.gop 10 (go_iconst (v := nI 0) d_Brk_find_9 (rfl)) rfl ?_
  refine EvF.gop 11 (go_iconst (v := (-1)) d_Brk_find_10 (by decide)) rfl ?_
  refine EvF.gop 12 (go_iast (j := 0) d_Brk_find_11 ((gRd_n _ _ (Ne.symm hD.1)).trans (b2)) (rfl) (by omega) (by omega)) rfl ?_
  refine EvF.gop 13 (go_aload_n d_Brk_find_12 rfl 0 rfl) rfl ?_
  refine EvF.gop 16 (go_get f_Brk_15 d_Brk_find_13 ((gRd_n _ _ hD.1).trans (gRd_s _ _ _)) rfl) rfl ?_
  refine EvF.gop 17 (go_iconst (v := nI 0) d_Brk_find_16 (rfl)) rfl ?_
  refine EvF.gop 18 (go_iconst (v := 0) d_Brk_find_17 (by decide)) rfl ?_
  refine EvF.gop 19 (go_iast (j := 0) d_Brk_find_18 ((gRd_n _ _ (Ne.symm hD.2.2.2.1)).trans ((gRd_n _ _ (Ne.symm hD.2.1)).trans (b3))) (rfl) (by omega) (by omega)) rfl ?_
  refine EvF.gop 20 (go_aload_n d_Brk_find_19 rfl 0 rfl) rfl ?_
  refine EvF.gop 23 (go_get f_Brk_18 d_Brk_find_20 ((gRd_n _ _ hD.2.1).trans ((gRd_n _ _ hD.1).trans (gRd_s _ _ _))) rfl) rfl ?_
  refine EvF.gop 24 (go_iconst (v := nI 0) d_Brk_find_23 (rfl)) rfl ?_
  refine EvF.gop 25 (go_iconst (v := 0) d_Brk_find_24 (by decide)) rfl ?_
  refine EvF.gop 26 (go_iast (j := 0) d_Brk_find_25 ((gRd_n _ _ (Ne.symm hD.2.2.2.2.2)).trans ((gRd_n _ _ (Ne.symm hD.2.2.2.2.1)).trans ((gRd_n _ _ (Ne.symm hD.2.2.1)).trans (b4)))) (rfl) (by omega) (by omega)) rfl ?_
  refine EvF.gop 27 (go_iconst (v := nI 0) d_Brk_find_26 (rfl)) rfl ?_
  refine EvF.gop 28 (go_istore_n [(3, .int (nI 0)), (0, .ref b), (1, .ref t), (2, .ref h)] d_Brk_find_27 rfl (by decide) rfl) rfl ?_
  refine EvF.go (go_pick [1, 2, 3, 0] [(0, .ref b), (1, .ref t), (2, .ref h), (3, .int (nI 0))] rfl) ?_
  exact g_Brk_find G M b bk be bb t tc ts tn c s h hp hl hs fl hD t1 t2 t3 htn hcs hT u1 u2 hU tn 0 (0, upd K 0 (-1), upd E 0 0, upd B 0 0) (by omega) (Nat.zero_le _)
end
