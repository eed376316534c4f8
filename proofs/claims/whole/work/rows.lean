section
-- ===== PART A: goes FIRST, ahead of the names: the tables' words, and 'selects' of the private methods out of them =====
/-- a private method of a class that the tables say can be made, by its rows of tables_1 -/
def lw_okq (q : MethodName × Nat) : Prop := (q.1.cls ≠ "java/lang/invoke/MethodHandle" ∧ q.1.cls ≠ "java/lang/invoke/VarHandle") ∧ Cond.instantiable q.1.cls q.2 ∈ tables_1 ∧ Cond.privateMethod q.1 ∈ tables_1 ∧ Cond.instanceMethod q.1 ∈ tables_1
theorem lw_p0 : lw_okq (⟨"ParagraphSetter$Pattern", "addSign", "(I)Z"⟩, 3) := ⟨⟨by decide +kernel, by decide +kernel⟩, List.mem_of_getElem? (i := 104) (by decide +kernel), List.mem_of_getElem? (i := 388) (by decide +kernel), List.mem_of_getElem? (i := 389) (by decide +kernel)⟩
theorem lw_p1 : lw_okq (⟨"ParagraphSetter$Pattern", "hasPointsAtEdgesOnly", "()Z"⟩, 3) := ⟨⟨by decide +kernel, by decide +kernel⟩, List.mem_of_getElem? (i := 104) (by decide +kernel), List.mem_of_getElem? (i := 393) (by decide +kernel), List.mem_of_getElem? (i := 394) (by decide +kernel)⟩
theorem lw_p2 : lw_okq (⟨"ParagraphSetter$Expander", "begin", "(LParagraphSetter$Row;)V"⟩, 8) := ⟨⟨by decide +kernel, by decide +kernel⟩, List.mem_of_getElem? (i := 44) (by decide +kernel), List.mem_of_getElem? (i := 405) (by decide +kernel), List.mem_of_getElem? (i := 406) (by decide +kernel)⟩
theorem lw_p3 : lw_okq (⟨"ParagraphSetter$Expander", "isListEmpty", "()Z"⟩, 8) := ⟨⟨by decide +kernel, by decide +kernel⟩, List.mem_of_getElem? (i := 44) (by decide +kernel), List.mem_of_getElem? (i := 409) (by decide +kernel), List.mem_of_getElem? (i := 410) (by decide +kernel)⟩
theorem lw_p4 : lw_okq (⟨"ParagraphSetter$Expander", "takeOff", "()I"⟩, 8) := ⟨⟨by decide +kernel, by decide +kernel⟩, List.mem_of_getElem? (i := 44) (by decide +kernel), List.mem_of_getElem? (i := 413) (by decide +kernel), List.mem_of_getElem? (i := 414) (by decide +kernel)⟩
theorem lw_p5 : lw_okq (⟨"ParagraphSetter$Expander", "obey", "(ILParagraphSetter$Text;)I"⟩, 8) := ⟨⟨by decide +kernel, by decide +kernel⟩, List.mem_of_getElem? (i := 44) (by decide +kernel), List.mem_of_getElem? (i := 417) (by decide +kernel), List.mem_of_getElem? (i := 418) (by decide +kernel)⟩
theorem lw_p6 : lw_okq (⟨"ParagraphSetter$Expander", "callMacro", "(LParagraphSetter$Macro;)I"⟩, 8) := ⟨⟨by decide +kernel, by decide +kernel⟩, List.mem_of_getElem? (i := 44) (by decide +kernel), List.mem_of_getElem? (i := 422) (by decide +kernel), List.mem_of_getElem? (i := 423) (by decide +kernel)⟩
theorem lw_p7 : lw_okq (⟨"ParagraphSetter$Expander", "takeArgument", "()Z"⟩, 8) := ⟨⟨by decide +kernel, by decide +kernel⟩, List.mem_of_getElem? (i := 44) (by decide +kernel), List.mem_of_getElem? (i := 430) (by decide +kernel), List.mem_of_getElem? (i := 431) (by decide +kernel)⟩
theorem lw_p8 : lw_okq (⟨"ParagraphSetter$Expander", "takeGroup", "()Z"⟩, 8) := ⟨⟨by decide +kernel, by decide +kernel⟩, List.mem_of_getElem? (i := 44) (by decide +kernel), List.mem_of_getElem? (i := 435) (by decide +kernel), List.mem_of_getElem? (i := 436) (by decide +kernel)⟩
theorem lw_p9 : lw_okq (⟨"ParagraphSetter$Expander", "putInFront", "(LParagraphSetter$Row;)V"⟩, 8) := ⟨⟨by decide +kernel, by decide +kernel⟩, List.mem_of_getElem? (i := 44) (by decide +kernel), List.mem_of_getElem? (i := 440) (by decide +kernel), List.mem_of_getElem? (i := 441) (by decide +kernel)⟩
theorem lw_p10 : lw_okq (⟨"ParagraphSetter$Expander", "openGroup", "()I"⟩, 8) := ⟨⟨by decide +kernel, by decide +kernel⟩, List.mem_of_getElem? (i := 44) (by decide +kernel), List.mem_of_getElem? (i := 444) (by decide +kernel), List.mem_of_getElem? (i := 445) (by decide +kernel)⟩
theorem lw_p11 : lw_okq (⟨"ParagraphSetter$Expander", "closeGroup", "()I"⟩, 8) := ⟨⟨by decide +kernel, by decide +kernel⟩, List.mem_of_getElem? (i := 44) (by decide +kernel), List.mem_of_getElem? (i := 448) (by decide +kernel), List.mem_of_getElem? (i := 449) (by decide +kernel)⟩
theorem lw_p12 : lw_okq (⟨"ParagraphSetter$Expander", "changeSpace", "()I"⟩, 8) := ⟨⟨by decide +kernel, by decide +kernel⟩, List.mem_of_getElem? (i := 44) (by decide +kernel), List.mem_of_getElem? (i := 452) (by decide +kernel), List.mem_of_getElem? (i := 453) (by decide +kernel)⟩
theorem lw_p13 : lw_okq (⟨"ParagraphSetter$Text", "dropBlanksBehind", "()V"⟩, 3) := ⟨⟨by decide +kernel, by decide +kernel⟩, List.mem_of_getElem? (i := 157) (by decide +kernel), List.mem_of_getElem? (i := 467) (by decide +kernel), List.mem_of_getElem? (i := 468) (by decide +kernel)⟩
theorem lw_p14 : lw_okq (⟨"ParagraphSetter$Text", "move", "(II)V"⟩, 3) := ⟨⟨by decide +kernel, by decide +kernel⟩, List.mem_of_getElem? (i := 157) (by decide +kernel), List.mem_of_getElem? (i := 471) (by decide +kernel), List.mem_of_getElem? (i := 472) (by decide +kernel)⟩
theorem lw_p15 : lw_okq (⟨"ParagraphSetter$Text", "dropBlanksBefore", "()V"⟩, 3) := ⟨⟨by decide +kernel, by decide +kernel⟩, List.mem_of_getElem? (i := 157) (by decide +kernel), List.mem_of_getElem? (i := 475) (by decide +kernel), List.mem_of_getElem? (i := 476) (by decide +kernel)⟩
def lw_privs_1 : List (MethodName × Nat) := [(⟨"ParagraphSetter$Pattern", "addSign", "(I)Z"⟩, 3), (⟨"ParagraphSetter$Pattern", "hasPointsAtEdgesOnly", "()Z"⟩, 3), (⟨"ParagraphSetter$Expander", "begin", "(LParagraphSetter$Row;)V"⟩, 8), (⟨"ParagraphSetter$Expander", "isListEmpty", "()Z"⟩, 8), (⟨"ParagraphSetter$Expander", "takeOff", "()I"⟩, 8), (⟨"ParagraphSetter$Expander", "obey", "(ILParagraphSetter$Text;)I"⟩, 8), (⟨"ParagraphSetter$Expander", "callMacro", "(LParagraphSetter$Macro;)I"⟩, 8), (⟨"ParagraphSetter$Expander", "takeArgument", "()Z"⟩, 8), (⟨"ParagraphSetter$Expander", "takeGroup", "()Z"⟩, 8), (⟨"ParagraphSetter$Expander", "putInFront", "(LParagraphSetter$Row;)V"⟩, 8), (⟨"ParagraphSetter$Expander", "openGroup", "()I"⟩, 8), (⟨"ParagraphSetter$Expander", "closeGroup", "()I"⟩, 8), (⟨"ParagraphSetter$Expander", "changeSpace", "()I"⟩, 8), (⟨"ParagraphSetter$Text", "dropBlanksBehind", "()V"⟩, 3), (⟨"ParagraphSetter$Text", "move", "(II)V"⟩, 3), (⟨"ParagraphSetter$Text", "dropBlanksBefore", "()V"⟩, 3)]
theorem lw_r1 : ∀ q ∈ lw_privs_1, lw_okq q := List.forall_mem_cons.mpr ⟨lw_p0, List.forall_mem_cons.mpr ⟨lw_p1, List.forall_mem_cons.mpr ⟨lw_p2, List.forall_mem_cons.mpr ⟨lw_p3, List.forall_mem_cons.mpr ⟨lw_p4, List.forall_mem_cons.mpr ⟨lw_p5, List.forall_mem_cons.mpr ⟨lw_p6, List.forall_mem_cons.mpr ⟨lw_p7, List.forall_mem_cons.mpr ⟨lw_p8, List.forall_mem_cons.mpr ⟨lw_p9, List.forall_mem_cons.mpr ⟨lw_p10, List.forall_mem_cons.mpr ⟨lw_p11, List.forall_mem_cons.mpr ⟨lw_p12, List.forall_mem_cons.mpr ⟨lw_p13, List.forall_mem_cons.mpr ⟨lw_p14, List.forall_mem_cons.mpr ⟨lw_p15, fun _ h => absurd h List.not_mem_nil⟩⟩⟩⟩⟩⟩⟩⟩⟩⟩⟩⟩⟩⟩⟩⟩
theorem lw_p16 : lw_okq (⟨"ParagraphSetter$Text", "dropBarsBehind", "()V"⟩, 3) := ⟨⟨by decide +kernel, by decide +kernel⟩, List.mem_of_getElem? (i := 157) (by decide +kernel), List.mem_of_getElem? (i := 479) (by decide +kernel), List.mem_of_getElem? (i := 480) (by decide +kernel)⟩
theorem lw_p17 : lw_okq (⟨"ParagraphSetter$Hyphenator", "weighWord", "(LParagraphSetter$Text;II)V"⟩, 3) := ⟨⟨by decide +kernel, by decide +kernel⟩, List.mem_of_getElem? (i := 97) (by decide +kernel), List.mem_of_getElem? (i := 492) (by decide +kernel), List.mem_of_getElem? (i := 493) (by decide +kernel)⟩
theorem lw_p18 : lw_okq (⟨"ParagraphSetter$Hyphenator", "raise", "(LParagraphSetter$Pattern;III)V"⟩, 3) := ⟨⟨by decide +kernel, by decide +kernel⟩, List.mem_of_getElem? (i := 97) (by decide +kernel), List.mem_of_getElem? (i := 499) (by decide +kernel), List.mem_of_getElem? (i := 500) (by decide +kernel)⟩
theorem lw_p19 : lw_okq (⟨"ParagraphSetter$Breaks", "add", "(III)Z"⟩, 4) := ⟨⟨by decide +kernel, by decide +kernel⟩, List.mem_of_getElem? (i := 183) (by decide +kernel), List.mem_of_getElem? (i := 514) (by decide +kernel), List.mem_of_getElem? (i := 515) (by decide +kernel)⟩
theorem lw_p20 : lw_okq (⟨"ParagraphSetter$Breaks", "addAt", "(LParagraphSetter$Text;I)Z"⟩, 4) := ⟨⟨by decide +kernel, by decide +kernel⟩, List.mem_of_getElem? (i := 183) (by decide +kernel), List.mem_of_getElem? (i := 518) (by decide +kernel), List.mem_of_getElem? (i := 519) (by decide +kernel)⟩
theorem lw_p21 : lw_okq (⟨"ParagraphSetter$Chooser", "findNext", "(LParagraphSetter$Setting;I)V"⟩, 3) := ⟨⟨by decide +kernel, by decide +kernel⟩, List.mem_of_getElem? (i := 134) (by decide +kernel), List.mem_of_getElem? (i := 542) (by decide +kernel), List.mem_of_getElem? (i := 543) (by decide +kernel)⟩
theorem lw_p22 : lw_okq (⟨"ParagraphSetter$Setting", "over", "([III)I"⟩, 9) := ⟨⟨by decide +kernel, by decide +kernel⟩, List.mem_of_getElem? (i := 151) (by decide +kernel), List.mem_of_getElem? (i := 554) (by decide +kernel), List.mem_of_getElem? (i := 555) (by decide +kernel)⟩
theorem lw_p23 : lw_okq (⟨"ParagraphSetter$Setting", "isLoose", "(II)Z"⟩, 9) := ⟨⟨by decide +kernel, by decide +kernel⟩, List.mem_of_getElem? (i := 151) (by decide +kernel), List.mem_of_getElem? (i := 567) (by decide +kernel), List.mem_of_getElem? (i := 568) (by decide +kernel)⟩
theorem lw_p24 : lw_okq (⟨"ParagraphSetter$Chooser", "keepBetter", "(IIJ)V"⟩, 3) := ⟨⟨by decide +kernel, by decide +kernel⟩, List.mem_of_getElem? (i := 134) (by decide +kernel), List.mem_of_getElem? (i := 586) (by decide +kernel), List.mem_of_getElem? (i := 587) (by decide +kernel)⟩
theorem lw_p25 : lw_okq (⟨"ParagraphSetter$Chooser", "follow", "(LParagraphSetter$Setting;)V"⟩, 3) := ⟨⟨by decide +kernel, by decide +kernel⟩, List.mem_of_getElem? (i := 134) (by decide +kernel), List.mem_of_getElem? (i := 590) (by decide +kernel), List.mem_of_getElem? (i := 591) (by decide +kernel)⟩
theorem lw_p26 : lw_okq (⟨"ParagraphSetter", "showDraft", "()V"⟩, 8) := ⟨⟨by decide +kernel, by decide +kernel⟩, List.mem_of_getElem? (i := 15) (by decide +kernel), List.mem_of_getElem? (i := 594) (by decide +kernel), List.mem_of_getElem? (i := 595) (by decide +kernel)⟩
theorem lw_p27 : lw_okq (⟨"ParagraphSetter$Setting", "items", "(I)I"⟩, 9) := ⟨⟨by decide +kernel, by decide +kernel⟩, List.mem_of_getElem? (i := 151) (by decide +kernel), List.mem_of_getElem? (i := 626) (by decide +kernel), List.mem_of_getElem? (i := 627) (by decide +kernel)⟩
theorem lw_p28 : lw_okq (⟨"ParagraphSetterModel", "expand", "()I"⟩, 52) := ⟨⟨by decide +kernel, by decide +kernel⟩, List.mem_of_getElem? (i := 650) (by decide +kernel), List.mem_of_getElem? (i := 848) (by decide +kernel), List.mem_of_getElem? (i := 849) (by decide +kernel)⟩
theorem lw_p29 : lw_okq (⟨"ParagraphSetterModel", "take", "()I"⟩, 52) := ⟨⟨by decide +kernel, by decide +kernel⟩, List.mem_of_getElem? (i := 650) (by decide +kernel), List.mem_of_getElem? (i := 852) (by decide +kernel), List.mem_of_getElem? (i := 853) (by decide +kernel)⟩
theorem lw_p30 : lw_okq (⟨"ParagraphSetterModel", "call", "(I)I"⟩, 52) := ⟨⟨by decide +kernel, by decide +kernel⟩, List.mem_of_getElem? (i := 650) (by decide +kernel), List.mem_of_getElem? (i := 856) (by decide +kernel), List.mem_of_getElem? (i := 857) (by decide +kernel)⟩
theorem lw_p31 : lw_okq (⟨"ParagraphSetterModel", "takeArgument", "()Z"⟩, 52) := ⟨⟨by decide +kernel, by decide +kernel⟩, List.mem_of_getElem? (i := 650) (by decide +kernel), List.mem_of_getElem? (i := 860) (by decide +kernel), List.mem_of_getElem? (i := 861) (by decide +kernel)⟩
def lw_privs_2 : List (MethodName × Nat) := [(⟨"ParagraphSetter$Text", "dropBarsBehind", "()V"⟩, 3), (⟨"ParagraphSetter$Hyphenator", "weighWord", "(LParagraphSetter$Text;II)V"⟩, 3), (⟨"ParagraphSetter$Hyphenator", "raise", "(LParagraphSetter$Pattern;III)V"⟩, 3), (⟨"ParagraphSetter$Breaks", "add", "(III)Z"⟩, 4), (⟨"ParagraphSetter$Breaks", "addAt", "(LParagraphSetter$Text;I)Z"⟩, 4), (⟨"ParagraphSetter$Chooser", "findNext", "(LParagraphSetter$Setting;I)V"⟩, 3), (⟨"ParagraphSetter$Setting", "over", "([III)I"⟩, 9), (⟨"ParagraphSetter$Setting", "isLoose", "(II)Z"⟩, 9), (⟨"ParagraphSetter$Chooser", "keepBetter", "(IIJ)V"⟩, 3), (⟨"ParagraphSetter$Chooser", "follow", "(LParagraphSetter$Setting;)V"⟩, 3), (⟨"ParagraphSetter", "showDraft", "()V"⟩, 8), (⟨"ParagraphSetter$Setting", "items", "(I)I"⟩, 9), (⟨"ParagraphSetterModel", "expand", "()I"⟩, 52), (⟨"ParagraphSetterModel", "take", "()I"⟩, 52), (⟨"ParagraphSetterModel", "call", "(I)I"⟩, 52), (⟨"ParagraphSetterModel", "takeArgument", "()Z"⟩, 52)]
theorem lw_r2 : ∀ q ∈ lw_privs_2, lw_okq q := List.forall_mem_cons.mpr ⟨lw_p16, List.forall_mem_cons.mpr ⟨lw_p17, List.forall_mem_cons.mpr ⟨lw_p18, List.forall_mem_cons.mpr ⟨lw_p19, List.forall_mem_cons.mpr ⟨lw_p20, List.forall_mem_cons.mpr ⟨lw_p21, List.forall_mem_cons.mpr ⟨lw_p22, List.forall_mem_cons.mpr ⟨lw_p23, List.forall_mem_cons.mpr ⟨lw_p24, List.forall_mem_cons.mpr ⟨lw_p25, List.forall_mem_cons.mpr ⟨lw_p26, List.forall_mem_cons.mpr ⟨lw_p27, List.forall_mem_cons.mpr ⟨lw_p28, List.forall_mem_cons.mpr ⟨lw_p29, List.forall_mem_cons.mpr ⟨lw_p30, List.forall_mem_cons.mpr ⟨lw_p31, fun _ h => absurd h List.not_mem_nil⟩⟩⟩⟩⟩⟩⟩⟩⟩⟩⟩⟩⟩⟩⟩⟩
theorem lw_p32 : lw_okq (⟨"ParagraphSetterModel", "clean", "()V"⟩, 52) := ⟨⟨by decide +kernel, by decide +kernel⟩, List.mem_of_getElem? (i := 650) (by decide +kernel), List.mem_of_getElem? (i := 864) (by decide +kernel), List.mem_of_getElem? (i := 865) (by decide +kernel)⟩
theorem lw_p33 : lw_okq (⟨"ParagraphSetterModel", "drop", "(I)V"⟩, 52) := ⟨⟨by decide +kernel, by decide +kernel⟩, List.mem_of_getElem? (i := 650) (by decide +kernel), List.mem_of_getElem? (i := 868) (by decide +kernel), List.mem_of_getElem? (i := 869) (by decide +kernel)⟩
theorem lw_p34 : lw_okq (⟨"ParagraphSetterModel", "hyphenate", "()V"⟩, 52) := ⟨⟨by decide +kernel, by decide +kernel⟩, List.mem_of_getElem? (i := 650) (by decide +kernel), List.mem_of_getElem? (i := 872) (by decide +kernel), List.mem_of_getElem? (i := 873) (by decide +kernel)⟩
theorem lw_p35 : lw_okq (⟨"ParagraphSetterModel", "greatest", "(III)I"⟩, 52) := ⟨⟨by decide +kernel, by decide +kernel⟩, List.mem_of_getElem? (i := 650) (by decide +kernel), List.mem_of_getElem? (i := 876) (by decide +kernel), List.mem_of_getElem? (i := 877) (by decide +kernel)⟩
theorem lw_p36 : lw_okq (⟨"ParagraphSetterModel", "signOf", "(III)I"⟩, 52) := ⟨⟨by decide +kernel, by decide +kernel⟩, List.mem_of_getElem? (i := 650) (by decide +kernel), List.mem_of_getElem? (i := 880) (by decide +kernel), List.mem_of_getElem? (i := 881) (by decide +kernel)⟩
theorem lw_p37 : lw_okq (⟨"ParagraphSetterModel", "findBreaks", "()Z"⟩, 52) := ⟨⟨by decide +kernel, by decide +kernel⟩, List.mem_of_getElem? (i := 650) (by decide +kernel), List.mem_of_getElem? (i := 884) (by decide +kernel), List.mem_of_getElem? (i := 885) (by decide +kernel)⟩
theorem lw_p38 : lw_okq (⟨"ParagraphSetterModel", "addBreak", "(III)Z"⟩, 52) := ⟨⟨by decide +kernel, by decide +kernel⟩, List.mem_of_getElem? (i := 650) (by decide +kernel), List.mem_of_getElem? (i := 888) (by decide +kernel), List.mem_of_getElem? (i := 889) (by decide +kernel)⟩
theorem lw_p39 : lw_okq (⟨"ParagraphSetterModel", "solve", "()V"⟩, 52) := ⟨⟨by decide +kernel, by decide +kernel⟩, List.mem_of_getElem? (i := 650) (by decide +kernel), List.mem_of_getElem? (i := 892) (by decide +kernel), List.mem_of_getElem? (i := 893) (by decide +kernel)⟩
theorem lw_p40 : lw_okq (⟨"ParagraphSetterModel", "measure", "(II)Z"⟩, 52) := ⟨⟨by decide +kernel, by decide +kernel⟩, List.mem_of_getElem? (i := 650) (by decide +kernel), List.mem_of_getElem? (i := 897) (by decide +kernel), List.mem_of_getElem? (i := 898) (by decide +kernel)⟩
theorem lw_p41 : lw_okq (⟨"ParagraphSetterModel", "price", "(II)J"⟩, 52) := ⟨⟨by decide +kernel, by decide +kernel⟩, List.mem_of_getElem? (i := 650) (by decide +kernel), List.mem_of_getElem? (i := 903) (by decide +kernel), List.mem_of_getElem? (i := 904) (by decide +kernel)⟩
theorem lw_p42 : lw_okq (⟨"ParagraphSetterModel", "jot", "()V"⟩, 52) := ⟨⟨by decide +kernel, by decide +kernel⟩, List.mem_of_getElem? (i := 650) (by decide +kernel), List.mem_of_getElem? (i := 907) (by decide +kernel), List.mem_of_getElem? (i := 908) (by decide +kernel)⟩
theorem lw_p43 : lw_okq (⟨"ParagraphSetterModel", "isLine", "(I)Z"⟩, 52) := ⟨⟨by decide +kernel, by decide +kernel⟩, List.mem_of_getElem? (i := 650) (by decide +kernel), List.mem_of_getElem? (i := 919) (by decide +kernel), List.mem_of_getElem? (i := 920) (by decide +kernel)⟩
theorem lw_p44 : lw_okq (⟨"ParagraphSetterModel", "characters", "(I)I"⟩, 52) := ⟨⟨by decide +kernel, by decide +kernel⟩, List.mem_of_getElem? (i := 650) (by decide +kernel), List.mem_of_getElem? (i := 927) (by decide +kernel), List.mem_of_getElem? (i := 928) (by decide +kernel)⟩
def lw_privs_3 : List (MethodName × Nat) := [(⟨"ParagraphSetterModel", "clean", "()V"⟩, 52), (⟨"ParagraphSetterModel", "drop", "(I)V"⟩, 52), (⟨"ParagraphSetterModel", "hyphenate", "()V"⟩, 52), (⟨"ParagraphSetterModel", "greatest", "(III)I"⟩, 52), (⟨"ParagraphSetterModel", "signOf", "(III)I"⟩, 52), (⟨"ParagraphSetterModel", "findBreaks", "()Z"⟩, 52), (⟨"ParagraphSetterModel", "addBreak", "(III)Z"⟩, 52), (⟨"ParagraphSetterModel", "solve", "()V"⟩, 52), (⟨"ParagraphSetterModel", "measure", "(II)Z"⟩, 52), (⟨"ParagraphSetterModel", "price", "(II)J"⟩, 52), (⟨"ParagraphSetterModel", "jot", "()V"⟩, 52), (⟨"ParagraphSetterModel", "isLine", "(I)Z"⟩, 52), (⟨"ParagraphSetterModel", "characters", "(I)I"⟩, 52)]
theorem lw_r3 : ∀ q ∈ lw_privs_3, lw_okq q := List.forall_mem_cons.mpr ⟨lw_p32, List.forall_mem_cons.mpr ⟨lw_p33, List.forall_mem_cons.mpr ⟨lw_p34, List.forall_mem_cons.mpr ⟨lw_p35, List.forall_mem_cons.mpr ⟨lw_p36, List.forall_mem_cons.mpr ⟨lw_p37, List.forall_mem_cons.mpr ⟨lw_p38, List.forall_mem_cons.mpr ⟨lw_p39, List.forall_mem_cons.mpr ⟨lw_p40, List.forall_mem_cons.mpr ⟨lw_p41, List.forall_mem_cons.mpr ⟨lw_p42, List.forall_mem_cons.mpr ⟨lw_p43, List.forall_mem_cons.mpr ⟨lw_p44, fun _ h => absurd h List.not_mem_nil⟩⟩⟩⟩⟩⟩⟩⟩⟩⟩⟩⟩⟩
def lw_privs : List (MethodName × Nat) := lw_privs_1 ++ (lw_privs_2 ++ (lw_privs_3))
def lw_tbl : List Cond := k2_sels lw_privs ++ tables_1
theorem lw_privs_ok : ∀ q ∈ lw_privs, lw_okq q := by
  show ∀ q ∈ lw_privs_1 ++ (lw_privs_2 ++ (lw_privs_3)), lw_okq q
  exact List.forall_mem_append.mpr ⟨lw_r1, List.forall_mem_append.mpr ⟨lw_r2, lw_r3⟩⟩
def gTB : List Cond := lw_tbl.filter goodWord
theorem gTB_good : ∀ w ∈ gTB, (w.onTables && w.keeps) = true ∨ ∃ ty, w = .arrayClass ty := fun w h => good_of_word (List.mem_filter.mp h).2
theorem gTB_t {w : Cond} (h : w ∈ tables_1) (hg : goodWord w = true) : w ∈ gTB := List.mem_filter.mpr ⟨List.mem_append_right _ h, hg⟩
theorem gTB_s {w : Cond} (h : w ∈ k2_sels lw_privs) (hg : goodWord w = true) : w ∈ gTB := List.mem_filter.mpr ⟨List.mem_append_left _ h, hg⟩
theorem gIn1 {w : Cond} (h : w ∈ tables_1_1) : w ∈ tables_1 := List.mem_append_left _ h
theorem gIn2 {w : Cond} (h : w ∈ tables_1_2) : w ∈ tables_1 := List.mem_append_right _ (List.mem_append_left _ h)
theorem gIn3 {w : Cond} (h : w ∈ tables_1_3) : w ∈ tables_1 := List.mem_append_right _ (List.mem_append_right _ (List.mem_append_left _ h))
theorem gIn4 {w : Cond} (h : w ∈ tables_1_4) : w ∈ tables_1 := List.mem_append_right _ (List.mem_append_right _ (List.mem_append_right _ (h)))
def R_Row : String := "ParagraphSetter$Row"
def F_Row : u_T := fun k => match k with
  | 0 => ("ParagraphSetter$Row", "codes", "[I", true)
  | _ => ("ParagraphSetter$Row", "size", "I", false)
def t_Row : Nat → FieldType := fun k => match k with
  | 0 => .array .int
  | _ => .int
def R_Mac : String := "ParagraphSetter$Macro"
def F_Mac : u_T := fun k => match k with
  | 0 => ("ParagraphSetter$Macro", "body", "LParagraphSetter$Row;", true)
  | _ => ("ParagraphSetter$Macro", "defined", "Z", false)
def t_Mac : Nat → FieldType := fun k => match k with
  | 0 => .object "ParagraphSetter$Row"
  | _ => .boolean
def R_Exp : String := "ParagraphSetter$Expander"
def F_Exp : u_T := fun k => match k with
  | 0 => ("ParagraphSetter$Expander", "macros", "[LParagraphSetter$Macro;", true)
  | 1 => ("ParagraphSetter$Expander", "list", "[I", true)
  | 2 => ("ParagraphSetter$Expander", "first", "I", false)
  | 3 => ("ParagraphSetter$Expander", "argument", "LParagraphSetter$Row;", true)
  | 4 => ("ParagraphSetter$Expander", "outerSpaces", "[I", true)
  | 5 => ("ParagraphSetter$Expander", "open", "I", false)
  | 6 => ("ParagraphSetter$Expander", "space", "I", false)
  | _ => ("ParagraphSetter$Expander", "calls", "I", false)
def t_Exp : Nat → FieldType := fun k => match k with
  | 0 => .array (.object "ParagraphSetter$Macro")
  | 1 => .array .int
  | 2 => .int
  | 3 => .object "ParagraphSetter$Row"
  | 4 => .array .int
  | 5 => .int
  | 6 => .int
  | _ => .int
def R_Txt : String := "ParagraphSetter$Text"
def F_Txt : u_T := fun k => match k with
  | 0 => ("ParagraphSetter$Text", "codes", "[I", true)
  | 1 => ("ParagraphSetter$Text", "spaces", "[I", true)
  | _ => ("ParagraphSetter$Text", "size", "I", false)
def t_Txt : Nat → FieldType := fun k => match k with
  | 0 => .array .int
  | 1 => .array .int
  | _ => .int
def R_Pat : String := "ParagraphSetter$Pattern"
def F_Pat : u_T := fun k => match k with
  | 0 => ("ParagraphSetter$Pattern", "signs", "[I", true)
  | 1 => ("ParagraphSetter$Pattern", "levels", "[I", true)
  | _ => ("ParagraphSetter$Pattern", "size", "I", false)
def t_Pat : Nat → FieldType := fun k => match k with
  | 0 => .array .int
  | 1 => .array .int
  | _ => .int
def R_Hyp : String := "ParagraphSetter$Hyphenator"
def F_Hyp : u_T := fun k => match k with
  | 0 => ("ParagraphSetter$Hyphenator", "patterns", "[LParagraphSetter$Pattern;", true)
  | 1 => ("ParagraphSetter$Hyphenator", "size", "I", false)
  | _ => ("ParagraphSetter$Hyphenator", "levels", "[I", true)
def t_Hyp : Nat → FieldType := fun k => match k with
  | 0 => .array (.object "ParagraphSetter$Pattern")
  | 1 => .int
  | _ => .array .int
def R_Brk : String := "ParagraphSetter$Breaks"
def F_Brk : u_T := fun k => match k with
  | 0 => ("ParagraphSetter$Breaks", "kinds", "[I", true)
  | 1 => ("ParagraphSetter$Breaks", "ends", "[I", true)
  | 2 => ("ParagraphSetter$Breaks", "begins", "[I", true)
  | _ => ("ParagraphSetter$Breaks", "size", "I", false)
def t_Brk : Nat → FieldType := fun k => match k with
  | 0 => .array .int
  | 1 => .array .int
  | 2 => .array .int
  | _ => .int
def R_Sum : String := "ParagraphSetter$Sums"
def F_Sum : u_T := fun k => match k with
  | 0 => ("ParagraphSetter$Sums", "widths", "[I", true)
  | 1 => ("ParagraphSetter$Sums", "stretches", "[I", true)
  | 2 => ("ParagraphSetter$Sums", "shrinks", "[I", true)
  | 3 => ("ParagraphSetter$Sums", "letters", "[I", true)
  | _ => ("ParagraphSetter$Sums", "dashes", "[I", true)
def t_Sum : Nat → FieldType := fun k => match k with
  | 0 => .array .int
  | 1 => .array .int
  | 2 => .array .int
  | 3 => .array .int
  | _ => .array .int
def R_Stg : String := "ParagraphSetter$Setting"
def F_Stg : u_T := fun k => match k with
  | 0 => ("ParagraphSetter$Setting", "text", "LParagraphSetter$Text;", true)
  | 1 => ("ParagraphSetter$Setting", "breaks", "LParagraphSetter$Breaks;", true)
  | 2 => ("ParagraphSetter$Setting", "sums", "LParagraphSetter$Sums;", true)
  | 3 => ("ParagraphSetter$Setting", "parameters", "[I", true)
  | 4 => ("ParagraphSetter$Setting", "dashWidth", "I", false)
  | 5 => ("ParagraphSetter$Setting", "calls", "I", false)
  | 6 => ("ParagraphSetter$Setting", "ends", "[I", true)
  | 7 => ("ParagraphSetter$Setting", "lines", "I", false)
  | _ => ("ParagraphSetter$Setting", "total", "J", false)
def t_Stg : Nat → FieldType := fun k => match k with
  | 0 => .object "ParagraphSetter$Text"
  | 1 => .object "ParagraphSetter$Breaks"
  | 2 => .object "ParagraphSetter$Sums"
  | 3 => .array .int
  | 4 => .int
  | 5 => .int
  | 6 => .array .int
  | 7 => .int
  | _ => .long
def R_Cho : String := "ParagraphSetter$Chooser"
def F_Cho : u_T := fun k => match k with
  | 0 => ("ParagraphSetter$Chooser", "prices", "[J", true)
  | 1 => ("ParagraphSetter$Chooser", "lines", "[I", true)
  | _ => ("ParagraphSetter$Chooser", "nexts", "[I", true)
def t_Cho : Nat → FieldType := fun k => match k with
  | 0 => .array .long
  | 1 => .array .int
  | _ => .array .int
def R_PS : String := "ParagraphSetter"
def F_PS : u_T := fun k => match k with
  | 0 => ("ParagraphSetter", "typed", "LParagraphSetter$Row;", true)
  | 1 => ("ParagraphSetter", "widths", "[I", true)
  | 2 => ("ParagraphSetter", "parameters", "[I", true)
  | 3 => ("ParagraphSetter", "expander", "LParagraphSetter$Expander;", true)
  | 4 => ("ParagraphSetter", "hyphenator", "LParagraphSetter$Hyphenator;", true)
  | 5 => ("ParagraphSetter", "chooser", "LParagraphSetter$Chooser;", true)
  | 6 => ("ParagraphSetter", "latest", "LParagraphSetter$Setting;", false)
  | _ => ("ParagraphSetter", "draft", "LParagraphSetter$Setting;", false)
def t_PS : Nat → FieldType := fun k => match k with
  | 0 => .object "ParagraphSetter$Row"
  | 1 => .array .int
  | 2 => .array .int
  | 3 => .object "ParagraphSetter$Expander"
  | 4 => .object "ParagraphSetter$Hyphenator"
  | 5 => .object "ParagraphSetter$Chooser"
  | 6 => .object "ParagraphSetter$Setting"
  | _ => .object "ParagraphSetter$Setting"
def R_Mod : String := "ParagraphSetterModel"
def F_Mod : u_T := fun k => match k with
  | 0 => ("ParagraphSetterModel", "line", "[I", true)
  | 1 => ("ParagraphSetterModel", "length", "I", false)
  | 2 => ("ParagraphSetterModel", "widths", "[I", true)
  | 3 => ("ParagraphSetterModel", "parameter", "[I", true)
  | 4 => ("ParagraphSetterModel", "body", "[I", true)
  | 5 => ("ParagraphSetterModel", "bodyLength", "[I", true)
  | 6 => ("ParagraphSetterModel", "sign", "[I", true)
  | 7 => ("ParagraphSetterModel", "level", "[I", true)
  | 8 => ("ParagraphSetterModel", "signs", "[I", true)
  | 9 => ("ParagraphSetterModel", "patterns", "I", false)
  | 10 => ("ParagraphSetterModel", "list", "[I", true)
  | 11 => ("ParagraphSetterModel", "rest", "[I", true)
  | 12 => ("ParagraphSetterModel", "argument", "[I", true)
  | 13 => ("ParagraphSetterModel", "saved", "[I", true)
  | 14 => ("ParagraphSetterModel", "listLength", "I", false)
  | 15 => ("ParagraphSetterModel", "argumentLength", "I", false)
  | 16 => ("ParagraphSetterModel", "calls", "I", false)
  | 17 => ("ParagraphSetterModel", "item", "[I", true)
  | 18 => ("ParagraphSetterModel", "space", "[I", true)
  | 19 => ("ParagraphSetterModel", "sItem", "[I", true)
  | 20 => ("ParagraphSetterModel", "sSize", "[I", true)
  | 21 => ("ParagraphSetterModel", "sSpace", "[I", true)
  | 22 => ("ParagraphSetterModel", "items", "I", false)
  | 23 => ("ParagraphSetterModel", "sItems", "I", false)
  | 24 => ("ParagraphSetterModel", "point", "[Z", true)
  | 25 => ("ParagraphSetterModel", "kind", "[I", true)
  | 26 => ("ParagraphSetterModel", "stop", "[I", true)
  | 27 => ("ParagraphSetterModel", "begin", "[I", true)
  | 28 => ("ParagraphSetterModel", "breaks", "I", false)
  | 29 => ("ParagraphSetterModel", "points", "I", false)
  | 30 => ("ParagraphSetterModel", "best", "[J", true)
  | 31 => ("ParagraphSetterModel", "lines", "[I", true)
  | 32 => ("ParagraphSetterModel", "choice", "[I", true)
  | 33 => ("ParagraphSetterModel", "first", "I", false)
  | 34 => ("ParagraphSetterModel", "natural", "I", false)
  | 35 => ("ParagraphSetterModel", "stretch", "I", false)
  | 36 => ("ParagraphSetterModel", "shrink", "I", false)
  | 37 => ("ParagraphSetterModel", "bad", "I", false)
  | 38 => ("ParagraphSetterModel", "first2", "[I", true)
  | 39 => ("ParagraphSetterModel", "stop2", "[I", true)
  | 40 => ("ParagraphSetterModel", "kind2", "[I", true)
  | 41 => ("ParagraphSetterModel", "number2", "[I", true)
  | 42 => ("ParagraphSetterModel", "natural2", "[I", true)
  | 43 => ("ParagraphSetterModel", "d2", "[I", true)
  | 44 => ("ParagraphSetterModel", "bad2", "[I", true)
  | 45 => ("ParagraphSetterModel", "stretch2", "[I", true)
  | 46 => ("ParagraphSetterModel", "shrink2", "[I", true)
  | 47 => ("ParagraphSetterModel", "lines2", "I", false)
  | 48 => ("ParagraphSetterModel", "breaks2", "I", false)
  | 49 => ("ParagraphSetterModel", "points2", "I", false)
  | 50 => ("ParagraphSetterModel", "calls2", "I", false)
  | _ => ("ParagraphSetterModel", "cost2", "J", false)
def t_Mod : Nat → FieldType := fun k => match k with
  | 0 => .array .int
  | 1 => .int
  | 2 => .array .int
  | 3 => .array .int
  | 4 => .array .int
  | 5 => .array .int
  | 6 => .array .int
  | 7 => .array .int
  | 8 => .array .int
  | 9 => .int
  | 10 => .array .int
  | 11 => .array .int
  | 12 => .array .int
  | 13 => .array .int
  | 14 => .int
  | 15 => .int
  | 16 => .int
  | 17 => .array .int
  | 18 => .array .int
  | 19 => .array .int
  | 20 => .array .int
  | 21 => .array .int
  | 22 => .int
  | 23 => .int
  | 24 => .array .boolean
  | 25 => .array .int
  | 26 => .array .int
  | 27 => .array .int
  | 28 => .int
  | 29 => .int
  | 30 => .array .long
  | 31 => .array .int
  | 32 => .array .int
  | 33 => .int
  | 34 => .int
  | 35 => .int
  | 36 => .int
  | 37 => .int
  | 38 => .array .int
  | 39 => .array .int
  | 40 => .array .int
  | 41 => .array .int
  | 42 => .array .int
  | 43 => .array .int
  | 44 => .array .int
  | 45 => .array .int
  | 46 => .array .int
  | 47 => .int
  | 48 => .int
  | 49 => .int
  | 50 => .int
  | _ => .long
def R_Law : String := "ParagraphSetterLaw"
def R_Math : String := "java/lang/Math"
abbrev classes : List vw_C := [(R_Row, F_Row, 2), (R_Mac, F_Mac, 2), (R_Exp, F_Exp, 8), (R_Txt, F_Txt, 3), (R_Pat, F_Pat, 3), (R_Hyp, F_Hyp, 3), (R_Brk, F_Brk, 4), (R_Sum, F_Sum, 5), (R_Stg, F_Stg, 9), (R_Cho, F_Cho, 3), (R_PS, F_PS, 8), (R_Mod, F_Mod, 52)]
abbrev gTys : List FieldType := [.int, .long, .boolean, .object "ParagraphSetter$Macro", .object "ParagraphSetter$Pattern"]
theorem n_Row : ∀ a, a < 2 → ∀ b, b < 2 → a ≠ b → (F_Row a).2.1 ≠ (F_Row b).2.1 := by decide +kernel
theorem t_Row_ok : ∀ k, k < 2 → parseFieldDescriptor (F_Row k).2.2.1 = some (t_Row k) := by decide +kernel
theorem n_Mac : ∀ a, a < 2 → ∀ b, b < 2 → a ≠ b → (F_Mac a).2.1 ≠ (F_Mac b).2.1 := by decide +kernel
theorem t_Mac_ok : ∀ k, k < 2 → parseFieldDescriptor (F_Mac k).2.2.1 = some (t_Mac k) := by decide +kernel
theorem n_Exp : ∀ a, a < 8 → ∀ b, b < 8 → a ≠ b → (F_Exp a).2.1 ≠ (F_Exp b).2.1 := by decide +kernel
theorem t_Exp_ok : ∀ k, k < 8 → parseFieldDescriptor (F_Exp k).2.2.1 = some (t_Exp k) := by decide +kernel
theorem n_Txt : ∀ a, a < 3 → ∀ b, b < 3 → a ≠ b → (F_Txt a).2.1 ≠ (F_Txt b).2.1 := by decide +kernel
theorem t_Txt_ok : ∀ k, k < 3 → parseFieldDescriptor (F_Txt k).2.2.1 = some (t_Txt k) := by decide +kernel
theorem n_Pat : ∀ a, a < 3 → ∀ b, b < 3 → a ≠ b → (F_Pat a).2.1 ≠ (F_Pat b).2.1 := by decide +kernel
theorem t_Pat_ok : ∀ k, k < 3 → parseFieldDescriptor (F_Pat k).2.2.1 = some (t_Pat k) := by decide +kernel
theorem n_Hyp : ∀ a, a < 3 → ∀ b, b < 3 → a ≠ b → (F_Hyp a).2.1 ≠ (F_Hyp b).2.1 := by decide +kernel
theorem t_Hyp_ok : ∀ k, k < 3 → parseFieldDescriptor (F_Hyp k).2.2.1 = some (t_Hyp k) := by decide +kernel
theorem n_Brk : ∀ a, a < 4 → ∀ b, b < 4 → a ≠ b → (F_Brk a).2.1 ≠ (F_Brk b).2.1 := by decide +kernel
theorem t_Brk_ok : ∀ k, k < 4 → parseFieldDescriptor (F_Brk k).2.2.1 = some (t_Brk k) := by decide +kernel
theorem n_Sum : ∀ a, a < 5 → ∀ b, b < 5 → a ≠ b → (F_Sum a).2.1 ≠ (F_Sum b).2.1 := by decide +kernel
theorem t_Sum_ok : ∀ k, k < 5 → parseFieldDescriptor (F_Sum k).2.2.1 = some (t_Sum k) := by decide +kernel
theorem n_Stg : ∀ a, a < 9 → ∀ b, b < 9 → a ≠ b → (F_Stg a).2.1 ≠ (F_Stg b).2.1 := by decide +kernel
theorem t_Stg_ok : ∀ k, k < 9 → parseFieldDescriptor (F_Stg k).2.2.1 = some (t_Stg k) := by decide +kernel
theorem n_Cho : ∀ a, a < 3 → ∀ b, b < 3 → a ≠ b → (F_Cho a).2.1 ≠ (F_Cho b).2.1 := by decide +kernel
theorem t_Cho_ok : ∀ k, k < 3 → parseFieldDescriptor (F_Cho k).2.2.1 = some (t_Cho k) := by decide +kernel
theorem n_PS : ∀ a, a < 8 → ∀ b, b < 8 → a ≠ b → (F_PS a).2.1 ≠ (F_PS b).2.1 := by decide +kernel
theorem t_PS_ok : ∀ k, k < 8 → parseFieldDescriptor (F_PS k).2.2.1 = some (t_PS k) := by decide +kernel
theorem n_Mod : ∀ a, a < 52 → ∀ b, b < 52 → a ≠ b → (F_Mod a).2.1 ≠ (F_Mod b).2.1 := by decide +kernel
theorem t_Mod_ok : ∀ k, k < 52 → parseFieldDescriptor (F_Mod k).2.2.1 = some (t_Mod k) := by decide +kernel
theorem l_Row_0 : u_lay R_Row F_Row 0 ∈ gTB := gTB_t (gIn1 (List.mem_of_getElem? (i := 35) (by decide +kernel))) (by decide +kernel)
theorem l_Row_1 : u_lay R_Row F_Row 1 ∈ gTB := gTB_t (gIn1 (List.mem_of_getElem? (i := 37) (by decide +kernel))) (by decide +kernel)
theorem l_Row : ∀ w ∈ u_ws R_Row F_Row 2, w ∈ gTB := fun w hw => by
  obtain ⟨k, hk, rfl⟩ := List.mem_map.mp hw
  have hk := List.mem_range.mp hk
  match k, hk with
  | 0, _ => exact l_Row_0
  | 1, _ => exact l_Row_1
  | k + 2, hk => exact absurd hk (by omega)
theorem l_Mac_0 : u_lay R_Mac F_Mac 0 ∈ gTB := gTB_t (gIn1 (List.mem_of_getElem? (i := 64) (by decide +kernel))) (by decide +kernel)
theorem l_Mac_1 : u_lay R_Mac F_Mac 1 ∈ gTB := gTB_t (gIn1 (List.mem_of_getElem? (i := 66) (by decide +kernel))) (by decide +kernel)
theorem l_Mac : ∀ w ∈ u_ws R_Mac F_Mac 2, w ∈ gTB := fun w hw => by
  obtain ⟨k, hk, rfl⟩ := List.mem_map.mp hw
  have hk := List.mem_range.mp hk
  match k, hk with
  | 0, _ => exact l_Mac_0
  | 1, _ => exact l_Mac_1
  | k + 2, hk => exact absurd hk (by omega)
theorem l_Exp_0 : u_lay R_Exp F_Exp 0 ∈ gTB := gTB_t (gIn1 (List.mem_of_getElem? (i := 79) (by decide +kernel))) (by decide +kernel)
theorem l_Exp_1 : u_lay R_Exp F_Exp 1 ∈ gTB := gTB_t (gIn1 (List.mem_of_getElem? (i := 81) (by decide +kernel))) (by decide +kernel)
theorem l_Exp_2 : u_lay R_Exp F_Exp 2 ∈ gTB := gTB_t (gIn1 (List.mem_of_getElem? (i := 83) (by decide +kernel))) (by decide +kernel)
theorem l_Exp_3 : u_lay R_Exp F_Exp 3 ∈ gTB := gTB_t (gIn1 (List.mem_of_getElem? (i := 85) (by decide +kernel))) (by decide +kernel)
theorem l_Exp_4 : u_lay R_Exp F_Exp 4 ∈ gTB := gTB_t (gIn1 (List.mem_of_getElem? (i := 87) (by decide +kernel))) (by decide +kernel)
theorem l_Exp_5 : u_lay R_Exp F_Exp 5 ∈ gTB := gTB_t (gIn1 (List.mem_of_getElem? (i := 89) (by decide +kernel))) (by decide +kernel)
theorem l_Exp_6 : u_lay R_Exp F_Exp 6 ∈ gTB := gTB_t (gIn1 (List.mem_of_getElem? (i := 91) (by decide +kernel))) (by decide +kernel)
theorem l_Exp_7 : u_lay R_Exp F_Exp 7 ∈ gTB := gTB_t (gIn1 (List.mem_of_getElem? (i := 93) (by decide +kernel))) (by decide +kernel)
theorem l_Exp : ∀ w ∈ u_ws R_Exp F_Exp 8, w ∈ gTB := fun w hw => by
  obtain ⟨k, hk, rfl⟩ := List.mem_map.mp hw
  have hk := List.mem_range.mp hk
  match k, hk with
  | 0, _ => exact l_Exp_0
  | 1, _ => exact l_Exp_1
  | 2, _ => exact l_Exp_2
  | 3, _ => exact l_Exp_3
  | 4, _ => exact l_Exp_4
  | 5, _ => exact l_Exp_5
  | 6, _ => exact l_Exp_6
  | 7, _ => exact l_Exp_7
  | k + 8, hk => exact absurd hk (by omega)
theorem l_Txt_0 : u_lay R_Txt F_Txt 0 ∈ gTB := gTB_t (gIn1 (List.mem_of_getElem? (i := 175) (by decide +kernel))) (by decide +kernel)
theorem l_Txt_1 : u_lay R_Txt F_Txt 1 ∈ gTB := gTB_t (gIn1 (List.mem_of_getElem? (i := 177) (by decide +kernel))) (by decide +kernel)
theorem l_Txt_2 : u_lay R_Txt F_Txt 2 ∈ gTB := gTB_t (gIn1 (List.mem_of_getElem? (i := 179) (by decide +kernel))) (by decide +kernel)
theorem l_Txt : ∀ w ∈ u_ws R_Txt F_Txt 3, w ∈ gTB := fun w hw => by
  obtain ⟨k, hk, rfl⟩ := List.mem_map.mp hw
  have hk := List.mem_range.mp hk
  match k, hk with
  | 0, _ => exact l_Txt_0
  | 1, _ => exact l_Txt_1
  | 2, _ => exact l_Txt_2
  | k + 3, hk => exact absurd hk (by omega)
theorem l_Pat_0 : u_lay R_Pat F_Pat 0 ∈ gTB := gTB_t (gIn1 (List.mem_of_getElem? (i := 115) (by decide +kernel))) (by decide +kernel)
theorem l_Pat_1 : u_lay R_Pat F_Pat 1 ∈ gTB := gTB_t (gIn1 (List.mem_of_getElem? (i := 117) (by decide +kernel))) (by decide +kernel)
theorem l_Pat_2 : u_lay R_Pat F_Pat 2 ∈ gTB := gTB_t (gIn1 (List.mem_of_getElem? (i := 119) (by decide +kernel))) (by decide +kernel)
theorem l_Pat : ∀ w ∈ u_ws R_Pat F_Pat 3, w ∈ gTB := fun w hw => by
  obtain ⟨k, hk, rfl⟩ := List.mem_map.mp hw
  have hk := List.mem_range.mp hk
  match k, hk with
  | 0, _ => exact l_Pat_0
  | 1, _ => exact l_Pat_1
  | 2, _ => exact l_Pat_2
  | k + 3, hk => exact absurd hk (by omega)
theorem l_Hyp_0 : u_lay R_Hyp F_Hyp 0 ∈ gTB := gTB_t (gIn1 (List.mem_of_getElem? (i := 126) (by decide +kernel))) (by decide +kernel)
theorem l_Hyp_1 : u_lay R_Hyp F_Hyp 1 ∈ gTB := gTB_t (gIn1 (List.mem_of_getElem? (i := 128) (by decide +kernel))) (by decide +kernel)
theorem l_Hyp_2 : u_lay R_Hyp F_Hyp 2 ∈ gTB := gTB_t (gIn1 (List.mem_of_getElem? (i := 130) (by decide +kernel))) (by decide +kernel)
theorem l_Hyp : ∀ w ∈ u_ws R_Hyp F_Hyp 3, w ∈ gTB := fun w hw => by
  obtain ⟨k, hk, rfl⟩ := List.mem_map.mp hw
  have hk := List.mem_range.mp hk
  match k, hk with
  | 0, _ => exact l_Hyp_0
  | 1, _ => exact l_Hyp_1
  | 2, _ => exact l_Hyp_2
  | k + 3, hk => exact absurd hk (by omega)
theorem l_Brk_0 : u_lay R_Brk F_Brk 0 ∈ gTB := gTB_t (gIn1 (List.mem_of_getElem? (i := 199) (by decide +kernel))) (by decide +kernel)
theorem l_Brk_1 : u_lay R_Brk F_Brk 1 ∈ gTB := gTB_t (gIn1 (List.mem_of_getElem? (i := 201) (by decide +kernel))) (by decide +kernel)
theorem l_Brk_2 : u_lay R_Brk F_Brk 2 ∈ gTB := gTB_t (gIn1 (List.mem_of_getElem? (i := 203) (by decide +kernel))) (by decide +kernel)
theorem l_Brk_3 : u_lay R_Brk F_Brk 3 ∈ gTB := gTB_t (gIn1 (List.mem_of_getElem? (i := 205) (by decide +kernel))) (by decide +kernel)
theorem l_Brk : ∀ w ∈ u_ws R_Brk F_Brk 4, w ∈ gTB := fun w hw => by
  obtain ⟨k, hk, rfl⟩ := List.mem_map.mp hw
  have hk := List.mem_range.mp hk
  match k, hk with
  | 0, _ => exact l_Brk_0
  | 1, _ => exact l_Brk_1
  | 2, _ => exact l_Brk_2
  | 3, _ => exact l_Brk_3
  | k + 4, hk => exact absurd hk (by omega)
theorem l_Sum_0 : u_lay R_Sum F_Sum 0 ∈ gTB := gTB_t (gIn1 (List.mem_of_getElem? (i := 224) (by decide +kernel))) (by decide +kernel)
theorem l_Sum_1 : u_lay R_Sum F_Sum 1 ∈ gTB := gTB_t (gIn1 (List.mem_of_getElem? (i := 226) (by decide +kernel))) (by decide +kernel)
theorem l_Sum_2 : u_lay R_Sum F_Sum 2 ∈ gTB := gTB_t (gIn1 (List.mem_of_getElem? (i := 228) (by decide +kernel))) (by decide +kernel)
theorem l_Sum_3 : u_lay R_Sum F_Sum 3 ∈ gTB := gTB_t (gIn1 (List.mem_of_getElem? (i := 230) (by decide +kernel))) (by decide +kernel)
theorem l_Sum_4 : u_lay R_Sum F_Sum 4 ∈ gTB := gTB_t (gIn1 (List.mem_of_getElem? (i := 232) (by decide +kernel))) (by decide +kernel)
theorem l_Sum : ∀ w ∈ u_ws R_Sum F_Sum 5, w ∈ gTB := fun w hw => by
  obtain ⟨k, hk, rfl⟩ := List.mem_map.mp hw
  have hk := List.mem_range.mp hk
  match k, hk with
  | 0, _ => exact l_Sum_0
  | 1, _ => exact l_Sum_1
  | 2, _ => exact l_Sum_2
  | 3, _ => exact l_Sum_3
  | 4, _ => exact l_Sum_4
  | k + 5, hk => exact absurd hk (by omega)
theorem l_Stg_0 : u_lay R_Stg F_Stg 0 ∈ gTB := gTB_t (gIn2 (List.mem_of_getElem? (i := 15) (by decide +kernel))) (by decide +kernel)
theorem l_Stg_1 : u_lay R_Stg F_Stg 1 ∈ gTB := gTB_t (gIn2 (List.mem_of_getElem? (i := 17) (by decide +kernel))) (by decide +kernel)
theorem l_Stg_2 : u_lay R_Stg F_Stg 2 ∈ gTB := gTB_t (gIn2 (List.mem_of_getElem? (i := 19) (by decide +kernel))) (by decide +kernel)
theorem l_Stg_3 : u_lay R_Stg F_Stg 3 ∈ gTB := gTB_t (gIn2 (List.mem_of_getElem? (i := 21) (by decide +kernel))) (by decide +kernel)
theorem l_Stg_4 : u_lay R_Stg F_Stg 4 ∈ gTB := gTB_t (gIn2 (List.mem_of_getElem? (i := 23) (by decide +kernel))) (by decide +kernel)
theorem l_Stg_5 : u_lay R_Stg F_Stg 5 ∈ gTB := gTB_t (gIn2 (List.mem_of_getElem? (i := 25) (by decide +kernel))) (by decide +kernel)
theorem l_Stg_6 : u_lay R_Stg F_Stg 6 ∈ gTB := gTB_t (gIn2 (List.mem_of_getElem? (i := 27) (by decide +kernel))) (by decide +kernel)
theorem l_Stg_7 : u_lay R_Stg F_Stg 7 ∈ gTB := gTB_t (gIn2 (List.mem_of_getElem? (i := 29) (by decide +kernel))) (by decide +kernel)
theorem l_Stg_8 : u_lay R_Stg F_Stg 8 ∈ gTB := gTB_t (gIn2 (List.mem_of_getElem? (i := 31) (by decide +kernel))) (by decide +kernel)
theorem l_Stg : ∀ w ∈ u_ws R_Stg F_Stg 9, w ∈ gTB := fun w hw => by
  obtain ⟨k, hk, rfl⟩ := List.mem_map.mp hw
  have hk := List.mem_range.mp hk
  match k, hk with
  | 0, _ => exact l_Stg_0
  | 1, _ => exact l_Stg_1
  | 2, _ => exact l_Stg_2
  | 3, _ => exact l_Stg_3
  | 4, _ => exact l_Stg_4
  | 5, _ => exact l_Stg_5
  | 6, _ => exact l_Stg_6
  | 7, _ => exact l_Stg_7
  | 8, _ => exact l_Stg_8
  | k + 9, hk => exact absurd hk (by omega)
theorem l_Cho_0 : u_lay R_Cho F_Cho 0 ∈ gTB := gTB_t (gIn1 (List.mem_of_getElem? (i := 142) (by decide +kernel))) (by decide +kernel)
theorem l_Cho_1 : u_lay R_Cho F_Cho 1 ∈ gTB := gTB_t (gIn1 (List.mem_of_getElem? (i := 144) (by decide +kernel))) (by decide +kernel)
theorem l_Cho_2 : u_lay R_Cho F_Cho 2 ∈ gTB := gTB_t (gIn1 (List.mem_of_getElem? (i := 146) (by decide +kernel))) (by decide +kernel)
theorem l_Cho : ∀ w ∈ u_ws R_Cho F_Cho 3, w ∈ gTB := fun w hw => by
  obtain ⟨k, hk, rfl⟩ := List.mem_map.mp hw
  have hk := List.mem_range.mp hk
  match k, hk with
  | 0, _ => exact l_Cho_0
  | 1, _ => exact l_Cho_1
  | 2, _ => exact l_Cho_2
  | k + 3, hk => exact absurd hk (by omega)
theorem l_PS_0 : u_lay R_PS F_PS 0 ∈ gTB := gTB_t (gIn2 (List.mem_of_getElem? (i := 42) (by decide +kernel))) (by decide +kernel)
theorem l_PS_1 : u_lay R_PS F_PS 1 ∈ gTB := gTB_t (gIn2 (List.mem_of_getElem? (i := 44) (by decide +kernel))) (by decide +kernel)
theorem l_PS_2 : u_lay R_PS F_PS 2 ∈ gTB := gTB_t (gIn2 (List.mem_of_getElem? (i := 46) (by decide +kernel))) (by decide +kernel)
theorem l_PS_3 : u_lay R_PS F_PS 3 ∈ gTB := gTB_t (gIn2 (List.mem_of_getElem? (i := 48) (by decide +kernel))) (by decide +kernel)
theorem l_PS_4 : u_lay R_PS F_PS 4 ∈ gTB := gTB_t (gIn2 (List.mem_of_getElem? (i := 50) (by decide +kernel))) (by decide +kernel)
theorem l_PS_5 : u_lay R_PS F_PS 5 ∈ gTB := gTB_t (gIn2 (List.mem_of_getElem? (i := 52) (by decide +kernel))) (by decide +kernel)
theorem l_PS_6 : u_lay R_PS F_PS 6 ∈ gTB := gTB_t (gIn2 (List.mem_of_getElem? (i := 54) (by decide +kernel))) (by decide +kernel)
theorem l_PS_7 : u_lay R_PS F_PS 7 ∈ gTB := gTB_t (gIn2 (List.mem_of_getElem? (i := 56) (by decide +kernel))) (by decide +kernel)
theorem l_PS : ∀ w ∈ u_ws R_PS F_PS 8, w ∈ gTB := fun w hw => by
  obtain ⟨k, hk, rfl⟩ := List.mem_map.mp hw
  have hk := List.mem_range.mp hk
  match k, hk with
  | 0, _ => exact l_PS_0
  | 1, _ => exact l_PS_1
  | 2, _ => exact l_PS_2
  | 3, _ => exact l_PS_3
  | 4, _ => exact l_PS_4
  | 5, _ => exact l_PS_5
  | 6, _ => exact l_PS_6
  | 7, _ => exact l_PS_7
  | k + 8, hk => exact absurd hk (by omega)
theorem l_Mod_0 : u_lay R_Mod F_Mod 0 ∈ gTB := gTB_t (gIn3 (List.mem_of_getElem? (i := 227) (by decide +kernel))) (by decide +kernel)
theorem l_Mod_1 : u_lay R_Mod F_Mod 1 ∈ gTB := gTB_t (gIn3 (List.mem_of_getElem? (i := 229) (by decide +kernel))) (by decide +kernel)
theorem l_Mod_2 : u_lay R_Mod F_Mod 2 ∈ gTB := gTB_t (gIn3 (List.mem_of_getElem? (i := 231) (by decide +kernel))) (by decide +kernel)
theorem l_Mod_3 : u_lay R_Mod F_Mod 3 ∈ gTB := gTB_t (gIn3 (List.mem_of_getElem? (i := 233) (by decide +kernel))) (by decide +kernel)
theorem l_Mod_4 : u_lay R_Mod F_Mod 4 ∈ gTB := gTB_t (gIn3 (List.mem_of_getElem? (i := 235) (by decide +kernel))) (by decide +kernel)
theorem l_Mod_5 : u_lay R_Mod F_Mod 5 ∈ gTB := gTB_t (gIn3 (List.mem_of_getElem? (i := 237) (by decide +kernel))) (by decide +kernel)
theorem l_Mod_6 : u_lay R_Mod F_Mod 6 ∈ gTB := gTB_t (gIn3 (List.mem_of_getElem? (i := 239) (by decide +kernel))) (by decide +kernel)
theorem l_Mod_7 : u_lay R_Mod F_Mod 7 ∈ gTB := gTB_t (gIn4 (List.mem_of_getElem? (i := 1) (by decide +kernel))) (by decide +kernel)
theorem l_Mod_8 : u_lay R_Mod F_Mod 8 ∈ gTB := gTB_t (gIn4 (List.mem_of_getElem? (i := 3) (by decide +kernel))) (by decide +kernel)
theorem l_Mod_9 : u_lay R_Mod F_Mod 9 ∈ gTB := gTB_t (gIn4 (List.mem_of_getElem? (i := 5) (by decide +kernel))) (by decide +kernel)
theorem l_Mod_10 : u_lay R_Mod F_Mod 10 ∈ gTB := gTB_t (gIn4 (List.mem_of_getElem? (i := 7) (by decide +kernel))) (by decide +kernel)
theorem l_Mod_11 : u_lay R_Mod F_Mod 11 ∈ gTB := gTB_t (gIn4 (List.mem_of_getElem? (i := 9) (by decide +kernel))) (by decide +kernel)
theorem l_Mod_12 : u_lay R_Mod F_Mod 12 ∈ gTB := gTB_t (gIn4 (List.mem_of_getElem? (i := 11) (by decide +kernel))) (by decide +kernel)
theorem l_Mod_13 : u_lay R_Mod F_Mod 13 ∈ gTB := gTB_t (gIn4 (List.mem_of_getElem? (i := 13) (by decide +kernel))) (by decide +kernel)
theorem l_Mod_14 : u_lay R_Mod F_Mod 14 ∈ gTB := gTB_t (gIn4 (List.mem_of_getElem? (i := 15) (by decide +kernel))) (by decide +kernel)
theorem l_Mod_15 : u_lay R_Mod F_Mod 15 ∈ gTB := gTB_t (gIn4 (List.mem_of_getElem? (i := 17) (by decide +kernel))) (by decide +kernel)
theorem l_Mod_16 : u_lay R_Mod F_Mod 16 ∈ gTB := gTB_t (gIn4 (List.mem_of_getElem? (i := 19) (by decide +kernel))) (by decide +kernel)
theorem l_Mod_17 : u_lay R_Mod F_Mod 17 ∈ gTB := gTB_t (gIn4 (List.mem_of_getElem? (i := 21) (by decide +kernel))) (by decide +kernel)
theorem l_Mod_18 : u_lay R_Mod F_Mod 18 ∈ gTB := gTB_t (gIn4 (List.mem_of_getElem? (i := 23) (by decide +kernel))) (by decide +kernel)
theorem l_Mod_19 : u_lay R_Mod F_Mod 19 ∈ gTB := gTB_t (gIn4 (List.mem_of_getElem? (i := 25) (by decide +kernel))) (by decide +kernel)
theorem l_Mod_20 : u_lay R_Mod F_Mod 20 ∈ gTB := gTB_t (gIn4 (List.mem_of_getElem? (i := 27) (by decide +kernel))) (by decide +kernel)
theorem l_Mod_21 : u_lay R_Mod F_Mod 21 ∈ gTB := gTB_t (gIn4 (List.mem_of_getElem? (i := 29) (by decide +kernel))) (by decide +kernel)
theorem l_Mod_22 : u_lay R_Mod F_Mod 22 ∈ gTB := gTB_t (gIn4 (List.mem_of_getElem? (i := 31) (by decide +kernel))) (by decide +kernel)
theorem l_Mod_23 : u_lay R_Mod F_Mod 23 ∈ gTB := gTB_t (gIn4 (List.mem_of_getElem? (i := 33) (by decide +kernel))) (by decide +kernel)
theorem l_Mod_24 : u_lay R_Mod F_Mod 24 ∈ gTB := gTB_t (gIn4 (List.mem_of_getElem? (i := 35) (by decide +kernel))) (by decide +kernel)
theorem l_Mod_25 : u_lay R_Mod F_Mod 25 ∈ gTB := gTB_t (gIn4 (List.mem_of_getElem? (i := 37) (by decide +kernel))) (by decide +kernel)
theorem l_Mod_26 : u_lay R_Mod F_Mod 26 ∈ gTB := gTB_t (gIn4 (List.mem_of_getElem? (i := 39) (by decide +kernel))) (by decide +kernel)
theorem l_Mod_27 : u_lay R_Mod F_Mod 27 ∈ gTB := gTB_t (gIn4 (List.mem_of_getElem? (i := 41) (by decide +kernel))) (by decide +kernel)
theorem l_Mod_28 : u_lay R_Mod F_Mod 28 ∈ gTB := gTB_t (gIn4 (List.mem_of_getElem? (i := 43) (by decide +kernel))) (by decide +kernel)
theorem l_Mod_29 : u_lay R_Mod F_Mod 29 ∈ gTB := gTB_t (gIn4 (List.mem_of_getElem? (i := 45) (by decide +kernel))) (by decide +kernel)
theorem l_Mod_30 : u_lay R_Mod F_Mod 30 ∈ gTB := gTB_t (gIn4 (List.mem_of_getElem? (i := 47) (by decide +kernel))) (by decide +kernel)
theorem l_Mod_31 : u_lay R_Mod F_Mod 31 ∈ gTB := gTB_t (gIn4 (List.mem_of_getElem? (i := 49) (by decide +kernel))) (by decide +kernel)
theorem l_Mod_32 : u_lay R_Mod F_Mod 32 ∈ gTB := gTB_t (gIn4 (List.mem_of_getElem? (i := 51) (by decide +kernel))) (by decide +kernel)
theorem l_Mod_33 : u_lay R_Mod F_Mod 33 ∈ gTB := gTB_t (gIn4 (List.mem_of_getElem? (i := 53) (by decide +kernel))) (by decide +kernel)
theorem l_Mod_34 : u_lay R_Mod F_Mod 34 ∈ gTB := gTB_t (gIn4 (List.mem_of_getElem? (i := 55) (by decide +kernel))) (by decide +kernel)
theorem l_Mod_35 : u_lay R_Mod F_Mod 35 ∈ gTB := gTB_t (gIn4 (List.mem_of_getElem? (i := 57) (by decide +kernel))) (by decide +kernel)
theorem l_Mod_36 : u_lay R_Mod F_Mod 36 ∈ gTB := gTB_t (gIn4 (List.mem_of_getElem? (i := 59) (by decide +kernel))) (by decide +kernel)
theorem l_Mod_37 : u_lay R_Mod F_Mod 37 ∈ gTB := gTB_t (gIn4 (List.mem_of_getElem? (i := 61) (by decide +kernel))) (by decide +kernel)
theorem l_Mod_38 : u_lay R_Mod F_Mod 38 ∈ gTB := gTB_t (gIn4 (List.mem_of_getElem? (i := 63) (by decide +kernel))) (by decide +kernel)
theorem l_Mod_39 : u_lay R_Mod F_Mod 39 ∈ gTB := gTB_t (gIn4 (List.mem_of_getElem? (i := 65) (by decide +kernel))) (by decide +kernel)
theorem l_Mod_40 : u_lay R_Mod F_Mod 40 ∈ gTB := gTB_t (gIn4 (List.mem_of_getElem? (i := 67) (by decide +kernel))) (by decide +kernel)
theorem l_Mod_41 : u_lay R_Mod F_Mod 41 ∈ gTB := gTB_t (gIn4 (List.mem_of_getElem? (i := 69) (by decide +kernel))) (by decide +kernel)
theorem l_Mod_42 : u_lay R_Mod F_Mod 42 ∈ gTB := gTB_t (gIn4 (List.mem_of_getElem? (i := 71) (by decide +kernel))) (by decide +kernel)
theorem l_Mod_43 : u_lay R_Mod F_Mod 43 ∈ gTB := gTB_t (gIn4 (List.mem_of_getElem? (i := 73) (by decide +kernel))) (by decide +kernel)
theorem l_Mod_44 : u_lay R_Mod F_Mod 44 ∈ gTB := gTB_t (gIn4 (List.mem_of_getElem? (i := 75) (by decide +kernel))) (by decide +kernel)
theorem l_Mod_45 : u_lay R_Mod F_Mod 45 ∈ gTB := gTB_t (gIn4 (List.mem_of_getElem? (i := 77) (by decide +kernel))) (by decide +kernel)
theorem l_Mod_46 : u_lay R_Mod F_Mod 46 ∈ gTB := gTB_t (gIn4 (List.mem_of_getElem? (i := 79) (by decide +kernel))) (by decide +kernel)
theorem l_Mod_47 : u_lay R_Mod F_Mod 47 ∈ gTB := gTB_t (gIn4 (List.mem_of_getElem? (i := 81) (by decide +kernel))) (by decide +kernel)
theorem l_Mod_48 : u_lay R_Mod F_Mod 48 ∈ gTB := gTB_t (gIn4 (List.mem_of_getElem? (i := 83) (by decide +kernel))) (by decide +kernel)
theorem l_Mod_49 : u_lay R_Mod F_Mod 49 ∈ gTB := gTB_t (gIn4 (List.mem_of_getElem? (i := 85) (by decide +kernel))) (by decide +kernel)
theorem l_Mod_50 : u_lay R_Mod F_Mod 50 ∈ gTB := gTB_t (gIn4 (List.mem_of_getElem? (i := 87) (by decide +kernel))) (by decide +kernel)
theorem l_Mod_51 : u_lay R_Mod F_Mod 51 ∈ gTB := gTB_t (gIn4 (List.mem_of_getElem? (i := 89) (by decide +kernel))) (by decide +kernel)
theorem l_Mod : ∀ w ∈ u_ws R_Mod F_Mod 52, w ∈ gTB := fun w hw => by
  obtain ⟨k, hk, rfl⟩ := List.mem_map.mp hw
  have hk := List.mem_range.mp hk
  match k, hk with
  | 0, _ => exact l_Mod_0
  | 1, _ => exact l_Mod_1
  | 2, _ => exact l_Mod_2
  | 3, _ => exact l_Mod_3
  | 4, _ => exact l_Mod_4
  | 5, _ => exact l_Mod_5
  | 6, _ => exact l_Mod_6
  | 7, _ => exact l_Mod_7
  | 8, _ => exact l_Mod_8
  | 9, _ => exact l_Mod_9
  | 10, _ => exact l_Mod_10
  | 11, _ => exact l_Mod_11
  | 12, _ => exact l_Mod_12
  | 13, _ => exact l_Mod_13
  | 14, _ => exact l_Mod_14
  | 15, _ => exact l_Mod_15
  | 16, _ => exact l_Mod_16
  | 17, _ => exact l_Mod_17
  | 18, _ => exact l_Mod_18
  | 19, _ => exact l_Mod_19
  | 20, _ => exact l_Mod_20
  | 21, _ => exact l_Mod_21
  | 22, _ => exact l_Mod_22
  | 23, _ => exact l_Mod_23
  | 24, _ => exact l_Mod_24
  | 25, _ => exact l_Mod_25
  | 26, _ => exact l_Mod_26
  | 27, _ => exact l_Mod_27
  | 28, _ => exact l_Mod_28
  | 29, _ => exact l_Mod_29
  | 30, _ => exact l_Mod_30
  | 31, _ => exact l_Mod_31
  | 32, _ => exact l_Mod_32
  | 33, _ => exact l_Mod_33
  | 34, _ => exact l_Mod_34
  | 35, _ => exact l_Mod_35
  | 36, _ => exact l_Mod_36
  | 37, _ => exact l_Mod_37
  | 38, _ => exact l_Mod_38
  | 39, _ => exact l_Mod_39
  | 40, _ => exact l_Mod_40
  | 41, _ => exact l_Mod_41
  | 42, _ => exact l_Mod_42
  | 43, _ => exact l_Mod_43
  | 44, _ => exact l_Mod_44
  | 45, _ => exact l_Mod_45
  | 46, _ => exact l_Mod_46
  | 47, _ => exact l_Mod_47
  | 48, _ => exact l_Mod_48
  | 49, _ => exact l_Mod_49
  | 50, _ => exact l_Mod_50
  | 51, _ => exact l_Mod_51
  | k + 52, hk => exact absurd hk (by omega)
end
section
def gNest : Cond → Bool
  | .fieldLinkNest .. => true
  | .methodLinkNest .. => true
  | .arrayOver (.object _) => true
  | _ => false
def gNW : List Cond := lw_tbl.filter gNest
theorem gNW_in {w : Cond} (h : w ∈ tables_1) (hn : gNest w = true) : w ∈ gNW := List.mem_filter.mpr ⟨List.mem_append_right _ h, hn⟩
theorem gNW_moved (w : Cond) (hw : w ∈ gNW) {s U : State} (hW : s.WarmedH U.vm) (h : va_Nw w s) : va_Nw w U := by
  have hn : gNest w = true := (List.mem_filter.mp hw).2
  cases w <;> first | exact va_Nw.warmF hW h | exact va_Nw.warmM hW h | exact absurd hn Bool.false_ne_true | (rename_i ty; cases ty <;> first | exact va_AO.moved hW.alike h | exact absurd hn Bool.false_ne_true)
-- ===== THE LAYER: an abstract memory, and the machine's steps over it =====
/-- a memory: cells by address; how many cells the heap has; how many slots were taken so far -/
abbrev gM : Type := (Nat → Option va_E) × Nat × Nat
/-- what stays in a run: D; the number of each kind of array; the first address that is ours; the script (address, length, ints); addresses of the static tables -/
abbrev gG : Type := va_G × (Nat → ClassId) × Nat × Nat × Nat × (Nat → Int32) × (Nat → Nat)
abbrev gL : Type := List (Nat × Value)
/-- a frame's state: place, locals, operand stack, memory -/
abbrev gS : Type := Nat × gL × List Value × gM
/-- a method: name, bytes, locals, what it returns -/
abbrev gY : Type := MethodName × ByteArray × Nat × Option FieldType
def gRd (M : gM) (a : Nat) : Option va_E := M.1 a
def gWr (M : gM) (a : Nat) (e : va_E) : gM := (fun q => if q = a then some e else M.1 q, M.2)
def gNw (M : gM) (e : va_E) (k : Nat) : gM := (fun q => if q = M.2.1 then some e else M.1 q, M.2.1 + 1, M.2.2 + k)
theorem gRd_s (M : gM) (a : Nat) (e : va_E) : gRd (gWr M a e) a = some e := if_pos rfl
theorem gRd_n (M : gM) {a b : Nat} (e : va_E) (h : b ≠ a) : gRd (gWr M a e) b = gRd M b := if_neg h
theorem gRd_ns (M : gM) (e : va_E) (k : Nat) : gRd (gNw M e k) M.2.1 = some e := if_pos rfl
theorem gRd_nn (M : gM) {b : Nat} (e : va_E) (k : Nat) (h : b ≠ M.2.1) : gRd (gNw M e k) b = gRd M b := if_neg h
theorem gM_ext {M N : gM} (h : ∀ q, gRd M q = gRd N q) (h2 : M.2 = N.2) : M = N := Prod.ext (funext h) h2
theorem gWr_wr (M : gM) (a : Nat) (e f : va_E) : gWr (gWr M a e) a f = gWr M a f := by
  refine gM_ext (fun q => ?_) rfl
  by_cases h : q = a
  · subst h; rw [gRd_s, gRd_s]
  · rw [gRd_n _ _ h, gRd_n _ _ h, gRd_n _ _ h]
theorem gWr_cm (M : gM) {a b : Nat} (e f : va_E) (h : a ≠ b) : gWr (gWr M a e) b f = gWr (gWr M b f) a e := by
  refine gM_ext (fun q => ?_) rfl
  by_cases h1 : q = a
  · subst h1; rw [gRd_n _ _ h, gRd_s, gRd_s]
  · by_cases h2 : q = b
    · subst h2; rw [gRd_s, gRd_n _ _ h1, gRd_s]
    · rw [gRd_n _ _ h2, gRd_n _ _ h1, gRd_n _ _ h1, gRd_n _ _ h2]
theorem gWr_id {M : gM} {a : Nat} {e : va_E} (h : gRd M a = some e) : gWr M a e = M := by
  refine gM_ext (fun q => ?_) rfl
  by_cases h1 : q = a
  · subst h1; rw [gRd_s, h]
  · rw [gRd_n _ _ h1]
theorem gNe {M : gM} {a b : Nat} {x : ClassId × vp_A} {o : Nat × List Value} (h1 : gRd M a = some (.inr o)) (h2 : gRd M b = some (.inl x)) : a ≠ b := fun e => by
  rw [e, h2] at h1; cases h1
theorem gNeC {M : gM} {a b : Nat} {o o2 : Nat × List Value} (h1 : gRd M a = some (.inr o)) (h2 : gRd M b = some (.inr o2)) (h : o.1 ≠ o2.1) : a ≠ b := fun e => by
  rw [e, h2] at h1; cases h1; exact h rfl
-- the tables
def gArr (G : gG) (U : State) : Prop := ∀ (i : Nat) (ty : FieldType), gTys[i]? = some ty → ArrOfT U (G.2.1 i) ty ∧ va_RA U (G.2.1 i) ty
def gT (G : gG) (U : State) : Prop :=
  (∀ w ∈ gTB, ∀ a : Array Value, w.before a U = true) ∧ (∀ w ∈ gNW, va_Nw w U) ∧
  (∀ (c : Nat) (q : vw_C), classes[c]? = some q → u_Kn U q.1 q.2.1 q.2.2 (G.1.1 c) (G.1.2 c)) ∧ gArr G U
theorem gT.moved {G : gG} {s U : State} (hW : s.WarmedH U.vm) (h : gT G s) : gT G U :=
  ⟨fun w hw a => word_at hW (gTB_good w hw) (h.1 w hw #[]), fun w hw => gNW_moved w hw hW (h.2.1 w hw), fun c q hq => u_Kn_moved hW.alike (h.2.2.1 c q hq), fun i ty hi => ⟨arrOfT_moved hW.alike (h.2.2.2 i ty hi).1, (h.2.2.2 i ty hi).2.moved hW.alike⟩⟩
theorem gT.K {G : gG} {s : State} (h : gT G s) : va_K G.1 classes [] s := ⟨h.2.2.1, fun k q hk => by simp at hk⟩
def gA (G : gG) : Nat → Prop := fun q => G.2.2.1 ≤ q
-- script and static tables
def gSn (i : Nat) : String := if i = 0 then "FIRST_VALUES" else if i = 1 then "LEAST_VALUES" else "MOST_VALUES"
def gSv (i j : Nat) : Int32 := ((([[60, 200, 10, 50, 0], [10, 0, 0, 0, 0], [400, 10000, 100, 200, 10000]] : List (List Int32)).getD i []).getD j 0)
def gZ (G : gG) (U : State) (H : Heap) : Prop := va_X G.2.2.2.1 G.2.2.2.2.1 G.2.2.2.2.2.1 U H ∧ G.2.2.2.1 < G.2.2.1 ∧ G.2.2.2.1 < H.size ∧
  ∀ i, i < 3 → va_Z "ParagraphSetter" (gSn i) "[I" (.ref (G.2.2.2.2.2.2 i)) (gA G) U H ∧ va_T .int (G.2.2.2.2.2.2 i) 5 (fun j => .int (gSv i j)) (gA G) U H
theorem gZ.moved {G : gG} {u U : State} {H : Heap} (hvm : u.vm.Alike U.vm) (h : gZ G u H) : gZ G U H :=
  ⟨h.1.moved hvm, h.2.1, h.2.2.1, fun i hi => ⟨(h.2.2.2 i hi).1.moved hvm, (h.2.2.2 i hi).2.moved hvm⟩⟩
theorem gZ.kept {G : gG} {U : State} {H H1 : Heap} (h : gZ G U H) (hq : ∀ a : Nat, a < H.size → ¬ gA G a → H1[a]? = H[a]?) : gZ G U H1 := by
  have hb : H1[G.2.2.2.1]? = H[G.2.2.2.1]? := hq _ h.2.2.1 (fun q => absurd (Nat.lt_of_lt_of_le h.2.1 q) (Nat.lt_irrefl _))
  have hx := h.1.kept hb
  refine ⟨hx, h.2.1, ?_, fun i hi => ⟨(h.2.2.2 i hi).1.kept hq, (h.2.2.2 i hi).2.kept hq⟩⟩
  obtain ⟨scr, h1, -⟩ := hx
  exact (Array.getElem?_eq_some_iff.mp h1).1
-- memory and heap
def gR (G : gG) (M : gM) (H : Heap) : Prop := (∀ (a : Nat) (e : va_E), M.1 a = some e → G.2.2.1 ≤ a ∧ va_at G.1 classes (a, e) H) ∧ H.size = M.2.1
theorem gR.at {G : gG} {M : gM} {H : Heap} (h : gR G M H) {a : Nat} {e : va_E} (ha : gRd M a = some e) : va_at G.1 classes (a, e) H := (h.1 a e ha).2
theorem gR.lo {G : gG} {M : gM} {H : Heap} (h : gR G M H) {a : Nat} {e : va_E} (ha : gRd M a = some e) : gA G a := (h.1 a e ha).1
theorem gR.set {G : gG} {M : gM} {H H1 : Heap} (h : gR G M H) {a : Nat} {e0 e : va_E} (ha : gRd M a = some e0) (he : va_at G.1 classes (a, e) H1) (z : H1.size = H.size) (oq : ∀ q : Nat, q ≠ a → H1[q]? = H[q]?) : gR G (gWr M a e) H1 := by
  refine ⟨fun b f hb => ?_, z.trans h.2⟩
  by_cases hba : b = a
  · subst hba
    have : f = e := by
      have h2 : gRd (gWr M b e) b = some f := hb
      rw [gRd_s] at h2; exact (Option.some.inj h2).symm
    subst this
    exact ⟨(h.1 b e0 ha).1, he⟩
  · have h2 : gRd M b = some f := by
      have h3 : gRd (gWr M a e) b = some f := hb
      rw [gRd_n _ _ hba] at h3; exact h3
    exact ⟨(h.1 b f h2).1, (h.1 b f h2).2.kept (oq b hba)⟩
theorem gR.push {G : gG} {M : gM} {H H1 : Heap} (h : gR G M H) {e : va_E} {k : Nat} (hb0 : G.2.2.1 ≤ H.size) (he : va_at G.1 classes (H.size, e) H1) (z : H1.size = H.size + 1) (oq : ∀ q : Nat, q < H.size → H1[q]? = H[q]?) : gR G (gNw M e k) H1 := by
  refine ⟨fun b f hb => ?_, by rw [z, h.2]; rfl⟩
  by_cases hba : b = M.2.1
  · subst hba
    have : f = e := by
      have h2 : gRd (gNw M e k) M.2.1 = some f := hb
      rw [gRd_ns] at h2; exact (Option.some.inj h2).symm
    subst this
    rw [← h.2]
    exact ⟨hb0, he⟩
  · have h2 : gRd M b = some f := by
      have h3 : gRd (gNw M e k) b = some f := hb
      rw [gRd_nn _ _ _ hba] at h3; exact h3
    have h4 := (h.1 b f h2).2
    exact ⟨(h.1 b f h2).1, h4.kept (oq b h4.lt)⟩
/-- what a frame of the method k stands in: the machine, the code, the tables, the script and the static tables, room for d frames above it -/
def gK (G : gG) (k : gY) (d : Nat) (p : Program) (R : Room) (s : State) (m : MethodId) (meth : Method) (c : Code) : Prop :=
  p.tables.exec = Jvm.exec ∧ c.code = k.2.1 ∧ c.maxLocals = k.2.2.1 ∧ s.vm.findClass k.1.cls = some m.cls ∧ meth.name = k.1.name ∧ gT G s ∧ gZ G s s.heap ∧ G.2.2.1 ≤ s.heap.size ∧ d ≤ R.frames ∧ 40 * d ≤ R.locals
def gX (G : gG) (k : gY) (p : Program) (l : Launch) (e : Env) (R : Room) (s : State) (m : MethodId) (args : Array Value) (below : List Frame) (meth : Method) (c : Code) (u0 : Nat) (Q : State → Prop) (S : gS) : Prop :=
  ∀ (H : Heap) (locs : List Loc) (ls : Array Slot), gR G S.2.2.2 H → va_S (gA G) s.heap H locs → lv_has ls k.2.2.1 S.2.1 →
    W p l e R s m args below meth c H locs (S.2.2.2.2.1 - s.heap.size) (S.2.2.2.2.2 - u0) Q (F0 m S.1 ls S.2.2.1)
/-- from S the frame comes to S' -/
def Go (G : gG) (k : gY) (d : Nat) (S S' : gS) : Prop :=
  (S.2.2.2.2.1 ≤ S'.2.2.2.2.1 ∧ S.2.2.2.2.2 ≤ S'.2.2.2.2.2) ∧
  ∀ (p : Program) (l : Launch) (e : Env) (R : Room) (s : State) (m : MethodId) (args : Array Value) (below : List Frame) (meth : Method) (c : Code) (u0 : Nat) (Q : State → Prop), gK G k d p R s m meth c → s.heap.size ≤ S.2.2.2.2.1 → u0 ≤ S.2.2.2.2.2 →
    S'.2.2.2.2.1 ≤ s.heap.size + R.cells → S'.2.2.2.2.2 ≤ u0 + R.slots → gX G k p l e R s m args below meth c u0 Q S' → gX G k p l e R s m args below meth c u0 Q S
theorem Go.rf {G : gG} {k : gY} {d : Nat} {S : gS} : Go G k d S S := ⟨⟨Nat.le_refl _, Nat.le_refl _⟩, fun _ _ _ _ _ _ _ _ _ _ _ _ _ _ _ _ _ h => h⟩
theorem Go.tr {G : gG} {k : gY} {d : Nat} {S S1 S2 : gS} (h1 : Go G k d S S1) (h2 : Go G k d S1 S2) : Go G k d S S2 := by
  obtain ⟨⟨a1, a2⟩, f1⟩ := h1
  obtain ⟨⟨b1, b2⟩, f2⟩ := h2
  refine ⟨⟨Nat.le_trans a1 b1, Nat.le_trans a2 b2⟩, ?_⟩
  intro p l e R s m args below meth c u0 Q hK h3 h4 h5 h6 hX
  exact f1 p l e R s m args below meth c u0 Q hK h3 h4 (Nat.le_trans b1 h5) (Nat.le_trans b2 h6) (f2 p l e R s m args below meth c u0 Q hK (Nat.le_trans h3 a1) (Nat.le_trans h4 a2) h5 h6 hX)
theorem Go.up {G : gG} {k : gY} {d d' : Nat} {S S' : gS} (h : Go G k d S S') (hd : d ≤ d') : Go G k d' S S' := by
  refine ⟨h.1, ?_⟩
  intro p l e R s m args below meth c u0 Q hK
  obtain ⟨k1, k2, k3, k4, k5, k6, k7, k8, k9, k10⟩ := hK
  exact h.2 p l e R s m args below meth c u0 Q ⟨k1, k2, k3, k4, k5, k6, k7, k8, Nat.le_trans hd k9, by omega⟩
theorem Go.eq {G : gG} {k : gY} {d : Nat} {S S1 S' : gS} (e : S = S1) (h : Go G k d S1 S') : Go G k d S S' := e ▸ h
theorem Go.to {G : gG} {k : gY} {d : Nat} {S S1 S' : gS} (e : S1 = S') (h : Go G k d S S1) : Go G k d S S' := e ▸ h
/-- a step that touches neither memory nor locals -/
theorem Go.pure {G : gG} {k : gY} {d pc pc' : Nat} {lv : gL} {st st' : List Value} {M : gM}
    (h : ∀ (p : Program) (l : Launch) (e : Env) (R : Room) (s : State) (m : MethodId) (args : Array Value) (below : List Frame) (meth : Method) (c : Code) (H : Heap) (locs : List Loc) (cells slots : Nat) (Q : State → Prop) (ls : Array Slot), gK G k d p R s m meth c → va_S (gA G) s.heap H locs → gR G M H → cells ≤ R.cells → slots ≤ R.slots → lv_has ls k.2.2.1 lv → W p l e R s m args below meth c H locs cells slots Q (F0 m pc' ls st') → W p l e R s m args below meth c H locs cells slots Q (F0 m pc ls st)) :
    Go G k d (pc, lv, st, M) (pc', lv, st', M) := by
  refine ⟨⟨Nat.le_refl _, Nat.le_refl _⟩, ?_⟩
  intro p l e R s m args below meth c u0 Q hK h3 h4 h5 h6 hX H locs ls hR hS hl
  dsimp only at h3 h4 h5 h6
  exact h p l e R s m args below meth c H locs _ _ Q ls hK hS hR (by dsimp only; omega) (by dsimp only; omega) hl (hX H locs ls hR hS hl)
/-- a step that changes the locals alone -/
theorem Go.loc {G : gG} {k : gY} {d pc pc' : Nat} {lv lv' : gL} {st st' : List Value} {M : gM}
    (h : ∀ (p : Program) (l : Launch) (e : Env) (R : Room) (s : State) (m : MethodId) (args : Array Value) (below : List Frame) (meth : Method) (c : Code) (H : Heap) (locs : List Loc) (cells slots : Nat) (Q : State → Prop) (ls : Array Slot), gK G k d p R s m meth c → lv_has ls k.2.2.1 lv → (∀ ls' : Array Slot, lv_has ls' k.2.2.1 lv' → W p l e R s m args below meth c H locs cells slots Q (F0 m pc' ls' st')) → W p l e R s m args below meth c H locs cells slots Q (F0 m pc ls st)) :
    Go G k d (pc, lv, st, M) (pc', lv', st', M) := by
  refine ⟨⟨Nat.le_refl _, Nat.le_refl _⟩, ?_⟩
  intro p l e R s m args below meth c u0 Q hK h3 h4 h5 h6 hX H locs ls hR hS hl
  exact h p l e R s m args below meth c H locs _ _ Q ls hK hl (fun ls' hl' => hX H locs ls' hR hS hl')
/-- fewer locals, in any order -/
theorem Go.sub {G : gG} {k : gY} {d pc : Nat} {lv : gL} (lv' : gL) {st : List Value} {M : gM} (h : ∀ q ∈ lv', q ∈ lv) : Go G k d (pc, lv, st, M) (pc, lv', st, M) := by
  refine ⟨⟨Nat.le_refl _, Nat.le_refl _⟩, ?_⟩
  intro p l e R s m args below meth c u0 Q hK h3 h4 h5 h6 hX H locs ls hR hS hl
  exact hX H locs ls hR hS ⟨hl.1, hl.2.1, fun q hq => hl.2.2 q (h q hq)⟩
end
section
-- ===== rows: one instruction each =====
section GROWS
variable {G : gG} {k : gY} {d pc : Nat} {lv : gL} {st : List Value} {M : gM}
theorem go_iconst {n : Int} {v : Int32} (hdg : decode k.2.1 pc = .ok (.iconst n, 1)) (hv : Int32.ofInt n = v) : Go G k d (pc, lv, st, M) (pc + 1, lv, .int v :: st, M) := Go.pure (fun p l e R s m args below meth c H locs cells slots Q ls hK hS hR hc hs hl w => lv_iconst hK.1 hK.2.1 hdg hv w)
theorem go_bipush {n : Int} {v : Int32} (hdg : decode k.2.1 pc = .ok (.bipush n, 2)) (hv : (Int8.ofInt n).toInt32 = v) : Go G k d (pc, lv, st, M) (pc + 2, lv, .int v :: st, M) := Go.pure (fun p l e R s m args below meth c H locs cells slots Q ls hK hS hR hc hs hl w => lv_bipush hK.1 hK.2.1 hdg hv w)
theorem go_sipush {n : Int} {v : Int32} (hdg : decode k.2.1 pc = .ok (.sipush n, 3)) (hv : (Int16.ofInt n).toInt32 = v) : Go G k d (pc, lv, st, M) (pc + 3, lv, .int v :: st, M) := Go.pure (fun p l e R s m args below meth c H locs cells slots Q ls hK hS hR hc hs hl w => lv_sipush hK.1 hK.2.1 hdg hv w)
theorem go_lconst {n : Fin 2} {v : Int64} (hdg : decode k.2.1 pc = .ok (.lconst n, 1)) (hv : Int64.ofNat (n : Nat) = v) : Go G k d (pc, lv, st, M) (pc + 1, lv, .long v :: st, M) := Go.pure (fun p l e R s m args below meth c H locs cells slots Q ls hK hS hR hc hs hl w => lv_lconst hK.1 hK.2.1 hdg hv w)
theorem go_null (hdg : decode k.2.1 pc = .ok (.aconst_null, 1)) : Go G k d (pc, lv, st, M) (pc + 1, lv, .null :: st, M) := Go.pure (fun p l e R s m args below meth c H locs cells slots Q ls hK hS hR hc hs hl w => lv_null hK.1 hK.2.1 hdg w)
theorem go_iload_n {j : Fin 4} {i : Nat} {x : Int32} (hdg : decode k.2.1 pc = .ok (.iload_n j, 1)) (hi : (j : Nat) = i) (n : Nat) (hn : lv[n]? = some (i, .int x)) : Go G k d (pc, lv, st, M) (pc + 1, lv, .int x :: st, M) := Go.pure (fun p l e R s m args below meth c H locs cells slots Q ls hK hS hR hc hs hl w => lv_iload_n hK.1 hK.2.1 hdg hi (lv_at hl n hn) w)
theorem go_iload {i : Nat} {x : Int32} (hdg : decode k.2.1 pc = .ok (.iload i, 2)) (n : Nat) (hn : lv[n]? = some (i, .int x)) : Go G k d (pc, lv, st, M) (pc + 2, lv, .int x :: st, M) := Go.pure (fun p l e R s m args below meth c H locs cells slots Q ls hK hS hR hc hs hl w => lv_iload hK.1 hK.2.1 hdg (lv_at hl n hn) w)
theorem go_lload_n {j : Fin 4} {i : Nat} {x : Int64} (hdg : decode k.2.1 pc = .ok (.lload_n j, 1)) (hi : (j : Nat) = i) (n : Nat) (hn : lv[n]? = some (i, .long x)) : Go G k d (pc, lv, st, M) (pc + 1, lv, .long x :: st, M) := Go.pure (fun p l e R s m args below meth c H locs cells slots Q ls hK hS hR hc hs hl w => lv_lload_n hK.1 hK.2.1 hdg hi (lv_at hl n hn) w)
theorem go_lload {i : Nat} {x : Int64} (hdg : decode k.2.1 pc = .ok (.lload i, 2)) (n : Nat) (hn : lv[n]? = some (i, .long x)) : Go G k d (pc, lv, st, M) (pc + 2, lv, .long x :: st, M) := Go.pure (fun p l e R s m args below meth c H locs cells slots Q ls hK hS hR hc hs hl w => lv_lload hK.1 hK.2.1 hdg (lv_at hl n hn) w)
theorem go_aload_n {j : Fin 4} {i : Nat} {x : Nat} (hdg : decode k.2.1 pc = .ok (.aload_n j, 1)) (hi : (j : Nat) = i) (n : Nat) (hn : lv[n]? = some (i, .ref x)) : Go G k d (pc, lv, st, M) (pc + 1, lv, .ref x :: st, M) := Go.pure (fun p l e R s m args below meth c H locs cells slots Q ls hK hS hR hc hs hl w => lv_aload_n hK.1 hK.2.1 hdg hi (lv_at hl n hn) w)
theorem go_aload {i : Nat} {x : Nat} (hdg : decode k.2.1 pc = .ok (.aload i, 2)) (n : Nat) (hn : lv[n]? = some (i, .ref x)) : Go G k d (pc, lv, st, M) (pc + 2, lv, .ref x :: st, M) := Go.pure (fun p l e R s m args below meth c H locs cells slots Q ls hK hS hR hc hs hl w => lv_aload hK.1 hK.2.1 hdg (lv_at hl n hn) w)
theorem go_aload_nN {j : Fin 4} {i : Nat} (hdg : decode k.2.1 pc = .ok (.aload_n j, 1)) (hi : (j : Nat) = i) (n : Nat) (hn : lv[n]? = some (i, .null)) : Go G k d (pc, lv, st, M) (pc + 1, lv, .null :: st, M) := Go.pure (fun p l e R s m args below meth c H locs cells slots Q ls hK hS hR hc hs hl w => lv_aload_nN hK.1 hK.2.1 hdg hi (lv_at hl n hn) w)
theorem go_aloadN {i : Nat} (hdg : decode k.2.1 pc = .ok (.aload i, 2)) (n : Nat) (hn : lv[n]? = some (i, .null)) : Go G k d (pc, lv, st, M) (pc + 2, lv, .null :: st, M) := Go.pure (fun p l e R s m args below meth c H locs cells slots Q ls hK hS hR hc hs hl w => lv_aloadN hK.1 hK.2.1 hdg (lv_at hl n hn) w)
theorem go_iadd {x y : Int32} (hdg : decode k.2.1 pc = .ok (.iadd, 1)) : Go G k d (pc, lv, .int y :: .int x :: st, M) (pc + 1, lv, .int (x + y) :: st, M) := Go.pure (fun p l e R s m args below meth c H locs cells slots Q ls hK hS hR hc hs hl w => lv_iadd hK.1 hK.2.1 hdg w)
theorem go_isub {x y : Int32} (hdg : decode k.2.1 pc = .ok (.isub, 1)) : Go G k d (pc, lv, .int y :: .int x :: st, M) (pc + 1, lv, .int (x - y) :: st, M) := Go.pure (fun p l e R s m args below meth c H locs cells slots Q ls hK hS hR hc hs hl w => lv_isub hK.1 hK.2.1 hdg w)
theorem go_imul {x y : Int32} (hdg : decode k.2.1 pc = .ok (.imul, 1)) : Go G k d (pc, lv, .int y :: .int x :: st, M) (pc + 1, lv, .int (x * y) :: st, M) := Go.pure (fun p l e R s m args below meth c H locs cells slots Q ls hK hS hR hc hs hl w => lv_imul hK.1 hK.2.1 hdg w)
theorem go_iand {x y : Int32} (hdg : decode k.2.1 pc = .ok (.iand, 1)) : Go G k d (pc, lv, .int y :: .int x :: st, M) (pc + 1, lv, .int (x &&& y) :: st, M) := Go.pure (fun p l e R s m args below meth c H locs cells slots Q ls hK hS hR hc hs hl w => lv_iand hK.1 hK.2.1 hdg w)
theorem go_ior {x y : Int32} (hdg : decode k.2.1 pc = .ok (.ior, 1)) : Go G k d (pc, lv, .int y :: .int x :: st, M) (pc + 1, lv, .int (x ||| y) :: st, M) := Go.pure (fun p l e R s m args below meth c H locs cells slots Q ls hK hS hR hc hs hl w => lv_ior hK.1 hK.2.1 hdg w)
theorem go_ixor {x y : Int32} (hdg : decode k.2.1 pc = .ok (.ixor, 1)) : Go G k d (pc, lv, .int y :: .int x :: st, M) (pc + 1, lv, .int (x ^^^ y) :: st, M) := Go.pure (fun p l e R s m args below meth c H locs cells slots Q ls hK hS hR hc hs hl w => lv_ixor hK.1 hK.2.1 hdg w)
theorem go_ladd {x y : Int64} (hdg : decode k.2.1 pc = .ok (.ladd, 1)) : Go G k d (pc, lv, .long y :: .long x :: st, M) (pc + 1, lv, .long (x + y) :: st, M) := Go.pure (fun p l e R s m args below meth c H locs cells slots Q ls hK hS hR hc hs hl w => lv_ladd hK.1 hK.2.1 hdg w)
theorem go_lsub {x y : Int64} (hdg : decode k.2.1 pc = .ok (.lsub, 1)) : Go G k d (pc, lv, .long y :: .long x :: st, M) (pc + 1, lv, .long (x - y) :: st, M) := Go.pure (fun p l e R s m args below meth c H locs cells slots Q ls hK hS hR hc hs hl w => lv_lsub hK.1 hK.2.1 hdg w)
theorem go_lmul {x y : Int64} (hdg : decode k.2.1 pc = .ok (.lmul, 1)) : Go G k d (pc, lv, .long y :: .long x :: st, M) (pc + 1, lv, .long (x * y) :: st, M) := Go.pure (fun p l e R s m args below meth c H locs cells slots Q ls hK hS hR hc hs hl w => lv_lmul hK.1 hK.2.1 hdg w)
theorem go_idiv {x y : Int32} (hdg : decode k.2.1 pc = .ok (.idiv, 1)) (hne : ¬ y = 0) : Go G k d (pc, lv, .int y :: .int x :: st, M) (pc + 1, lv, .int (x / y) :: st, M) := Go.pure (fun p l e R s m args below meth c H locs cells slots Q ls hK hS hR hc hs hl w => lv_idiv hK.1 hK.2.1 hdg hne w)
theorem go_irem {x y : Int32} (hdg : decode k.2.1 pc = .ok (.irem, 1)) (hne : ¬ y = 0) : Go G k d (pc, lv, .int y :: .int x :: st, M) (pc + 1, lv, .int (x - x / y * y) :: st, M) := Go.pure (fun p l e R s m args below meth c H locs cells slots Q ls hK hS hR hc hs hl w => lv_irem hK.1 hK.2.1 hdg hne w)
theorem go_ldiv {x y : Int64} (hdg : decode k.2.1 pc = .ok (.ldiv, 1)) (hne : ¬ y = 0) : Go G k d (pc, lv, .long y :: .long x :: st, M) (pc + 1, lv, .long (x / y) :: st, M) := Go.pure (fun p l e R s m args below meth c H locs cells slots Q ls hK hS hR hc hs hl w => lv_ldiv hK.1 hK.2.1 hdg hne w)
theorem go_lrem {x y : Int64} (hdg : decode k.2.1 pc = .ok (.lrem, 1)) (hne : ¬ y = 0) : Go G k d (pc, lv, .long y :: .long x :: st, M) (pc + 1, lv, .long (x - x / y * y) :: st, M) := Go.pure (fun p l e R s m args below meth c H locs cells slots Q ls hK hS hR hc hs hl w => lv_lrem hK.1 hK.2.1 hdg hne w)
theorem go_ineg {x : Int32} (hdg : decode k.2.1 pc = .ok (.ineg, 1)) : Go G k d (pc, lv, .int x :: st, M) (pc + 1, lv, .int (-x) :: st, M) := Go.pure (fun p l e R s m args below meth c H locs cells slots Q ls hK hS hR hc hs hl w => lv_ineg hK.1 hK.2.1 hdg w)
theorem go_lneg {x : Int64} (hdg : decode k.2.1 pc = .ok (.lneg, 1)) : Go G k d (pc, lv, .long x :: st, M) (pc + 1, lv, .long (-x) :: st, M) := Go.pure (fun p l e R s m args below meth c H locs cells slots Q ls hK hS hR hc hs hl w => lv_lneg hK.1 hK.2.1 hdg w)
theorem go_ishl {x y : Int32} (hdg : decode k.2.1 pc = .ok (.ishl, 1)) : Go G k d (pc, lv, .int y :: .int x :: st, M) (pc + 1, lv, .int (x <<< (y &&& 31)) :: st, M) := Go.pure (fun p l e R s m args below meth c H locs cells slots Q ls hK hS hR hc hs hl w => lv_ishl hK.1 hK.2.1 hdg w)
theorem go_ishr {x y : Int32} (hdg : decode k.2.1 pc = .ok (.ishr, 1)) : Go G k d (pc, lv, .int y :: .int x :: st, M) (pc + 1, lv, .int (x >>> (y &&& 31)) :: st, M) := Go.pure (fun p l e R s m args below meth c H locs cells slots Q ls hK hS hR hc hs hl w => lv_ishr hK.1 hK.2.1 hdg w)
theorem go_i2l {x : Int32} (hdg : decode k.2.1 pc = .ok (.i2l, 1)) : Go G k d (pc, lv, .int x :: st, M) (pc + 1, lv, .long x.toInt64 :: st, M) := Go.pure (fun p l e R s m args below meth c H locs cells slots Q ls hK hS hR hc hs hl w => lv_i2l hK.1 hK.2.1 hdg rfl w)
theorem go_l2i {x : Int64} (hdg : decode k.2.1 pc = .ok (.l2i, 1)) : Go G k d (pc, lv, .long x :: st, M) (pc + 1, lv, .int x.toInt32 :: st, M) := Go.pure (fun p l e R s m args below meth c H locs cells slots Q ls hK hS hR hc hs hl w => lv_l2i hK.1 hK.2.1 hdg rfl w)
theorem go_lcmp {x y : Int64} (hdg : decode k.2.1 pc = .ok (.lcmp, 1)) : Go G k d (pc, lv, .long y :: .long x :: st, M) (pc + 1, lv, .int (lg_cmp x y) :: st, M) := Go.pure (fun p l e R s m args below meth c H locs cells slots Q ls hK hS hR hc hs hl w => W.lcmp hK.1 hK.2.1 hdg w)
theorem go_dup {v : Value} (hdg : decode k.2.1 pc = .ok (.dup, 1)) (h1 : v.category = 1) : Go G k d (pc, lv, v :: st, M) (pc + 1, lv, v :: v :: st, M) := Go.pure (fun p l e R s m args below meth c H locs cells slots Q ls hK hS hR hc hs hl w => lv_dup hK.1 hK.2.1 hdg h1 w)
theorem go_pop {v : Value} (hdg : decode k.2.1 pc = .ok (.pop, 1)) (h1 : v.category = 1) : Go G k d (pc, lv, v :: st, M) (pc + 1, lv, st, M) := Go.pure (fun p l e R s m args below meth c H locs cells slots Q ls hK hS hR hc hs hl w => lv_pop hK.1 hK.2.1 hdg h1 w)
theorem go_pop2 {v : Value} (hdg : decode k.2.1 pc = .ok (.pop2, 1)) (h1 : v.category = 2) : Go G k d (pc, lv, v :: st, M) (pc + 1, lv, st, M) := Go.pure (fun p l e R s m args below meth c H locs cells slots Q ls hK hS hR hc hs hl w => lv_pop2_2 hK.1 hK.2.1 hdg h1 w)
theorem go_dup_x1 {v u : Value} (hdg : decode k.2.1 pc = .ok (.dup_x1, 1)) (h1 : v.category = 1) (h2 : u.category = 1) : Go G k d (pc, lv, v :: u :: st, M) (pc + 1, lv, v :: u :: v :: st, M) := Go.pure (fun p l e R s m args below meth c H locs cells slots Q ls hK hS hR hc hs hl w => lv_dup_x1 hK.1 hK.2.1 hdg h1 h2 w)
theorem go_dup_x2 {v u t : Value} (hdg : decode k.2.1 pc = .ok (.dup_x2, 1)) (h1 : v.category = 1) (h2 : u.category = 1) (h3 : t.category = 1) : Go G k d (pc, lv, v :: u :: t :: st, M) (pc + 1, lv, v :: u :: t :: v :: st, M) := Go.pure (fun p l e R s m args below meth c H locs cells slots Q ls hK hS hR hc hs hl w => lv_dup_x2 hK.1 hK.2.1 hdg h1 h2 h3 w)
theorem go_dup2 {v u : Value} (hdg : decode k.2.1 pc = .ok (.dup2, 1)) (h1 : v.category = 1) (h2 : u.category = 1) : Go G k d (pc, lv, v :: u :: st, M) (pc + 1, lv, v :: u :: v :: u :: st, M) := Go.pure (fun p l e R s m args below meth c H locs cells slots Q ls hK hS hR hc hs hl w => lv_dup2_11 hK.1 hK.2.1 hdg h1 h2 w)
theorem go_if_eq_t {x : Int32} {off : Int} (tgt : Nat) (hdg : decode k.2.1 pc = .ok (.ifCond .eq off, 3)) (ht : (pc : Int) + off = (tgt : Int)) (h : x = 0) : Go G k d (pc, lv, .int x :: st, M) (tgt, lv, st, M) := Go.pure (fun p l e R s m args below meth c H locs cells slots Q ls hK hS hR hc hs hl w => lv_if_eq hK.1 hK.2.1 hdg ht (fun _ => w) (fun q => absurd h q))
theorem go_if_eq_f {x : Int32} {off : Int} (tgt : Nat) (hdg : decode k.2.1 pc = .ok (.ifCond .eq off, 3)) (ht : (pc : Int) + off = (tgt : Int)) (h : ¬ x = 0) : Go G k d (pc, lv, .int x :: st, M) (pc + 3, lv, st, M) := Go.pure (fun p l e R s m args below meth c H locs cells slots Q ls hK hS hR hc hs hl w => lv_if_eq hK.1 hK.2.1 hdg ht (fun q => absurd q h) (fun _ => w))
theorem go_icmp_eq_t {x y : Int32} {off : Int} (tgt : Nat) (hdg : decode k.2.1 pc = .ok (.if_icmp .eq off, 3)) (ht : (pc : Int) + off = (tgt : Int)) (h : x = y) : Go G k d (pc, lv, .int y :: .int x :: st, M) (tgt, lv, st, M) := Go.pure (fun p l e R s m args below meth c H locs cells slots Q ls hK hS hR hc hs hl w => lv_icmp_eq hK.1 hK.2.1 hdg ht (fun _ => w) (fun q => absurd h q))
theorem go_icmp_eq_f {x y : Int32} {off : Int} (tgt : Nat) (hdg : decode k.2.1 pc = .ok (.if_icmp .eq off, 3)) (ht : (pc : Int) + off = (tgt : Int)) (h : ¬ x = y) : Go G k d (pc, lv, .int y :: .int x :: st, M) (pc + 3, lv, st, M) := Go.pure (fun p l e R s m args below meth c H locs cells slots Q ls hK hS hR hc hs hl w => lv_icmp_eq hK.1 hK.2.1 hdg ht (fun q => absurd q h) (fun _ => w))
theorem go_if_ne_t {x : Int32} {off : Int} (tgt : Nat) (hdg : decode k.2.1 pc = .ok (.ifCond .ne off, 3)) (ht : (pc : Int) + off = (tgt : Int)) (h : ¬ x = 0) : Go G k d (pc, lv, .int x :: st, M) (tgt, lv, st, M) := Go.pure (fun p l e R s m args below meth c H locs cells slots Q ls hK hS hR hc hs hl w => lv_if_ne hK.1 hK.2.1 hdg ht (fun _ => w) (fun q => absurd q h))
theorem go_if_ne_f {x : Int32} {off : Int} (tgt : Nat) (hdg : decode k.2.1 pc = .ok (.ifCond .ne off, 3)) (ht : (pc : Int) + off = (tgt : Int)) (h : x = 0) : Go G k d (pc, lv, .int x :: st, M) (pc + 3, lv, st, M) := Go.pure (fun p l e R s m args below meth c H locs cells slots Q ls hK hS hR hc hs hl w => lv_if_ne hK.1 hK.2.1 hdg ht (fun q => absurd h q) (fun _ => w))
theorem go_icmp_ne_t {x y : Int32} {off : Int} (tgt : Nat) (hdg : decode k.2.1 pc = .ok (.if_icmp .ne off, 3)) (ht : (pc : Int) + off = (tgt : Int)) (h : ¬ x = y) : Go G k d (pc, lv, .int y :: .int x :: st, M) (tgt, lv, st, M) := Go.pure (fun p l e R s m args below meth c H locs cells slots Q ls hK hS hR hc hs hl w => lv_icmp_ne hK.1 hK.2.1 hdg ht (fun _ => w) (fun q => absurd q h))
theorem go_icmp_ne_f {x y : Int32} {off : Int} (tgt : Nat) (hdg : decode k.2.1 pc = .ok (.if_icmp .ne off, 3)) (ht : (pc : Int) + off = (tgt : Int)) (h : x = y) : Go G k d (pc, lv, .int y :: .int x :: st, M) (pc + 3, lv, st, M) := Go.pure (fun p l e R s m args below meth c H locs cells slots Q ls hK hS hR hc hs hl w => lv_icmp_ne hK.1 hK.2.1 hdg ht (fun q => absurd h q) (fun _ => w))
theorem go_if_lt_t {x : Int32} {off : Int} (tgt : Nat) (hdg : decode k.2.1 pc = .ok (.ifCond .lt off, 3)) (ht : (pc : Int) + off = (tgt : Int)) (h : x < 0) : Go G k d (pc, lv, .int x :: st, M) (tgt, lv, st, M) := Go.pure (fun p l e R s m args below meth c H locs cells slots Q ls hK hS hR hc hs hl w => lv_if_lt hK.1 hK.2.1 hdg ht (fun _ => w) (fun q => absurd h q))
theorem go_if_lt_f {x : Int32} {off : Int} (tgt : Nat) (hdg : decode k.2.1 pc = .ok (.ifCond .lt off, 3)) (ht : (pc : Int) + off = (tgt : Int)) (h : ¬ x < 0) : Go G k d (pc, lv, .int x :: st, M) (pc + 3, lv, st, M) := Go.pure (fun p l e R s m args below meth c H locs cells slots Q ls hK hS hR hc hs hl w => lv_if_lt hK.1 hK.2.1 hdg ht (fun q => absurd q h) (fun _ => w))
theorem go_icmp_lt_t {x y : Int32} {off : Int} (tgt : Nat) (hdg : decode k.2.1 pc = .ok (.if_icmp .lt off, 3)) (ht : (pc : Int) + off = (tgt : Int)) (h : x < y) : Go G k d (pc, lv, .int y :: .int x :: st, M) (tgt, lv, st, M) := Go.pure (fun p l e R s m args below meth c H locs cells slots Q ls hK hS hR hc hs hl w => lv_icmp_lt hK.1 hK.2.1 hdg ht (fun _ => w) (fun q => absurd h q))
theorem go_icmp_lt_f {x y : Int32} {off : Int} (tgt : Nat) (hdg : decode k.2.1 pc = .ok (.if_icmp .lt off, 3)) (ht : (pc : Int) + off = (tgt : Int)) (h : ¬ x < y) : Go G k d (pc, lv, .int y :: .int x :: st, M) (pc + 3, lv, st, M) := Go.pure (fun p l e R s m args below meth c H locs cells slots Q ls hK hS hR hc hs hl w => lv_icmp_lt hK.1 hK.2.1 hdg ht (fun q => absurd q h) (fun _ => w))
theorem go_if_ge_t {x : Int32} {off : Int} (tgt : Nat) (hdg : decode k.2.1 pc = .ok (.ifCond .ge off, 3)) (ht : (pc : Int) + off = (tgt : Int)) (h : 0 ≤ x) : Go G k d (pc, lv, .int x :: st, M) (tgt, lv, st, M) := Go.pure (fun p l e R s m args below meth c H locs cells slots Q ls hK hS hR hc hs hl w => lv_if_ge hK.1 hK.2.1 hdg ht (fun _ => w) (fun q => absurd h q))
theorem go_if_ge_f {x : Int32} {off : Int} (tgt : Nat) (hdg : decode k.2.1 pc = .ok (.ifCond .ge off, 3)) (ht : (pc : Int) + off = (tgt : Int)) (h : ¬ 0 ≤ x) : Go G k d (pc, lv, .int x :: st, M) (pc + 3, lv, st, M) := Go.pure (fun p l e R s m args below meth c H locs cells slots Q ls hK hS hR hc hs hl w => lv_if_ge hK.1 hK.2.1 hdg ht (fun q => absurd q h) (fun _ => w))
theorem go_icmp_ge_t {x y : Int32} {off : Int} (tgt : Nat) (hdg : decode k.2.1 pc = .ok (.if_icmp .ge off, 3)) (ht : (pc : Int) + off = (tgt : Int)) (h : y ≤ x) : Go G k d (pc, lv, .int y :: .int x :: st, M) (tgt, lv, st, M) := Go.pure (fun p l e R s m args below meth c H locs cells slots Q ls hK hS hR hc hs hl w => lv_icmp_ge hK.1 hK.2.1 hdg ht (fun _ => w) (fun q => absurd h q))
theorem go_icmp_ge_f {x y : Int32} {off : Int} (tgt : Nat) (hdg : decode k.2.1 pc = .ok (.if_icmp .ge off, 3)) (ht : (pc : Int) + off = (tgt : Int)) (h : ¬ y ≤ x) : Go G k d (pc, lv, .int y :: .int x :: st, M) (pc + 3, lv, st, M) := Go.pure (fun p l e R s m args below meth c H locs cells slots Q ls hK hS hR hc hs hl w => lv_icmp_ge hK.1 hK.2.1 hdg ht (fun q => absurd q h) (fun _ => w))
theorem go_if_gt_t {x : Int32} {off : Int} (tgt : Nat) (hdg : decode k.2.1 pc = .ok (.ifCond .gt off, 3)) (ht : (pc : Int) + off = (tgt : Int)) (h : 0 < x) : Go G k d (pc, lv, .int x :: st, M) (tgt, lv, st, M) := Go.pure (fun p l e R s m args below meth c H locs cells slots Q ls hK hS hR hc hs hl w => lv_if_gt hK.1 hK.2.1 hdg ht (fun _ => w) (fun q => absurd h q))
theorem go_if_gt_f {x : Int32} {off : Int} (tgt : Nat) (hdg : decode k.2.1 pc = .ok (.ifCond .gt off, 3)) (ht : (pc : Int) + off = (tgt : Int)) (h : ¬ 0 < x) : Go G k d (pc, lv, .int x :: st, M) (pc + 3, lv, st, M) := Go.pure (fun p l e R s m args below meth c H locs cells slots Q ls hK hS hR hc hs hl w => lv_if_gt hK.1 hK.2.1 hdg ht (fun q => absurd q h) (fun _ => w))
theorem go_icmp_gt_t {x y : Int32} {off : Int} (tgt : Nat) (hdg : decode k.2.1 pc = .ok (.if_icmp .gt off, 3)) (ht : (pc : Int) + off = (tgt : Int)) (h : y < x) : Go G k d (pc, lv, .int y :: .int x :: st, M) (tgt, lv, st, M) := Go.pure (fun p l e R s m args below meth c H locs cells slots Q ls hK hS hR hc hs hl w => lv_icmp_gt hK.1 hK.2.1 hdg ht (fun _ => w) (fun q => absurd h q))
theorem go_icmp_gt_f {x y : Int32} {off : Int} (tgt : Nat) (hdg : decode k.2.1 pc = .ok (.if_icmp .gt off, 3)) (ht : (pc : Int) + off = (tgt : Int)) (h : ¬ y < x) : Go G k d (pc, lv, .int y :: .int x :: st, M) (pc + 3, lv, st, M) := Go.pure (fun p l e R s m args below meth c H locs cells slots Q ls hK hS hR hc hs hl w => lv_icmp_gt hK.1 hK.2.1 hdg ht (fun q => absurd q h) (fun _ => w))
theorem go_if_le_t {x : Int32} {off : Int} (tgt : Nat) (hdg : decode k.2.1 pc = .ok (.ifCond .le off, 3)) (ht : (pc : Int) + off = (tgt : Int)) (h : x ≤ 0) : Go G k d (pc, lv, .int x :: st, M) (tgt, lv, st, M) := Go.pure (fun p l e R s m args below meth c H locs cells slots Q ls hK hS hR hc hs hl w => lv_if_le hK.1 hK.2.1 hdg ht (fun _ => w) (fun q => absurd h q))
theorem go_if_le_f {x : Int32} {off : Int} (tgt : Nat) (hdg : decode k.2.1 pc = .ok (.ifCond .le off, 3)) (ht : (pc : Int) + off = (tgt : Int)) (h : ¬ x ≤ 0) : Go G k d (pc, lv, .int x :: st, M) (pc + 3, lv, st, M) := Go.pure (fun p l e R s m args below meth c H locs cells slots Q ls hK hS hR hc hs hl w => lv_if_le hK.1 hK.2.1 hdg ht (fun q => absurd q h) (fun _ => w))
theorem go_icmp_le_t {x y : Int32} {off : Int} (tgt : Nat) (hdg : decode k.2.1 pc = .ok (.if_icmp .le off, 3)) (ht : (pc : Int) + off = (tgt : Int)) (h : x ≤ y) : Go G k d (pc, lv, .int y :: .int x :: st, M) (tgt, lv, st, M) := Go.pure (fun p l e R s m args below meth c H locs cells slots Q ls hK hS hR hc hs hl w => lv_icmp_le hK.1 hK.2.1 hdg ht (fun _ => w) (fun q => absurd h q))
theorem go_icmp_le_f {x y : Int32} {off : Int} (tgt : Nat) (hdg : decode k.2.1 pc = .ok (.if_icmp .le off, 3)) (ht : (pc : Int) + off = (tgt : Int)) (h : ¬ x ≤ y) : Go G k d (pc, lv, .int y :: .int x :: st, M) (pc + 3, lv, st, M) := Go.pure (fun p l e R s m args below meth c H locs cells slots Q ls hK hS hR hc hs hl w => lv_icmp_le hK.1 hK.2.1 hdg ht (fun q => absurd q h) (fun _ => w))
theorem go_goto {off : Int} (tgt : Nat) (hdg : decode k.2.1 pc = .ok (.goto off, 3)) (ht : (pc : Int) + off = (tgt : Int)) : Go G k d (pc, lv, st, M) (tgt, lv, st, M) := Go.pure (fun p l e R s m args below meth c H locs cells slots Q ls hK hS hR hc hs hl w => lv_goto hK.1 hK.2.1 hdg ht w)
theorem go_nn {x : Nat} {off : Int} (tgt : Nat) (hdg : decode k.2.1 pc = .ok (.ifnonnull off, 3)) (ht : (pc : Int) + off = (tgt : Int)) : Go G k d (pc, lv, .ref x :: st, M) (tgt, lv, st, M) := Go.pure (fun p l e R s m args below meth c H locs cells slots Q ls hK hS hR hc hs hl w => lv_ifnonnull hK.1 hK.2.1 hdg ht w)
theorem go_tableOut {dflt lo hi : Int} {offs : Array Int} {len : Nat} {x : Int32} (tgt : Nat) (hdg : decode k.2.1 pc = .ok (.tableswitch dflt lo hi offs, len)) (h : x.toInt < lo ∨ hi < x.toInt) (ht : (pc : Int) + dflt = (tgt : Int)) : Go G k d (pc, lv, .int x :: st, M) (tgt, lv, st, M) := Go.pure (fun p l e R s m args below meth c H locs cells slots Q ls hK hS hR hc hs hl w => lv_tableOut hK.1 hK.2.1 hdg h ht w)
theorem go_tableIn {dflt lo hi : Int} {offs : Array Int} {len : Nat} {x : Int32} {off : Int} (tgt : Nat) (hdg : decode k.2.1 pc = .ok (.tableswitch dflt lo hi offs, len)) (h1 : ¬ x.toInt < lo) (h2 : ¬ hi < x.toInt) (ho : offs[(x.toInt - lo).toNat]? = some off) (ht : (pc : Int) + off = (tgt : Int)) : Go G k d (pc, lv, .int x :: st, M) (tgt, lv, st, M) := Go.pure (fun p l e R s m args below meth c H locs cells slots Q ls hK hS hR hc hs hl w => lv_tableIn hK.1 hK.2.1 hdg h1 h2 ho ht w)
theorem go_lookup {dflt : Int} {ps : Array (Int × Int)} {len : Nat} {x : Int32} {off : Int} (tgt : Nat) (hdg : decode k.2.1 pc = .ok (.lookupswitch dflt ps, len)) (hp : (ps.toList.zip (ps.toList.drop 1)).all (fun (a, next) => a.1 < next.1) = true) (ho : Op.lookupswitch.offset ps.toList dflt x.toInt = off) (ht : (pc : Int) + off = (tgt : Int)) : Go G k d (pc, lv, .int x :: st, M) (tgt, lv, st, M) := Go.pure (fun p l e R s m args below meth c H locs cells slots Q ls hK hS hR hc hs hl w => lv_lookup hK.1 hK.2.1 hdg hp ho ht w)
theorem go_ldc {i : Nat} {v : Int32} (hdg : decode k.2.1 pc = .ok (.ldc i, 2)) (hw : Cond.constant k.1.cls i v ∈ gTB) : Go G k d (pc, lv, st, M) (pc + 2, lv, .int v :: st, M) := Go.pure (fun p l e R s m args below meth c H locs cells slots Q ls hK hS hR hc hs hl w => lv_ldc hK.1 hK.2.1 hK.2.2.2.1 (hK.2.2.2.2.2.1.1 _ hw _) hdg w)
theorem go_ldc2 {i : Nat} {v : Int64} (hdg : decode k.2.1 pc = .ok (.ldc2_w i, 3)) (hw : Cond.constantLong k.1.cls i v ∈ gTB) : Go G k d (pc, lv, st, M) (pc + 3, lv, .long v :: st, M) := Go.pure (fun p l e R s m args below meth c H locs cells slots Q ls hK hS hR hc hs hl w => lv_ldc2 hK.1 hK.2.1 hK.2.2.2.1 (hK.2.2.2.2.2.1.1 _ hw _) hdg w)
theorem go_istore_n {j : Fin 4} {i : Nat} {x : Int32} (lv' : gL) (hdg : decode k.2.1 pc = .ok (.istore_n j, 1)) (hi : (j : Nat) = i) (hn : i < k.2.2.1) (hl0 : (i, Value.int x) :: lv.filter (fun q => !(q.1 == i) && !(q.1 + 1 == i && q.2.category == 2)) = lv') : Go G k d (pc, lv, .int x :: st, M) (pc + 1, lv', st, M) := Go.loc (fun p l e R s m args below meth c H locs cells slots Q ls hK hl w => lv_istore_n hK.1 hK.2.1 hdg hi hl hn hl0 w)
theorem go_istore {i : Nat} {x : Int32} (lv' : gL) (hdg : decode k.2.1 pc = .ok (.istore i, 2)) (hn : i < k.2.2.1) (hl0 : (i, Value.int x) :: lv.filter (fun q => !(q.1 == i) && !(q.1 + 1 == i && q.2.category == 2)) = lv') : Go G k d (pc, lv, .int x :: st, M) (pc + 2, lv', st, M) := Go.loc (fun p l e R s m args below meth c H locs cells slots Q ls hK hl w => lv_istore hK.1 hK.2.1 hdg hl hn hl0 w)
theorem go_lstore_n {j : Fin 4} {i : Nat} {x : Int64} (lv' : gL) (hdg : decode k.2.1 pc = .ok (.lstore_n j, 1)) (hi : (j : Nat) = i) (hn : i + 1 < k.2.2.1) (hl0 : (i, Value.long x) :: lv.filter (fun q => !(q.1 == i) && (!(q.1 == i + 1) && !(q.1 + 1 == i && q.2.category == 2))) = lv') : Go G k d (pc, lv, .long x :: st, M) (pc + 1, lv', st, M) := Go.loc (fun p l e R s m args below meth c H locs cells slots Q ls hK hl w => lv_lstore_n hK.1 hK.2.1 hdg hi hl hn hl0 w)
theorem go_lstore {i : Nat} {x : Int64} (lv' : gL) (hdg : decode k.2.1 pc = .ok (.lstore i, 2)) (hn : i + 1 < k.2.2.1) (hl0 : (i, Value.long x) :: lv.filter (fun q => !(q.1 == i) && (!(q.1 == i + 1) && !(q.1 + 1 == i && q.2.category == 2))) = lv') : Go G k d (pc, lv, .long x :: st, M) (pc + 2, lv', st, M) := Go.loc (fun p l e R s m args below meth c H locs cells slots Q ls hK hl w => lv_lstore hK.1 hK.2.1 hdg hl hn hl0 w)
theorem go_astore_n {j : Fin 4} {i : Nat} {x : Nat} (lv' : gL) (hdg : decode k.2.1 pc = .ok (.astore_n j, 1)) (hi : (j : Nat) = i) (hn : i < k.2.2.1) (hl0 : (i, Value.ref x) :: lv.filter (fun q => !(q.1 == i) && !(q.1 + 1 == i && q.2.category == 2)) = lv') : Go G k d (pc, lv, .ref x :: st, M) (pc + 1, lv', st, M) := Go.loc (fun p l e R s m args below meth c H locs cells slots Q ls hK hl w => lv_astore_n hK.1 hK.2.1 hdg hi hl hn hl0 w)
theorem go_astore {i : Nat} {x : Nat} (lv' : gL) (hdg : decode k.2.1 pc = .ok (.astore i, 2)) (hn : i < k.2.2.1) (hl0 : (i, Value.ref x) :: lv.filter (fun q => !(q.1 == i) && !(q.1 + 1 == i && q.2.category == 2)) = lv') : Go G k d (pc, lv, .ref x :: st, M) (pc + 2, lv', st, M) := Go.loc (fun p l e R s m args below meth c H locs cells slots Q ls hK hl w => lv_astore hK.1 hK.2.1 hdg hl hn hl0 w)
theorem go_iinc {i n0 : Nat} {n : Int} {x v : Int32} (lv' : gL) (hdg : decode k.2.1 pc = .ok (.iinc i n, 3)) (hk : lv[n0]? = some (i, .int x)) (hv : x + Int32.ofInt n = v) (hn : i < k.2.2.1) (hl0 : (i, Value.int v) :: lv.filter (fun q => !(q.1 == i) && !(q.1 + 1 == i && q.2.category == 2)) = lv') : Go G k d (pc, lv, st, M) (pc + 3, lv', st, M) := Go.loc (fun p l e R s m args below meth c H locs cells slots Q ls hK hl w => lv_iinc hK.1 hK.2.1 hdg hl hk hv hn hl0 w)
theorem go_v {x y : Int32} (h : x = y) : Go G k d (pc, lv, .int x :: st, M) (pc, lv, .int y :: st, M) := Go.eq (by rw [h]) Go.rf
theorem go_vl {x y : Int64} (h : x = y) : Go G k d (pc, lv, .long x :: st, M) (pc, lv, .long y :: st, M) := Go.eq (by rw [h]) Go.rf
theorem go_m {M' : gM} (h : M = M') : Go G k d (pc, lv, st, M) (pc, lv, st, M') := Go.eq (by rw [h]) Go.rf
end GROWS
-- ===== rows that read and write the memory =====
/-- field number f of the objects of kind ci, as the code of own links it at idx -/
def gF (own : String) (idx ci f : Nat) : Prop := ∃ (C : String) (T : u_T) (N : Nat), classes[ci]? = some (C, T, N) ∧ f < N ∧ (T f).1 = C ∧ (∀ w ∈ u_ws C T N, w ∈ gTB) ∧
  (Cond.fieldLink own idx C (T f).2.1 (T f).2.2.1 ∈ gTB ∨ ∃ host : String, Cond.fieldLinkNest own idx C (T f).2.1 (T f).2.2.1 host ∈ gNW)
/-- what a store needs besides: the types, names apart, whether it is final -/
def gFt (ci f : Nat) (fin : Bool) (ty : FieldType) : Prop := ∃ (C : String) (T : u_T) (N : Nat) (ty0 : Nat → FieldType), classes[ci]? = some (C, T, N) ∧ (∀ k, k < N → parseFieldDescriptor (T k).2.2.1 = some (ty0 k)) ∧ (∀ a, a < N → ∀ b, b < N → a ≠ b → (T a).2.1 ≠ (T b).2.1) ∧ (T f).2.2.2 = fin ∧ parseFieldDescriptor (T f).2.2.1 = some ty
section GMEM
variable {G : gG} {k : gY} {d pc : Nat} {lv : gL} {st : List Value} {M : gM}
theorem go_get {idx ci f a : Nat} {fs : List Value} {v : Value} (hf : gF k.1.cls idx ci f) (hdg : decode k.2.1 pc = .ok (.getfield idx, 3)) (hr : gRd M a = some (.inr (ci, fs))) (hv : fs[f]? = some v) : Go G k d (pc, lv, .ref a :: st, M) (pc + 3, lv, v :: st, M) := by
  obtain ⟨C, T, N, hc, hN, hC, hin, hlink⟩ := hf
  refine Go.pure (fun p l e R s m args below meth c H locs cells slots Q ls hK hS hR hcl hsl hl w => ?_)
  obtain ⟨hx, hb, -, hown, -, hT, -⟩ := hK
  have hP : va_P G.1 classes [(a, .inr (ci, fs))] H := fun i q hq => by
    cases i with
    | zero => cases hq; exact hR.at hr
    | succ i => simp at hq
  rcases hlink with h | ⟨host, h⟩
  · exact va_get (ref := C) hx hb (fun w hw => hT.1 w hw args) hin hown hT.K hP 0 rfl hc f hN (hT.1 _ h args) (fun _ h9 => hC ▸ h9) hv hdg w
  · exact va_getN (ref := C) (host := host) hx hb (fun w hw => hT.1 w hw args) hin hown hT.K hP 0 rfl hc f hN (va_Nw.use rfl (hT.2.1 _ h)) (fun _ h9 => hC ▸ h9) hv hdg w
theorem go_store {pc' a : Nat} {e0 e1 : va_E} {st' : List Value} (hr : gRd M a = some e0)
    (h : ∀ (p : Program) (l : Launch) (e : Env) (R : Room) (s : State) (m : MethodId) (args : Array Value) (below : List Frame) (meth : Method) (c : Code) (H : Heap) (locs : List Loc) (cells slots : Nat) (Q : State → Prop) (ls : Array Slot), gK G k d p R s m meth c → gR G M H → lv_has ls k.2.2.1 lv →
      (∀ (H1 : Heap) (i : Nat), va_at G.1 classes (a, e1) H1 → H1.size = H.size → (∀ q : Nat, q ≠ a → H1[q]? = H[q]?) → W p l e R s m args below meth c H1 (locs ++ [⟨a, i⟩]) cells slots Q (F0 m pc' ls st')) → W p l e R s m args below meth c H locs cells slots Q (F0 m pc ls st)) :
    Go G k d (pc, lv, st, M) (pc', lv, st', gWr M a e1) := by
  refine ⟨⟨Nat.le_refl _, Nat.le_refl _⟩, ?_⟩
  intro p l e R s m args below meth c u0 Q hK h3 h4 h5 h6 hX H locs ls hR hS hl
  refine h p l e R s m args below meth c H locs _ _ Q ls hK hR hl (fun H1 i he z oq => ?_)
  exact hX H1 _ ls (hR.set hr he z oq) (hS.put z oq (hR.lo hr)) hl
theorem go_put {idx ci f a : Nat} {fs : List Value} (fs' : List Value) {v : Value} {ty : FieldType} (hf : gF k.1.cls idx ci f) (hft : gFt ci f false ty) (hdg : decode k.2.1 pc = .ok (.putfield idx, 3)) (hr : gRd M a = some (.inr (ci, fs))) (hn : narrow ty v = v) (hfit : fits ty v = true) (hl0 : f < fs.length) (hfs : fs.set f v = fs') : Go G k d (pc, lv, v :: .ref a :: st, M) (pc + 3, lv, st, gWr M a (.inr (ci, fs'))) := by
  subst hfs
  obtain ⟨C, T, N, hc, hN, hC, hin, hlink⟩ := hf
  obtain ⟨C', T', N', ty0, hc', hty, hnm, hfin, hd⟩ := hft
  cases hc.symm.trans hc'
  refine go_store hr (fun p l e R s m args below meth c H locs cells slots Q ls hK hR hl w => ?_)
  obtain ⟨hx, hb, -, hown, -, hT, -⟩ := hK
  have hts : ∀ w ∈ gTB, w.before args s = true := fun w hw => hT.1 w hw args
  have hK : va_K G.1 classes [] s := hT.K
  have hap := va_apart (own := k.1.cls) hts hin ty0 hty hnm hK hc
  obtain ⟨r, h1, cell, q1, q2, q3, q4⟩ := hR.at hr
  have hr0 : r = (C, T, N) := Option.some.inj (h1.symm.trans hc)
  subst hr0
  obtain ⟨hS, hfc, kC, hkC, hkind⟩ := hK.1 ci _ hc
  obtain ⟨cf, kf, fi, fd, hi, hsl⟩ := hS f hN
  have hlay := hts _ (hin _ (u_in_lay hN))
  unfold u_lay at hlay
  rw [if_neg (by rw [hfin]; decide)] at hlay
  have hst := (u_facts hfc hkC (u_lays hts hin hN) hi).1
  have h6 := u_store hfc hkC hkind hlay hi hd hn hfit
  have hi2 : s.fieldFound? C (T f).2.1 (T f).2.2.1 = some (cf, kf, fi, fd) := by rw [hC] at hi; exact hi
  rcases hlink with h | ⟨host, h⟩
  · refine W.putK hx hb (f := fd) ⟨hown, hts _ h, ⟨_, _, _, hi2⟩, hst⟩ (by rw [q2]; exact h6) q1 q3 (by rw [hsl]; exact k2_hasslot (q4 f hN)) rfl rfl hdg fun H' e1 e2 e3 => ?_
    rw [hsl] at e1
    exact w H' _ ⟨_, hc, t_OB.to (V := updV (vp_V fs) f v) ⟨_, e1, q2, q3, t_set q4 hap hN v⟩ (fun j _ => vp_updV_set hl0 v j)⟩ e2 e3
  · refine va_WputK hx hb (f := fd) hown (va_Nw.use rfl (hT.2.1 _ h)) hi2 hst (by rw [q2]; exact h6) q1 q3 (by rw [hsl]; exact k2_hasslot (q4 f hN)) rfl rfl hdg fun H' e1 e2 e3 => ?_
    rw [hsl] at e1
    exact w H' _ ⟨_, hc, t_OB.to (V := updV (vp_V fs) f v) ⟨_, e1, q2, q3, t_set q4 hap hN v⟩ (fun j _ => vp_updV_set hl0 v j)⟩ e2 e3
/-- a final field, in the constructor of its own kind -/
theorem go_putF {idx ci f a : Nat} {fs : List Value} (fs' : List Value) {v : Value} {ty : FieldType} (hf : gF k.1.cls idx ci f) (hft : gFt ci f true ty) (hnl : ∀ C T N, classes[ci]? = some (C, T, N) → C = k.1.cls ∧ Cond.fieldLink k.1.cls idx C (T f).2.1 (T f).2.2.1 ∈ gTB) (hini : k.1.name = "<init>") (hdg : decode k.2.1 pc = .ok (.putfield idx, 3)) (hr : gRd M a = some (.inr (ci, fs))) (hn : narrow ty v = v) (hfit : fits ty v = true) (hl0 : f < fs.length) (hfs : fs.set f v = fs') : Go G k d (pc, lv, v :: .ref a :: st, M) (pc + 3, lv, st, gWr M a (.inr (ci, fs'))) := by
  subst hfs
  obtain ⟨C, T, N, hc, hN, hC, hin, -⟩ := hf
  obtain ⟨C', T', N', ty0, hc', hty, hnm, hfin, hd⟩ := hft
  cases hc.symm.trans hc'
  obtain ⟨hCo, hlink⟩ := hnl _ _ _ hc
  refine go_store hr (fun p l e R s m args below meth c H locs cells slots Q ls hK hR hl w => ?_)
  obtain ⟨hx, hb, -, hown, hnam, hT, -⟩ := hK
  have hts : ∀ w ∈ gTB, w.before args s = true := fun w hw => hT.1 w hw args
  have hK : va_K G.1 classes [] s := hT.K
  have hap := va_apart (own := k.1.cls) hts hin ty0 hty hnm hK hc
  obtain ⟨r, h1, cell, q1, q2, q3, q4⟩ := hR.at hr
  have hr0 : r = (C, T, N) := Option.some.inj (h1.symm.trans hc)
  subst hr0
  obtain ⟨hS, hfc, kC, hkC, hkind⟩ := hK.1 ci _ hc
  obtain ⟨cf, kf, fi, fd, hi, hsl⟩ := hS f hN
  have hlay := hts _ (hin _ (u_in_lay hN))
  unfold u_lay at hlay
  rw [if_pos hfin] at hlay
  have hst := (u_facts hfc hkC (u_lays hts hin hN) hi).1
  have hcf : m.cls = cf := by
    obtain ⟨_, _, c', _, _, _, -, -, hf', -, -, -, hown2, -⟩ := Cond.laysFinal_spec hlay
    have e1 : c' = cf := by have := hi.symm.trans hf'; simp at this; exact this.1.symm
    rw [hC, hCo] at hown2
    rw [← e1]; exact Option.some.inj (hown.symm.trans hown2)
  have h6 := u_fits hfc hkC hkind (Or.inr hlay) hi hd hn hfit
  have hi2 : s.fieldFound? C (T f).2.1 (T f).2.2.1 = some (cf, kf, fi, fd) := by rw [hC] at hi; exact hi
  refine W.putFinK hx hb hown (hts _ hlink) hi2 hst hcf (hnam.trans hini) (by rw [q2]; exact h6) q1 q3 (by rw [hsl]; exact k2_hasslot (q4 f hN)) rfl rfl hdg fun H' e1 e2 e3 => ?_
  rw [hsl] at e1
  exact w H' _ ⟨_, hc, t_OB.to (V := updV (vp_V fs) f v) ⟨_, e1, q2, q3, t_set q4 hap hN v⟩ (fun j _ => vp_updV_set hl0 v j)⟩ e2 e3
-- arrays
def aI (G : gG) (n : Nat) (f : Nat → Int32) : va_E := .inl (G.2.1 0, n, .inl f)
def aL (G : gG) (n : Nat) (f : Nat → Int64) : va_E := .inl (G.2.1 1, n, .inr (.inl f))
def aZ (G : gG) (n : Nat) (f : Nat → Int32) : va_E := .inl (G.2.1 2, n, .inl f)
def aQ (G : gG) (i n : Nat) (f : Nat → Option Nat) : va_E := .inl (G.2.1 i, n, .inr (.inr (.inr (.inr f))))
theorem go_iald {a n j : Nat} {f : Nat → Int32} {i : Int32} (hdg : decode k.2.1 pc = .ok (.iaload, 1)) (hr : gRd M a = some (aI G n f)) (hi : i = nI j) (hj : j < n) (hn : n < 2 ^ 31) : Go G k d (pc, lv, .int i :: .ref a :: st, M) (pc + 1, lv, .int (f j) :: st, M) := by
  subst hi
  have hcl := nI_clamp (Nat.lt_trans hj hn)
  refine Go.pure (fun p l e R s m args below meth c H locs cells slots Q ls hK hS hR hcc hsl hl w => ?_)
  obtain ⟨hx, hb, -, -, -, hT, -⟩ := hK
  refine W.iald (v := .int (f j)) hx hb (hR.at hr) ((hT.2.2.2 0 .int rfl).1 n (fun j => .int (f j))) (fun q => by cases q) (by show ¬ (nI j < 0 ∨ (arrV _ _ _).slots.size ≤ _); rw [arrV_size]; exact vp_in_nI hj hn) (by show (arrV _ _ _).slots[_]? = _; rw [hcl, arrV_read _ _ hj]) rfl rfl hdg w
theorem go_lald {a n j : Nat} {f : Nat → Int64} {i : Int32} (hdg : decode k.2.1 pc = .ok (.laload, 1)) (hr : gRd M a = some (aL G n f)) (hi : i = nI j) (hj : j < n) (hn : n < 2 ^ 31) : Go G k d (pc, lv, .int i :: .ref a :: st, M) (pc + 1, lv, .long (f j) :: st, M) := by
  subst hi
  have hcl := nI_clamp (Nat.lt_trans hj hn)
  refine Go.pure (fun p l e R s m args below meth c H locs cells slots Q ls hK hS hR hcc hsl hl w => ?_)
  obtain ⟨hx, hb, -, -, -, hT, -⟩ := hK
  refine W.lald (v := .long (f j)) hx hb (hR.at hr) ((hT.2.2.2 1 .long rfl).1 n (fun j => .long (f j))) (fun q => by cases q) (by show ¬ (nI j < 0 ∨ (arrV _ _ _).slots.size ≤ _); rw [arrV_size]; exact vp_in_nI hj hn) (by show (arrV _ _ _).slots[_]? = _; rw [hcl, arrV_read _ _ hj]) rfl rfl hdg w
theorem go_zald {a n j : Nat} {f : Nat → Int32} {i : Int32} (hdg : decode k.2.1 pc = .ok (.baload, 1)) (hr : gRd M a = some (aZ G n f)) (hi : i = nI j) (hj : j < n) (hn : n < 2 ^ 31) : Go G k d (pc, lv, .int i :: .ref a :: st, M) (pc + 1, lv, .int (f j) :: st, M) := by
  subst hi
  have hcl := nI_clamp (Nat.lt_trans hj hn)
  refine Go.pure (fun p l e R s m args below meth c H locs cells slots Q ls hK hS hR hcc hsl hl w => ?_)
  obtain ⟨hx, hb, -, -, -, hT, -⟩ := hK
  refine W.zald (v := .int (f j)) hx hb (hR.at hr) ((hT.2.2.2 2 .boolean rfl).1 n (fun j => .int (f j))) (fun q => by cases q) (by show ¬ (nI j < 0 ∨ (arrV _ _ _).slots.size ≤ _); rw [arrV_size]; exact vp_in_nI hj hn) (by show (arrV _ _ _).slots[_]? = _; rw [hcl, arrV_read _ _ hj]) rfl rfl hdg w
theorem go_aald {a n j t : Nat} {C : String} {f : Nat → Option Nat} {i : Int32} (ht : gTys[t]? = some (.object C)) (hdg : decode k.2.1 pc = .ok (.aaload, 1)) (hr : gRd M a = some (aQ G t n f)) (hi : i = nI j) (hj : j < n) (hn : n < 2 ^ 31) : Go G k d (pc, lv, .int i :: .ref a :: st, M) (pc + 1, lv, va_rf (f j) :: st, M) := by
  subst hi
  have hcl := nI_clamp (Nat.lt_trans hj hn)
  refine Go.pure (fun p l e R s m args below meth c H locs cells slots Q ls hK hS hR hcc hsl hl w => ?_)
  obtain ⟨hx, hb, -, -, -, hT, -⟩ := hK
  refine W.aald (v := va_rf (f j)) (ty := .object C) hx hb (hR.at hr) ((hT.2.2.2 t _ ht).1 n (fun j => va_rf (f j))) rfl (fun q => by cases q) (by show ¬ (nI j < 0 ∨ (arrV _ _ _).slots.size ≤ _); rw [arrV_size]; exact vp_in_nI hj hn) (by show (arrV _ _ _).slots[_]? = _; rw [hcl, arrV_read _ _ hj]) rfl rfl hdg w
theorem go_iast {a n j : Nat} {f : Nat → Int32} {i x : Int32} (hdg : decode k.2.1 pc = .ok (.iastore, 1)) (hr : gRd M a = some (aI G n f)) (hi : i = nI j) (hj : j < n) (hn : n < 2 ^ 31) : Go G k d (pc, lv, .int x :: .int i :: .ref a :: st, M) (pc + 1, lv, st, gWr M a (aI G n (upd f j x))) := by
  subst hi
  have hcl := nI_clamp (Nat.lt_trans hj hn)
  refine go_store hr (fun p l e R s m args below meth c H locs cells slots Q ls hK hR hl w => ?_)
  obtain ⟨hx, hb, -, -, -, hT, -⟩ := hK
  refine W.iast hx hb (hR.at hr) ((hT.2.2.2 0 .int rfl).1 n (fun j => .int (f j))) (fun q => by cases q) (by show ¬ (nI j < 0 ∨ (arrV _ _ _).slots.size ≤ _); rw [arrV_size]; exact vp_in_nI hj hn) rfl rfl hdg fun H1 e z oq => ?_
  refine w H1 _ ?_ z oq
  show H1[a]? = some (vp_cell _ _)
  rw [e, hcl]
  rw [vp_cell_i, vp_cell_i, arrV_store]
  congr 2
  funext q
  by_cases hq : q = j
  · subst hq; simp [updV, upd]
  · simp [updV, upd, hq]
theorem go_last {a n j : Nat} {f : Nat → Int64} {i : Int32} {x : Int64} (hdg : decode k.2.1 pc = .ok (.lastore, 1)) (hr : gRd M a = some (aL G n f)) (hi : i = nI j) (hj : j < n) (hn : n < 2 ^ 31) : Go G k d (pc, lv, .long x :: .int i :: .ref a :: st, M) (pc + 1, lv, st, gWr M a (aL G n (vp_updL f j x))) := by
  subst hi
  have hcl := nI_clamp (Nat.lt_trans hj hn)
  refine go_store hr (fun p l e R s m args below meth c H locs cells slots Q ls hK hR hl w => ?_)
  obtain ⟨hx, hb, -, -, -, hT, -⟩ := hK
  refine W.last hx hb (hR.at hr) ((hT.2.2.2 1 .long rfl).1 n (fun j => .long (f j))) (fun q => by cases q) (by show ¬ (nI j < 0 ∨ (arrV _ _ _).slots.size ≤ _); rw [arrV_size]; exact vp_in_nI hj hn) rfl rfl hdg fun H1 e z oq => ?_
  refine w H1 _ ?_ z oq
  show H1[a]? = some (vp_cell _ _)
  rw [e, hcl]
  rw [vp_cell_l, vp_cell_l, arrV_store]
  congr 2
  funext q
  by_cases hq : q = j
  · subst hq; simp [updV, vp_updL]
  · simp [updV, vp_updL, hq]
theorem go_aast {a n j t v ci : Nat} {r : vw_C} {vs : List Value} {f : Nat → Option Nat} {i : Int32} (ht : gTys[t]? = some (.object r.1)) (hc : classes[ci]? = some r) (hdg : decode k.2.1 pc = .ok (.aastore, 1)) (hr : gRd M a = some (aQ G t n f)) (hv : gRd M v = some (.inr (ci, vs))) (hi : i = nI j) (hj : j < n) (hn : n < 2 ^ 31) : Go G k d (pc, lv, .ref v :: .int i :: .ref a :: st, M) (pc + 1, lv, st, gWr M a (aQ G t n (va_up f j (some v)))) := by
  subst hi
  have hcl := nI_clamp (Nat.lt_trans hj hn)
  refine go_store hr (fun p l e R s m args below meth c H locs cells slots Q ls hK hR hl w => ?_)
  obtain ⟨hx, hb, -, -, -, hT, -⟩ := hK
  have hin := vp_in_nI hj hn
  have h0 : ¬ nI j < 0 := fun q => hin (Or.inl q)
  obtain ⟨r', hr', cellV, g1, g2, g3, -⟩ := hR.at hv
  have hcls := (hT.2.2.1 ci r hc).2
  obtain ⟨kA, comp, k1, k2, k3, -⟩ := (hT.2.2.2 t _ ht).2
  have hcomp : comp = G.1.1 ci := Option.some.inj (k3.symm.trans hcls.1)
  subst hcomp
  obtain ⟨kC, hkC, -⟩ := hcls.2
  refine W.aast hx hb (hR.at hr) (fun q h => by cases h) (fun h => by cases h) k1 k2 rfl hkC ⟨h0, by show _ < (arrV _ _ _).slots.size; rw [arrV_size, hcl]; exact hj⟩ g1 (fun q h => by rw [g3] at h; cases h) (by rw [g2]; exact hkC) (by rw [g2]; exact va_assign hcls) rfl rfl hdg fun H1 e z oq => ?_
  refine w H1 _ ?_ z oq
  show H1[a]? = some (vp_cell _ _)
  rw [e, hcl]
  rw [vp_cell_q, vp_cell_q, arrV_store]
  congr 2
  funext q
  by_cases hq : q = j
  · subst hq; simp [updV, va_up, va_rf]
  · simp [updV, va_up, hq]
theorem go_alenI {a n : Nat} {f : Nat → Int32} (hdg : decode k.2.1 pc = .ok (.arraylength, 1)) (hr : gRd M a = some (aI G n f)) : Go G k d (pc, lv, .ref a :: st, M) (pc + 1, lv, .int (nI n) :: st, M) := by
  refine Go.pure (fun p l e R s m args below meth c H locs cells slots Q ls hK hS hR hcc hsl hl w => ?_)
  obtain ⟨hx, hb, -, -, -, hT, -⟩ := hK
  exact W.alen (n := Int32.ofNat n) hx hb (hR.at hr) ((hT.2.2.2 0 .int rfl).1 n (fun j => .int (f j))) (by rw [vp_cell_i, arrV_size] <;> rfl) rfl rfl hdg w
-- making cells
theorem go_make {pc' : Nat} {e1 : va_E} {u : Nat} {st' : List Value}
    (h : ∀ (p : Program) (l : Launch) (e : Env) (R : Room) (s : State) (m : MethodId) (args : Array Value) (below : List Frame) (meth : Method) (c : Code) (H : Heap) (locs : List Loc) (cells slots : Nat) (Q : State → Prop) (ls : Array Slot), gK G k d p R s m meth c → H.size = M.2.1 → cells + 1 ≤ R.cells → slots + u ≤ R.slots →
      (∀ H1 : Heap, va_at G.1 classes (H.size, e1) H1 → H1.size = H.size + 1 → (∀ q : Nat, q < H.size → H1[q]? = H[q]?) → W p l e R s m args below meth c H1 locs (cells + 1) (slots + u) Q (F0 m pc' ls st')) → W p l e R s m args below meth c H locs cells slots Q (F0 m pc ls st)) :
    Go G k d (pc, lv, st, M) (pc', lv, st', gNw M e1 u) := by
  refine ⟨⟨Nat.le_succ _, Nat.le_add_right _ _⟩, ?_⟩
  intro p l e R s m args below meth c u0 Q hK h3 h4 h5 h6 hX H locs ls hR hS hl
  dsimp only [gNw] at h3 h4 h5 h6
  have hsz : H.size = M.2.1 := hR.2
  refine h p l e R s m args below meth c H locs _ _ Q ls hK hsz (by dsimp only; omega) (by dsimp only; omega) (fun H1 he z oq => ?_)
  have hb0 : G.2.2.1 ≤ s.heap.size := hK.2.2.2.2.2.2.2.1
  have w := hX H1 locs ls (hR.push (Nat.le_trans hb0 hS.1) he z oq) ⟨Nat.le_trans hS.1 (by omega), fun q h1 h2 => (oq q (Nat.lt_of_lt_of_le h1 hS.1)).trans (hS.2.1 q h1 h2), hS.2.2⟩ hl
  refine W.cs ?_ ?_ w
  · show M.2.1 - s.heap.size + 1 = (M.2.1 + 1) - s.heap.size
    omega
  · show M.2.2 - u0 + u = (M.2.2 + u) - u0
    omega
theorem go_new {idx ci : Nat} {C : String} {T : u_T} {N : Nat} {fs : List Value} (hc : classes[ci]? = some (C, T, N)) (hin : ∀ w ∈ u_ws C T N, w ∈ gTB) (ty : Nat → FieldType) (hty : ∀ k, k < N → parseFieldDescriptor (T k).2.2.1 = some (ty k)) (hcl : Cond.classLink k.1.cls idx C ∈ gTB) (hins : Cond.instantiable C N ∈ gTB) (hini : Cond.initialized C ∈ gTB) (hfs : ∀ j, j < N → defaultValue (ty j) = vp_V fs j) (hdg : decode k.2.1 pc = .ok (.new idx, 3)) : Go G k d (pc, lv, st, M) (pc + 3, lv, .ref M.2.1 :: st, gNw M (.inr (ci, fs)) N) := by
  refine go_make (fun p l e R s m args below meth c H locs cells slots Q ls hK hsz hcells hslots w => ?_)
  obtain ⟨hx, hb, -, hown, -, hT, -⟩ := hK
  have hKn := hT.2.2.1 ci _ hc
  rw [← hsz] at w
  exact W.newcK hx hb hown (hT.1 _ hcl args) (hT.1 _ hins args) (hT.1 _ hini args) rfl hdg hcells hslots hKn.2.1 rfl fun H1 kC hkC e1 z1 o1 =>
    w H1 ⟨_, hc, (u_born ty (fun w hw => hT.1 w hw args) hin hKn hkC e1 hty).to hfs⟩ z1 o1
theorem go_newI {n : Int32} {N : Nat} (hn : n = nI N) (hN : N < 134217728) (hdg : decode k.2.1 pc = .ok (.newarray .int, 2)) (hw : Cond.arrayClass .int ∈ gTB) : Go G k d (pc, lv, .int n :: st, M) (pc + 2, lv, .ref M.2.1 :: st, gNw M (aI G N (fun _ => 0)) N) := by
  subst hn
  have hlt : N < 2 ^ 31 := by omega
  refine go_make (fun p l e R s m args below meth c H locs cells slots Q ls hK hsz hcells hslots w => ?_)
  obtain ⟨hx, hb, -, hown, -, hT, -⟩ := hK
  rw [← hsz] at w
  refine va_newaK hx hb (atype := .int) (hT.1 _ hw args) rfl hdg rfl (nI_pos hlt) (nI_clamp hlt) (by show N * 4 ≤ 536870912; omega) hcells hslots rfl fun H1 cA e1 z1 o1 hAr hNm => ?_
  have hcA : cA = G.2.1 0 := Option.some.inj (hNm.symm.trans (hT.2.2.2 0 .int rfl).2)
  subst hcA
  exact w H1 e1 z1 o1
theorem go_newL {n : Int32} {N : Nat} (hn : n = nI N) (hN : N < 67108864) (hdg : decode k.2.1 pc = .ok (.newarray .long, 2)) (hw : Cond.arrayClass .long ∈ gTB) : Go G k d (pc, lv, .int n :: st, M) (pc + 2, lv, .ref M.2.1 :: st, gNw M (aL G N (fun _ => 0)) N) := by
  subst hn
  have hlt : N < 2 ^ 31 := by omega
  refine go_make (fun p l e R s m args below meth c H locs cells slots Q ls hK hsz hcells hslots w => ?_)
  obtain ⟨hx, hb, -, hown, -, hT, -⟩ := hK
  rw [← hsz] at w
  refine va_newaK hx hb (atype := .long) (hT.1 _ hw args) rfl hdg rfl (nI_pos hlt) (nI_clamp hlt) (by show N * 8 ≤ 536870912; omega) hcells hslots rfl fun H1 cA e1 z1 o1 hAr hNm => ?_
  have hcA : cA = G.2.1 1 := Option.some.inj (hNm.symm.trans (hT.2.2.2 1 .long rfl).2)
  subst hcA
  exact w H1 e1 z1 o1
theorem go_newQ {idx t : Nat} {C : String} {n : Int32} {N : Nat} (ht : gTys[t]? = some (.object C)) (hn : n = nI N) (hN : N < 134217728) (hdg : decode k.2.1 pc = .ok (.anewarray idx, 3)) (hcl : Cond.classLink k.1.cls idx C ∈ gTB) (hov : Cond.arrayOver (.object C) ∈ gNW) : Go G k d (pc, lv, .int n :: st, M) (pc + 3, lv, .ref M.2.1 :: st, gNw M (aQ G t N (fun _ => none)) N) := by
  subst hn
  have hlt : N < 2 ^ 31 := by omega
  have hcN := nI_clamp hlt
  refine go_make (fun p l e R s m args below meth c H locs cells slots Q ls hK hsz hcells hslots w => ?_)
  obtain ⟨hx, hb, -, hown, -, hT, -⟩ := hK
  rw [← hsz] at w
  refine W.anew hx hb hown (hT.1 _ hcl args) (va_AO.use (hT.2.1 _ hov)) rfl hdg rfl (nI_pos hlt) (by rw [hcN]; omega) hcells (by rw [hcN]; exact hslots) fun cA kA comp f1 f2 f3 f4 => ?_
  rw [hcN]
  obtain ⟨kA', comp', g1, g2, g3, g4⟩ := (hT.2.2.2 t _ ht).2
  have hcA : cA = G.2.1 t := Option.some.inj (f1.symm.trans g4)
  subst hcA
  generalize hH1 : H.push ({ cls := G.2.1 t, slots := Array.replicate N .null, vm := .none } : Cell) = H1
  refine w H1 ?_ (by rw [← hH1, Array.size_push]) (fun q hq => by rw [← hH1, Array.getElem?_push, if_neg (Nat.ne_of_lt hq)])
  show H1[H.size]? = some (vp_cell _ _)
  rw [vp_cell_q, ← hH1, Array.getElem?_push_size]
  exact congrArg some (arrV_new ..)
end GMEM
-- ===== contracts and calls =====
def gPc (G : gG) (av : List Value) (M : gM) : Array Value → State → Prop := fun v U => v = av.toArray ∧ gT G U ∧ gZ G U U.heap ∧ G.2.2.1 ≤ U.heap.size ∧ gR G M U.heap
def gQc (G : gG) (r : Option Value) (M' : gM) : Array Value → State → Outcome → State → Prop := fun _ st oc t => oc = .returned r ∧ gR G M' t.heap ∧ va_F (gA G) st t
theorem gPc_blind {G : gG} {av : List Value} {M : gM} : FrameBlind (gPc G av M) := fun a U g mk h => ⟨h.1, gT.moved (s := U) (U := U.calling g mk a) (State.WarmedH.refl U) h.2.1, gZ.moved (u := U) (U := U.calling g mk a) (Vm.Alike.refl U.vm) h.2.2.1, h.2.2.2.1, h.2.2.2.2⟩
def gRet (k : gY) (pc : Nat) (st : List Value) (r : Option Value) : Prop :=
  (∃ v : Int32, st = [.int v] ∧ r = some (.int v) ∧ (∃ ty, k.2.2.2 = some ty ∧ narrow ty (.int v) = .int v) ∧ decode k.2.1 pc = .ok (.ireturn, 1)) ∨
  (∃ v : Int64, st = [.long v] ∧ r = some (.long v) ∧ k.2.2.2 = some .long ∧ decode k.2.1 pc = .ok (.lreturn, 1)) ∨
  (st = [] ∧ r = none ∧ k.2.2.2 = none ∧ decode k.2.1 pc = .ok (.return_, 1)) ∨
  (∃ v : Value, st = [v] ∧ r = some v ∧ (v = .null ∨ ∃ a, v = .ref a) ∧ (∃ rt, k.2.2.2 = some rt ∧ ((∃ n, rt = .object n) ∨ ∃ t, rt = .array t)) ∧ decode k.2.1 pc = .ok (.areturn, 1))
/-- the method k, called with av over the memory M, answers r and leaves M' -/
def Ev (G : gG) (d : Nat) (k : gY) (av : List Value) (M : gM) (r : Option Value) (M' : gM) : Prop :=
  ∃ (pcR : Nat) (lvR : gL) (stR : List Value), Go G k d (0, lv_args 0 av, [], M) (pcR, lvR, stR, M') ∧ gRet k pcR stR r ∧ (lg_sl av).length ≤ k.2.2.1
theorem Ev.up {G : gG} {d d' : Nat} {k : gY} {av : List Value} {M M' : gM} {r : Option Value} (h : Ev G d k av M r M') (hd : d ≤ d') : Ev G d' k av M r M' := by
  obtain ⟨a, b, c, h1, h2⟩ := h
  exact ⟨a, b, c, h1.up hd, h2⟩
theorem Ev.i {G : gG} {d pc : Nat} {k : gY} {av : List Value} {M M' : gM} {lv : gL} {v : Int32} (hdg : decode k.2.1 pc = .ok (.ireturn, 1)) (ht : k.2.2.2 = some .int) (hl : (lg_sl av).length ≤ k.2.2.1) (h : Go G k d (0, lv_args 0 av, [], M) (pc, lv, [.int v], M')) : Ev G d k av M (some (.int v)) M' :=
  ⟨_, _, _, h, Or.inl ⟨v, rfl, rfl, ⟨_, ht, rfl⟩, hdg⟩, hl⟩
theorem Ev.z {G : gG} {d pc : Nat} {k : gY} {av : List Value} {M M' : gM} {lv : gL} {v : Int32} (hdg : decode k.2.1 pc = .ok (.ireturn, 1)) (ht : k.2.2.2 = some .boolean) (hl : (lg_sl av).length ≤ k.2.2.1) (hv : v = 0 ∨ v = 1) (h : Go G k d (0, lv_args 0 av, [], M) (pc, lv, [.int v], M')) : Ev G d k av M (some (.int v)) M' :=
  ⟨_, _, _, h, Or.inl ⟨v, rfl, rfl, ⟨_, ht, by rcases hv with rfl | rfl <;> rfl⟩, hdg⟩, hl⟩
theorem Ev.l {G : gG} {d pc : Nat} {k : gY} {av : List Value} {M M' : gM} {lv : gL} {v : Int64} (hdg : decode k.2.1 pc = .ok (.lreturn, 1)) (ht : k.2.2.2 = some .long) (hl : (lg_sl av).length ≤ k.2.2.1) (h : Go G k d (0, lv_args 0 av, [], M) (pc, lv, [.long v], M')) : Ev G d k av M (some (.long v)) M' :=
  ⟨_, _, _, h, Or.inr (Or.inl ⟨v, rfl, rfl, ht, hdg⟩), hl⟩
theorem Ev.v {G : gG} {d pc : Nat} {k : gY} {av : List Value} {M M' : gM} {lv : gL} (hdg : decode k.2.1 pc = .ok (.return_, 1)) (ht : k.2.2.2 = none) (hl : (lg_sl av).length ≤ k.2.2.1) (h : Go G k d (0, lv_args 0 av, [], M) (pc, lv, [], M')) : Ev G d k av M none M' :=
  ⟨_, _, _, h, Or.inr (Or.inr (Or.inl ⟨rfl, rfl, ht, hdg⟩)), hl⟩
theorem Ev.met {l : Launch} {G : gG} {d : Nat} {k : gY} {av : List Value} {M M' : gM} {r : Option Value} (h : Ev G d k av M r M') (hy : plainFor k.1 = true) :
    Met l k.1 [.code k.1 k.2.1 k.2.2.1 k.2.2.2] { frames := d, cells := M'.2.1 - M.2.1, slots := M'.2.2 - M.2.2, locals := 40 * d } (gPc G av M) (gQc G r M') (M'.2.1 - M.2.1) (M'.2.2 - M.2.2) (gA G) := by
  obtain ⟨pcR, lvR, stR, ⟨⟨b1, b2⟩, hgo⟩, hret, hlen⟩ := h
  dsimp only at b1 b2
  refine va_MetF (cc := k.2.1) (maxL := k.2.2.1) (ret := k.2.2.2) hy rfl ?_
  intro p e s m args below meth c s₁ B hml hv
  obtain ⟨rfl, hT, hZ, hb0, hR⟩ := hv
  have hx := B.exec
  have hb := B.bytes
  have hr := B.returns
  have hown : s.vm.findClass k.1.cls = some m.cls := findClass_of_methodNamed B.named
  have hlocks := B.notSynchronized
  have hnm : meth.name = k.1.name := (name_of_methodNamed B.named B.method).1
  have hsz : s.heap.size = M.2.1 := hR.2
  have hl := lv_entry av (n := k.2.2.1) hlen
  rw [lg_entry_eq]
  have key := hgo p l e { frames := d, cells := M'.2.1 - M.2.1, slots := M'.2.2 - M.2.2, locals := 40 * d } s m av.toArray below meth c M.2.2 (MQ below (gQc G r M') av.toArray s (M'.2.1 - M.2.1) (M'.2.2 - M.2.2) (gA G)) ⟨hx, hb, hml, hown, hnm, hT, hZ, hb0, Nat.le_refl d, Nat.le_refl _⟩ (by dsimp only; omega) (Nat.le_refl _) (by dsimp only; omega) (by dsimp only; omega) (by
    intro H locs ls hR' hS hl'
    dsimp only at hR' hl' ⊢
    rw [hsz]
    have hq : ∀ t : State, t.heap = H → s.WarmedH t.vm → gQc G r M' av.toArray s (.returned r) t := fun t ht hW => ⟨rfl, by rw [ht]; exact hR', hS.F ht⟩
    rcases hret with ⟨v, rfl, rfl, ⟨ty, hty, hn⟩, hdg⟩ | ⟨v, rfl, rfl, hty, hdg⟩ | ⟨rfl, rfl, hty, hdg⟩ | ⟨v, rfl, rfl, hv, ⟨rt, hty, hrt⟩, hdg⟩
    · exact W.zret hx hb (hr.trans hty) hn hq hS.2.2 hdg
    · exact W.lret hx hb (hr.trans hty) hq hS.2.2 hdg
    · exact W.vret hx hb (hr.trans hty) hq hS.2.2 hdg
    · exact W.aret hx hb (hr.trans hty) hrt hv hq hS.2.2 hdg)
  have w := key s.heap [] _ hR va_S.rf hl
  refine W.cs ?_ ?_ w
  · dsimp only; omega
  · dsimp only; omega
section GAFTER
variable {p : Program} {l : Launch} {e : Env} {R : Room} {s : State} {m : MethodId} {args : Array Value} {below : List Frame} {meth : Method} {c : Code} {H : Heap} {locs : List Loc} {cells slots : Nat} {Q : State → Prop}
theorem g_after {G : gG} {M' : gM} {r : Option Value} {a : Array Value} {pc mc ms : Nat} {ls : Array Slot} {st0 rest : List Value} (hr : va_Run p l e R s m args below meth c H locs cells slots mc ms (F0 m pc ls st0) rest (gQc G r M' a) (gA G)) (hS : va_S (gA G) s.heap H locs)
    (kk : ∀ (H1 : Heap) (locs1 : List Loc), gR G M' H1 → va_S (gA G) s.heap H1 locs1 → W p l e R s m args below meth c H1 locs1 (cells + mc) (slots + ms) Q (F0 m (pc + 3) ls (r.toList ++ rest))) : W p l e R s m args below meth c H locs cells slots Q (F0 m pc ls st0) := by
  intro T hT X
  obtain ⟨v, st₀, t, T', L, h0, X', hL, e1, e2, ⟨hv, hR', hz, hk⟩, st⟩ := hr T hT X
  cases hv
  rw [h0] at hz hk
  obtain ⟨t2, a1, b1⟩ := kk T'.heap (locs ++ L) (by rw [e1]; exact hR') ⟨Nat.le_trans hS.1 (by rw [e1]; exact hz), fun q h1 h2 => by rw [e1, hk q (Nat.lt_of_lt_of_le h1 hS.1) h2]; exact hS.2.1 q h1 h2, fun q hq => by
      rcases List.mem_append.mp hq with h | h
      · exact hS.2.2 q h
      · exact hL q h⟩ T' rfl X'
  exact ⟨t2, st t2 a1, b1⟩
end GAFTER
section GCALL
variable {G : gG} {k : gY} {d pc : Nat} {lv : gL} {st : List Value} {M : gM}
theorem go_call {st0 st' : List Value} {r : Option Value} {M' : gM} (b1 : M.2.1 ≤ M'.2.1) (b2 : M.2.2 ≤ M'.2.2) (hst' : r.toList ++ st = st')
    (h : ∀ (p : Program) (l : Launch) (e : Env) (R : Room) (s : State) (m : MethodId) (args : Array Value) (below : List Frame) (meth : Method) (c : Code) (H : Heap) (locs : List Loc) (cells slots : Nat) (ls : Array Slot), gK G k d p R s m meth c → va_S (gA G) s.heap H locs → gR G M H → ls.size = k.2.2.1 → cells + (M'.2.1 - M.2.1) ≤ R.cells → slots + (M'.2.2 - M.2.2) ≤ R.slots →
      ∃ a : Array Value, va_Run p l e R s m args below meth c H locs cells slots (M'.2.1 - M.2.1) (M'.2.2 - M.2.2) (F0 m pc ls st0) st (gQc G r M' a) (gA G)) : Go G k d (pc, lv, st0, M) (pc + 3, lv, st', M') := by
  subst hst'
  refine ⟨⟨b1, b2⟩, ?_⟩
  intro p l e R s m args below meth c u0 Q hK h3 h4 h5 h6 hX H locs ls hR hS hl
  dsimp only at h3 h4 h5 h6
  obtain ⟨a, hr⟩ := h p l e R s m args below meth c H locs (M.2.1 - s.heap.size) (M.2.2 - u0) ls hK hS hR hl.1 (by omega) (by omega)
  refine g_after hr hS (fun H1 locs1 hR1 hS1 => ?_)
  refine W.cs ?_ ?_ (hX H1 locs1 ls hR1 hS1 hl)
  · dsimp only; omega
  · dsimp only; omega
/-- the words of a callee -/
def gC0 (y : gY) (n : Nat) : Prop := Cond.code y.1 y.2.1 y.2.2.1 y.2.2.2 ∈ gTB ∧ Cond.initialized y.1.cls ∈ gTB ∧ (y.1.cls ≠ "java/lang/invoke/MethodHandle" ∧ y.1.cls ≠ "java/lang/invoke/VarHandle") ∧ plainFor y.1 = true ∧ y.2.2.1 ≤ 21 ∧ (parseMethodDescriptor y.1.desc).map (fun d => d.parameters.length) = some n
def gLk (own : String) (idx : Nat) (y : gY) : Prop := Cond.methodLink own idx y.1 ∈ gTB ∨ ∃ host : String, Cond.methodLinkNest own idx y.1 host ∈ gNW
theorem gC0.len {y : gY} {n : Nat} (h : gC0 y n) : ∀ sig, parseMethodDescriptor y.1.desc = some sig → n = sig.parameters.length := fun sig hs => by
  have h2 := h.2.2.2.2.2
  rw [hs] at h2
  exact (Option.some.inj h2).symm
theorem g_pre {G : gG} {av : List Value} {M : gM} {s : State} {H : Heap} {locs : List Loc} (hT : gT G s) (hZ : gZ G s s.heap) (hb0 : G.2.2.1 ≤ s.heap.size) (hS : va_S (gA G) s.heap H locs) (hR : gR G M H) : ∀ U : State, U.heap = H → s.WarmedH U.vm → gPc G av M av.toArray U := fun U hU hW =>
  ⟨rfl, hT.moved hW, by rw [hU]; exact gZ.moved hW.alike (gZ.kept hZ (fun a h1 h2 => hS.2.1 a h1 h2)), by rw [hU]; exact Nat.le_trans hb0 hS.1, by rw [hU]; exact hR⟩
theorem go_callS {y : gY} {n idx d' : Nat} (As : List Value) {st0 : List Value} (st' : List Value) {r : Option Value} {M' : gM} (hc : gC0 y n) (hs : Cond.static y.1 ∈ gTB) (hlk : gLk k.1.cls idx y) (hdg : decode k.2.1 pc = .ok (.invokestatic idx, 3)) (hE : Ev G d' y As M r M') (hd : d' + 1 ≤ d) (hn : As.length = n) (hst : st0 = As.reverse ++ st) (hcat : (st.map fun v => v.category).sum ≤ 8) (hst' : r.toList ++ st = st') : Go G k d (pc, lv, st0, M) (pc + 3, lv, st', M') := by
  have hb12 := hE
  obtain ⟨_, _, _, ⟨⟨b1, b2⟩, -⟩, -⟩ := hb12
  refine go_call b1 b2 hst' (fun p l e R s m args below meth c H locs cells slots ls hK hS hR hls hcc hss => ?_)
  obtain ⟨hx, hb, hml, hown, hnm, hT, hZ, hb0, hf, hlo⟩ := hK
  have hws : ∀ w ∈ [Cond.code y.1 y.2.1 y.2.2.1 y.2.2.2], ∀ (a' : Array Value) (U : State), s.WarmedH U.vm → w.before a' U = true := fun w hw a' U hW => by
    rw [List.mem_singleton.mp hw]; exact word_at hW (gTB_good _ hc.1) (hT.1 _ hc.1 args)
  have hm21 := hc.2.2.2.2.1
  rcases hlk with h | ⟨host, h⟩
  · exact ⟨_, va_runS (As := As) (rest := st) (nL := k.2.2.1) (Ts := gTB) ⟨hx, hb, hml, hown, fun w hw => hT.1 w hw args⟩ (hE.met hc.2.2.2.1) ⟨⟨rfl, rfl, by dsimp only; omega, by dsimp only; omega, hws, List.mem_cons_self, hT.1 _ hc.1 args, hT.1 _ hc.2.1 args, hc.2.2.1, hc.len, hT.1 _ h args⟩, hT.1 _ hs args⟩ ⟨gPc_blind, g_pre hT hZ hb0 hS hR⟩ rfl hn hls hst (lv_room hcat) hdg ⟨hcc, hss⟩⟩
  · exact ⟨_, va_runSN (As := As) (rest := st) (nL := k.2.2.1) (Ts := gTB) (host := host) ⟨hx, hb, hml, hown, fun w hw => hT.1 w hw args⟩ (hE.met hc.2.2.2.1) ⟨⟨⟨rfl, rfl, by dsimp only; omega, by dsimp only; omega, hws, List.mem_cons_self⟩, hT.1 _ hc.1 args, hT.1 _ hc.2.1 args, hc.2.2.1, hc.len, va_Nw.use rfl (hT.2.1 _ h)⟩, hT.1 _ hs args, trivial⟩ ⟨gPc_blind, g_pre hT hZ hb0 hS hR⟩ rfl hn hls hst (lv_room hcat) hdg ⟨hcc, hss⟩⟩
theorem go_callV {y : gY} {n idx d' b ci : Nat} {q : vw_C} {fs : List Value} (As : List Value) {st0 : List Value} (st' : List Value) {r : Option Value} {M' : gM} (hc : gC0 y n) (hi : Cond.instanceMethod y.1 ∈ gTB) (hsel : Cond.selects y.1.cls y.1 y.1 ∈ gTB) (hlk : gLk k.1.cls idx y) (hdg : decode k.2.1 pc = .ok (.invokevirtual idx, 3)) (hq : classes[ci]? = some q) (hq1 : q.1 = y.1.cls) (hrb : gRd M b = some (.inr (ci, fs))) (hE : Ev G d' y (.ref b :: As) M r M') (hd : d' + 1 ≤ d) (hn : As.length = n) (hst : st0 = As.reverse ++ .ref b :: st) (hcat : (st.map fun v => v.category).sum ≤ 8) (hst' : r.toList ++ st = st') : Go G k d (pc, lv, st0, M) (pc + 3, lv, st', M') := by
  have hb12 := hE
  obtain ⟨_, _, _, ⟨⟨b1, b2⟩, -⟩, -⟩ := hb12
  refine go_call b1 b2 hst' (fun p l e R s m args below meth c H locs cells slots ls hK hS hR hls hcc hss => ?_)
  obtain ⟨hx, hb, hml, hown, hnm, hT, hZ, hb0, hf, hlo⟩ := hK
  have hws : ∀ w ∈ [Cond.code y.1 y.2.1 y.2.2.1 y.2.2.2], ∀ (a' : Array Value) (U : State), s.WarmedH U.vm → w.before a' U = true := fun w hw a' U hW => by
    rw [List.mem_singleton.mp hw]; exact word_at hW (gTB_good _ hc.1) (hT.1 _ hc.1 args)
  have hm21 := hc.2.2.2.2.1
  have hrecv : ∃ cell : Cell, H[b]? = some cell ∧ cell.vm.isStatics = false ∧ s.vm.findClass y.1.cls = some cell.cls := by
    obtain ⟨q', h1, cell, g1, g2, g3, -⟩ := hR.at hrb
    exact ⟨cell, g1, by rw [g3]; rfl, by rw [g2, ← hq1]; exact (hT.2.2.1 ci q hq).2.1⟩
  rcases hlk with h | ⟨host, h⟩
  · exact ⟨_, va_runV (As := As) (rest := st) (nL := k.2.2.1) (Ts := gTB) ⟨hx, hb, hml, hown, fun w hw => hT.1 w hw args⟩ (hE.met hc.2.2.2.1) ⟨⟨rfl, rfl, by dsimp only; omega, by dsimp only; omega, hws, List.mem_cons_self, hT.1 _ hc.1 args, hT.1 _ hc.2.1 args, hc.2.2.1, hc.len, hT.1 _ h args⟩, hT.1 _ hi args, hT.1 _ hsel args⟩ ⟨gPc_blind, hrecv, g_pre hT hZ hb0 hS hR⟩ rfl hn hls hst (lv_room hcat) hdg ⟨hcc, hss⟩⟩
  · exact ⟨_, va_runVN (As := As) (rest := st) (nL := k.2.2.1) (Ts := gTB) (host := host) ⟨hx, hb, hml, hown, fun w hw => hT.1 w hw args⟩ (hE.met hc.2.2.2.1) ⟨⟨⟨rfl, rfl, by dsimp only; omega, by dsimp only; omega, hws, List.mem_cons_self⟩, hT.1 _ hc.1 args, hT.1 _ hc.2.1 args, hc.2.2.1, hc.len, va_Nw.use rfl (hT.2.1 _ h)⟩, hT.1 _ hi args, hT.1 _ hsel args⟩ ⟨gPc_blind, hrecv, g_pre hT hZ hb0 hS hR⟩ rfl hn hls hst (lv_room hcat) hdg ⟨hcc, hss⟩⟩
theorem go_callI {y : gY} {n idx d' b : Nat} (As : List Value) {st0 : List Value} {M' : gM} (hc : gC0 y n) (hy : y.2.2.2 = none) (hy1 : y.1.name = "<init>") (hi : Cond.instanceMethod y.1 ∈ gTB) (hlk : gLk k.1.cls idx y) (hdg : decode k.2.1 pc = .ok (.invokespecial idx, 3)) (hE : Ev G d' y (.ref b :: As) M none M') (hd : d' + 1 ≤ d) (hn : As.length = n) (hst : st0 = As.reverse ++ .ref b :: st) (hcat : (st.map fun v => v.category).sum ≤ 8) : Go G k d (pc, lv, st0, M) (pc + 3, lv, st, M') := by
  have hb12 := hE
  obtain ⟨_, _, _, ⟨⟨b1, b2⟩, -⟩, -⟩ := hb12
  refine go_call (r := none) b1 b2 rfl (fun p l e R s m args below meth c H locs cells slots ls hK hS hR hls hcc hss => ?_)
  obtain ⟨hx, hb, hml, hown, hnm, hT, hZ, hb0, hf, hlo⟩ := hK
  obtain ⟨y0, yb, yn, yr⟩ := y
  dsimp only at hy
  subst hy
  have hws : ∀ w ∈ [Cond.code y0 yb yn none], ∀ (a' : Array Value) (U : State), s.WarmedH U.vm → w.before a' U = true := fun w hw a' U hW => by
    rw [List.mem_singleton.mp hw]; exact word_at hW (gTB_good _ hc.1) (hT.1 _ hc.1 args)
  have hm21 : yn ≤ 21 := hc.2.2.2.2.1
  rcases hlk with h | ⟨host, h⟩
  · exact ⟨_, va_runI (As := As) (rest := st) (nL := k.2.2.1) (Ts := gTB) ⟨hx, hb, hml, hown, fun w hw => hT.1 w hw args⟩ (hE.met hc.2.2.2.1) ⟨⟨rfl, rfl, by dsimp only; omega, by dsimp only; omega, hws, List.mem_cons_self, hT.1 _ hc.1 args, hT.1 _ hc.2.1 args, hc.2.2.1, hc.len, hT.1 _ h args⟩, hy1, hT.1 _ hi args⟩ ⟨gPc_blind, g_pre hT hZ hb0 hS hR⟩ rfl hn hls hst (lv_room hcat) hdg ⟨hcc, hss⟩⟩
  · exact ⟨_, va_runIN (As := As) (rest := st) (nL := k.2.2.1) (Ts := gTB) (host := host) ⟨hx, hb, hml, hown, fun w hw => hT.1 w hw args⟩ (hE.met hc.2.2.2.1) ⟨⟨⟨rfl, rfl, by dsimp only; omega, by dsimp only; omega, hws, List.mem_cons_self⟩, hT.1 _ hc.1 args, hT.1 _ hc.2.1 args, hc.2.2.1, hc.len, va_Nw.use rfl (hT.2.1 _ h)⟩, hy1, hT.1 _ hi args⟩ ⟨gPc_blind, g_pre hT hZ hb0 hS hR⟩ rfl hn hls hst (lv_room hcat) hdg ⟨hcc, hss⟩⟩
theorem go_obj {idx a : Nat} (h1 : Cond.methodLink k.1.cls idx Lib.objectInit ∈ gTB) (h2 : Cond.instanceMethod Lib.objectInit ∈ gTB) (h3 : Cond.code Lib.objectInit ⟨#[0xb1]⟩ 1 none ∈ gTB) (hdg : decode k.2.1 pc = .ok (.invokespecial idx, 3)) (hd : 1 ≤ d) (hcat : (st.map fun v => v.category).sum ≤ 8) : Go G k d (pc, lv, .ref a :: st, M) (pc + 3, lv, st, M) :=
  Go.pure (fun p l e R s m args below meth c H locs cells slots Q ls hK hS hR hc hs hl w => by
    obtain ⟨hx, hb, hml, hown, hnm, hT, hZ, hb0, hf, hlo⟩ := hK
    exact W.objInit hx hb hown (hT.1 _ h1 args) (hT.1 _ h2 args) (hT.1 _ h3 args) rfl (hl.1.trans hml.symm) rfl hdg (by omega) (by show 2 * 0 + _ + 12 ≤ _; omega) w)
end GCALL
end
