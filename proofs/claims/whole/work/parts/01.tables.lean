-- ===== PART A: goes FIRST, ahead of the names: the tables' words, and 'selects' of the private methods out of them =====
/-- a private method of a class that the tables say can be made, by its rows of tables_1 -/
def lw_okq (q : MethodName × Nat) : Prop := (q.1.cls ≠ "java/lang/invoke/MethodHandle" ∧ q.1.cls ≠ "java/lang/invoke/VarHandle") ∧ Cond.instantiable q.1.cls q.2 ∈ tables_1 ∧ Cond.privateMethod q.1 ∈ tables_1 ∧ Cond.instanceMethod q.1 ∈ tables_1
theorem lw_p0 : lw_okq (⟨"ParagraphSetter$Pattern", "addSign", "(I)Z"⟩, 3) := ⟨⟨by decide +kernel, by decide +kernel⟩, List.mem_of_getElem? (i := 104) (by decide +kernel), List.mem_of_getElem? (i := 388) (by decide +kernel), List.mem_of_getElem? (i := 389) (by decide +kernel)⟩
theorem lw_p1 : lw_okq (⟨"ParagraphSetter$Pattern", "hasPointsAtEdgesOnly", "()Z"⟩, 3) := ⟨⟨by decide +kernel, by decide +kernel⟩, List.mem_of_getElem? (i := 104) (by decide +kernel), List.mem_of_getElem? (i := 393) (by decide +kernel), List.mem_of_getElem? (i := 394) (by decide +kernel)⟩
theorem lw_p2 : lw_okq (⟨"ParagraphSetter$Expander", "begin", "(LParagraphSetter$Row;)V"⟩, 8) := ⟨⟨by decide +kernel, by decide +kernel⟩, List.mem_of_getElem? (i := 44) (by decide +kernel), List.mem_of_getElem? (i := 405) (by decide +kernel), List.mem_of_getElem? (i := 406) (by decide +kernel)⟩
theorem lw_p3 : lw_okq (⟨"ParagraphSetter$Expander", "isListEmpty", "()Z"⟩, 8) := ⟨⟨by decide +kernel, by decide +kernel⟩, List.mem_of_getElem? (i := 44) (by decide +kernel), List.mem_of_getElem? (i := 409) (by decide +kernel), List.mem_of_getElem? (i := 410) (by decide +kernel)⟩
theorem lw_p4 : lw_okq (⟨"ParagraphSetter$Expander", "takeOff", "()I"⟩, 8) := ⟨⟨by decide +kernel, by decide +kernel⟩, List.mem_of_getElem? (i := 44) (by decide +kernel), List.mem_of_getElem? (i := 413) (by decide +kernel), List.mem_of_getElem? (i := 414) (by decide +kernel)⟩
theorem lw_p5 : lw_okq (⟨"ParagraphSetter$Expander", "obey", "(ILParagraphSetter$Text;)I"⟩, 8) := ⟨⟨by decide +kernel, by decide +kernel⟩, List.mem_of_getElem? (i := 44) (by decide +kernel), List.mem_of_getElem? (i := 417) (by decide +kernel), List.mem_of_getElem? (i := 418) (by decide +kernel)⟩
theorem lw_p6 : lw_okq (⟨"ParagraphSetter$Expander", "callMacro", "(LParagraphSetter$Macro;)I"⟩, 8) := ⟨⟨by decide +kernel, by decide +kernel⟩, List.mem_of_getElem? (i := 44) (by decide +kernel), List.mem_of_getElem? (i := 422) (by decide +kernel), List.mem_of_getElem? (i := 423) (by decide +kernel)⟩
theorem lw_p7 : lw_okq (⟨"ParagraphSetter$Expander", "takeArgument", "()Z"⟩, 8) := ⟨⟨by decide +kernel, by decide +kernel⟩, List.mem_of_getElem? (i := 44) (by decide +kernel), List.mem_of_getElem? (i := 430) (by decide +kernel), List.mem_of_getElem? (i := 431) (by decide +kernel)⟩
theorem lw_p8 : lw_okq (⟨"ParagraphSetter$Expander", "takeGroup", "()Z"⟩, 8) := ⟨⟨by decide +kernel, by decide +kernel⟩, List.mem_of_getElem? (i := 44) (by decide +kernel), List.mem_of_getElem? (i := 435) (by decide +kernel), List.mem_of_getElem? (i := 436) (by decide +kernel)⟩
theorem lw_p9 : lw_okq (⟨"ParagraphSetter$Expander", "putInFront", "(LParagraphSetter$Row;)V"⟩, 8) := ⟨⟨by decide +kernel, by decide +kernel⟩, List.mem_of_getElem? (i := 44) (by decide +kernel), List.mem_of_getElem? (i := 440) (by decide +kernel), List.mem_of_getElem? (i := 441) (by decide +kernel)⟩
theorem lw_p10 : lw_okq (⟨"ParagraphSetter$Expander", "openGroup", "()I"⟩, 8) := ⟨⟨by decide +kernel, by decide +kernel⟩, List.mem_of_getElem? (i := 44) (by decide +kernel), List.mem_of_getElem? (i := 444) (by decide +kernel), List.mem_of_getElem? (i := 445) (by decide +kernel)⟩
theorem lw_p11 : lw_okq (⟨"ParagraphSetter$Expander", "closeGroup", "()I"⟩, 8) := ⟨⟨by decide +kernel, by decide +kernel⟩, List.mem_of_getElem? (i := 44) (by decide +kernel), List.mem_of_getElem? (i := 448) (by decide +kernel), List.mem_of_getElem? (i := 449) (by decide +kernel)⟩
theorem lw_p12 : lw_okq (⟨"ParagraphSetter$Expander", "changeSpace", "()I"⟩, 8) := ⟨⟨by decide +kernel, by decide +kernel⟩, List.mem_of_getElem? (i := 44) (by decide +kernel), List.mem_of_getElem? (i := 452) (by decide +kernel), List.mem_of_getElem? (i := 453) (by decide +kernel)⟩
theorem lw_p13 : lw_okq (⟨"ParagraphSetter$Text", "dropBlanksBehind", "()V"⟩, 3) := ⟨⟨by decide +kernel, by decide +kernel⟩, List.mem_of_getElem? (i := 157) (by decide +kernel), List.mem_of_getElem? (i := 467) (by decide +kernel), List.mem_of_getElem? (i := 468) (by decide +kernel)⟩
theorem lw_p14 : lw_okq (⟨"ParagraphSetter$Text", "move", "(II)V"⟩, 3) := ⟨⟨by decide +kernel, by decide +kernel⟩, List.mem_of_getElem? (i := 157) (by decide +kernel), List.mem_of_getElem? (i := 471) (by decide +kernel), List.mem_of_getElem? (i := 472) (by decide +kernel)⟩
theorem lw_p15 : lw_okq (⟨"ParagraphSetter$Text", "dropBlanksBefore", "()V"⟩, 3) := ⟨⟨by decide +kernel, by decide +kernel⟩, List.mem_of_getElem? (i := 157) (by decide +kernel), List.mem_of_getElem? (i := 475) (by decide +kernel), List.mem_of_getElem? (i := 476) (by decide +kernel)⟩
def lw_privs_1 : List (MethodName × Nat) := [(⟨"ParagraphSetter$Pattern", "addSign", "(I)Z"⟩, 3), (⟨"ParagraphSetter$Pattern", "hasPointsAtEdgesOnly", "()Z"⟩, 3), (⟨"ParagraphSetter$Expander", "begin", "(LParagraphSetter$Row;)V"⟩, 8), (⟨"ParagraphSetter$Expander", "isListEmpty", "()Z"⟩, 8), (⟨"ParagraphSetter$Expander", "takeOff", "()I"⟩, 8), (⟨"ParagraphSetter$Expander", "obey", "(ILParagraphSetter$Text;)I"⟩, 8), (⟨"ParagraphSetter$Expander", "callMacro", "(LParagraphSetter$Macro;)I"⟩, 8), (⟨"ParagraphSetter$Expander", "takeArgument", "()Z"⟩, 8), (⟨"ParagraphSetter$Expander", "takeGroup", "()Z"⟩, 8), (⟨"ParagraphSetter$Expander", "putInFront", "(LParagraphSetter$Row;)V"⟩, 8), (⟨"ParagraphSetter$Expander", "openGroup", "()I"⟩, 8), (⟨"ParagraphSetter$Expander", "closeGroup", "()I"⟩, 8), (⟨"ParagraphSetter$Expander", "changeSpace", "()I"⟩, 8), (⟨"ParagraphSetter$Text", "dropBlanksBehind", "()V"⟩, 3), (⟨"ParagraphSetter$Text", "move", "(II)V"⟩, 3), (⟨"ParagraphSetter$Text", "dropBlanksBefore", "()V"⟩, 3)]
theorem lw_r1 : ∀ q ∈ lw_privs_1, lw_okq q := List.forall_mem_cons.mpr ⟨lw_p0, List.forall_mem_cons.mpr ⟨lw_p1, List.forall_mem_cons.mpr ⟨lw_p2, List.forall_mem_cons.mpr ⟨lw_p3, List.forall_mem_cons.mpr ⟨lw_p4, List.forall_mem_cons.mpr ⟨lw_p5, List.forall_mem_cons.mpr ⟨lw_p6, List.forall_mem_cons.mpr ⟨lw_p7, List.forall_mem_cons.mpr ⟨lw_p8, List.forall_mem_cons.mpr ⟨lw_p9, List.forall_mem_cons.mpr ⟨lw_p10, List.forall_mem_cons.mpr ⟨lw_p11, List.forall_mem_cons.mpr ⟨lw_p12, List.forall_mem_cons.mpr ⟨lw_p13, List.forall_mem_cons.mpr ⟨lw_p14, List.forall_mem_cons.mpr ⟨lw_p15, fun _ h => absurd h List.not_mem_nil⟩⟩⟩⟩⟩⟩⟩⟩⟩⟩⟩⟩⟩⟩⟩⟩
theorem lw_p16 : lw_okq (⟨"ParagraphSetter$Text", "dropBarsBehind", "()V"⟩, 3) := ⟨⟨by decide +kernel, by decide +kernel⟩, List.mem_of_getElem? (i := 157) (by decide +kernel), List.mem_of_getElem? (i := 479) (by decide +kernel), List.mem_of_getElem? (i := 480) (by decide +kernel)⟩
theorem lw_p17 : lw_okq (⟨"ParagraphSetter$Hyphenator", "weighWord", "(LParagraphSetter$Text;II)V"⟩, 3) := ⟨⟨by decide +kernel, by decide +kernel⟩, List.mem_of_getElem? (i := 97) (by decide +kernel), List.mem_of_getElem? (i := 492) (by decide +kernel), List.mem_of_getElem? (i := 493) (by decide +kernel)⟩
theorem lw_p18 : lw_okq (⟨"ParagraphSetter$Hyphenator", "raise", "(LParagraphSetter$Pattern;III)V"⟩, 3) := ⟨⟨by decide +kernel, by decide +kernel⟩, List.mem_of_getElem? (i := 97) (by decide +kernel), List.mem_of_getElem? (i := 499) (by decide +kernel), List.mem_of_getElem? (i := 500) (by decide +kernel)⟩
theorem lw_p19 : lw_okq (⟨"ParagraphSetter$Breaks", "add", "(III)Z"⟩, 4) := ⟨⟨by decide +kernel, by decide +kernel⟩, List.mem_of_getElem? (i := 183) (by decide +kernel), List.mem_of_getElem? (i := 514) (by decide +kernel), List.mem_of_getElem? (i := 515) (by decide +kernel)⟩
theorem lw_p20 : lw_okq (⟨"ParagraphSetter$Breaks", "addAt", "(LParagraphSetter$Text;I)Z"⟩, 4) := ⟨⟨by decide +kernel, by decide +kernel⟩, List.mem_of_getElem? (i := 183) (by decide +kernel), List.mem_of_getElem? (i := 518) (by decide +kernel), List.mem_of_getElem? (i := 519) (by decide +kernel)⟩
theorem lw_p21 : lw_okq (⟨"ParagraphSetter$Chooser", "findNext", "(LParagraphSetter$Setting;I)V"⟩, 3) := ⟨⟨by decide +kernel, by decide +kernel⟩, List.mem_of_getElem? (i := 134) (by decide +kernel), List.mem_of_getElem? (i := 542) (by decide +kernel), List.mem_of_getElem? (i := 543) (by decide +kernel)⟩
theorem lw_p22 : lw_okq (⟨"ParagraphSetter$Setting", "over", "([III)I"⟩, 9) := ⟨⟨by decide +kernel, by decide +kernel⟩, List.mem_of_getElem? (i := 151) (by decide +kernel), List.mem_of_getElem? (i := 554) (by decide +kernel), List.mem_of_getElem? (i := 555) (by decide +kernel)⟩
theorem lw_p23 : lw_okq (⟨"ParagraphSetter$Setting", "isLoose", "(II)Z"⟩, 9) := ⟨⟨by decide +kernel, by decide +kernel⟩, List.mem_of_getElem? (i := 151) (by decide +kernel), List.mem_of_getElem? (i := 567) (by decide +kernel), List.mem_of_getElem? (i := 568) (by decide +kernel)⟩
theorem lw_p24 : lw_okq (⟨"ParagraphSetter$Chooser", "keepBetter", "(IIJ)V"⟩, 3) := ⟨⟨by decide +kernel, by decide +kernel⟩, List.mem_of_getElem? (i := 134) (by decide +kernel), List.mem_of_getElem? (i := 586) (by decide +kernel), List.mem_of_getElem? (i := 587) (by decide +kernel)⟩
theorem lw_p25 : lw_okq (⟨"ParagraphSetter$Chooser", "follow", "(LParagraphSetter$Setting;)V"⟩, 3) := ⟨⟨by decide +kernel, by decide +kernel⟩, List.mem_of_getElem? (i := 134) (by decide +kernel), List.mem_of_getElem? (i := 590) (by decide +kernel), List.mem_of_getElem? (i := 591) (by decide +kernel)⟩
theorem lw_p26 : lw_okq (⟨"ParagraphSetter", "showDraft", "()V"⟩, 8) := ⟨⟨by decide +kernel, by decide +kernel⟩, List.mem_of_getElem? (i := 15) (by decide +kernel), List.mem_of_getElem? (i := 594) (by decide +kernel), List.mem_of_getElem? (i := 595) (by decide +kernel)⟩
theorem lw_p27 : lw_okq (⟨"ParagraphSetter$Setting", "items", "(I)I"⟩, 9) := ⟨⟨by decide +kernel, by decide +kernel⟩, List.mem_of_getElem? (i := 151) (by decide +kernel), List.mem_of_getElem? (i := 626) (by decide +kernel), List.mem_of_getElem? (i := 627) (by decide +kernel)⟩
theorem lw_p28 : lw_okq (⟨"ParagraphSetterModel", "expand", "()I"⟩, 52) := ⟨⟨by decide +kernel, by decide +kernel⟩, List.mem_of_getElem? (i := 650) (by decide +kernel), List.mem_of_getElem? (i := 848) (by decide +kernel), List.mem_of_getElem? (i := 849) (by decide +kernel)⟩
theorem lw_p29 : lw_okq (⟨"ParagraphSetterModel", "take", "()I"⟩, 52) := ⟨⟨by decide +kernel, by decide +kernel⟩, List.mem_of_getElem? (i := 650) (by decide +kernel), List.mem_of_getElem? (i := 852) (by decide +kernel), List.mem_of_getElem? (i := 853) (by decide +kernel)⟩
theorem lw_p30 : lw_okq (⟨"ParagraphSetterModel", "call", "(I)I"⟩, 52) := ⟨⟨by decide +kernel, by decide +kernel⟩, List.mem_of_getElem? (i := 650) (by decide +kernel), List.mem_of_getElem? (i := 856) (by decide +kernel), List.mem_of_getElem? (i := 857) (by decide +kernel)⟩
theorem lw_p31 : lw_okq (⟨"ParagraphSetterModel", "takeArgument", "()Z"⟩, 52) := ⟨⟨by decide +kernel, by decide +kernel⟩, List.mem_of_getElem? (i := 650) (by decide +kernel), List.mem_of_getElem? (i := 860) (by decide +kernel), List.mem_of_getElem? (i := 861) (by decide +kernel)⟩
def lw_privs_2 : List (MethodName × Nat) := [(⟨"ParagraphSetter$Text", "dropBarsBehind", "()V"⟩, 3), (⟨"ParagraphSetter$Hyphenator", "weighWord", "(LParagraphSetter$Text;II)V"⟩, 3), (⟨"ParagraphSetter$Hyphenator", "raise", "(LParagraphSetter$Pattern;III)V"⟩, 3), (⟨"ParagraphSetter$Breaks", "add", "(III)Z"⟩, 4), (⟨"ParagraphSetter$Breaks", "addAt", "(LParagraphSetter$Text;I)Z"⟩, 4), (⟨"ParagraphSetter$Chooser", "findNext", "(LParagraphSetter$Setting;I)V"⟩, 3), (⟨"ParagraphSetter$Setting", "over", "([III)I"⟩, 9), (⟨"ParagraphSetter$Setting", "isLoose", "(II)Z"⟩, 9), (⟨"ParagraphSetter$Chooser", "keepBetter", "(IIJ)V"⟩, 3), (⟨"ParagraphSetter$Chooser", "follow", "(LParagraphSetter$Setting;)V"⟩, 3), (⟨"ParagraphSetter", "showDraft", "()V"⟩, 8), (⟨"ParagraphSetter$Setting", "items", "(I)I"⟩, 9), (⟨"ParagraphSetterModel", "expand", "()I"⟩, 52), (⟨"ParagraphSetterModel", "take", "()I"⟩, 52), (⟨"ParagraphSetterModel", "call", "(I)I"⟩, 52), (⟨"ParagraphSetterModel", "takeArgument", "()Z"⟩, 52)]
theorem lw_r2 : ∀ q ∈ lw_privs_2, lw_okq q := List.forall_mem_cons.mpr ⟨lw_p16, List.forall_mem_cons.mpr ⟨lw_p17, List.forall_mem_cons.mpr ⟨lw_p18, List.forall_mem_cons.mpr ⟨lw_p19, List.forall_mem_cons.mpr ⟨lw_p20, List.forall_mem_cons.mpr ⟨lw_p21, List.forall_mem_cons.mpr ⟨lw_p22, List.forall_mem_cons.mpr ⟨lw_p23, List.forall_mem_cons.mpr ⟨lw_p24, List.forall_mem_cons.mpr ⟨lw_p25, List.forall_mem_cons.mpr ⟨lw_p26, List.forall_mem_cons.mpr ⟨lw_p27, List.forall_mem_cons.mpr ⟨lw_p28, List.forall_mem_cons.mpr ⟨lw_p29, List.forall_mem_cons.mpr ⟨lw_p30, List.forall_mem_cons.mpr ⟨lw_p31, fun _ h => absurd h List.not_mem_nil⟩⟩⟩⟩⟩⟩⟩⟩⟩⟩⟩⟩⟩⟩⟩⟩
theorem lw_p32 : lw_okq (⟨"ParagraphSetterModel", "clean", "()V"⟩, 52) := ⟨⟨by decide +kernel, by decide +kernel⟩, List.mem_of_getElem? (i := 650) (by decide +kernel), List.mem_of_getElem? (i := 864) (by decide +kernel), List.mem_of_getElem? (i := 865) (by decide +kernel)⟩
theorem lw_p33 : lw_okq (⟨"ParagraphSetterModel", "drop", "(I)V"⟩, 52) := ⟨⟨by decide +kernel, by decide +kernel⟩, List.mem_of_getElem? (i := 650) (by decide +kernel), List.mem_of_getElem? (i := 868) (by decide +kernel), List.mem_of_getElem? (i := 869) (by decide +kernel)⟩
theorem lw_p34 : lw_okq (⟨"ParagraphSetterModel", "hyphenate", "()V"⟩, 52) := ⟨⟨by decide +kernel, by decide +kernel⟩, List.mem_of_getElem? (i := 650) (by decide +kernel), List.mem_of_getElem? (i := 872) (by decide +kernel), List.mem_of_getElem? (i := 873) (by decide +kernel)⟩
theorem lw_p35 : lw_okq (⟨"ParagraphSetterModel", "greatest", "(III)I"⟩, 52) := ⟨⟨by decide +kernel, by decide +kernel⟩, List.mem_of_getElem? (i := 650) (by decide +kernel), List.mem_of_getElem? (i := 876) (by decide +kernel), List.mem_of_getElem? (i := 877) (by decide +kernel)⟩
theorem lw_p36 : lw_okq (⟨"ParagraphSetterModel", "signOf", "(III)I"⟩, 52) := ⟨⟨by decide +kernel, by decide +kernel⟩, List.mem_of_getElem? (i := 650) (by decide +kernel), List.mem_of_getElem? (i := 880) (by decide +kernel), List.mem_of_getElem? (i := 881) (by decide +kernel)⟩
theorem lw_p37 : lw_okq (⟨"ParagraphSetterModel", "findBreaks", "()Z"⟩, 52) := ⟨⟨by decide +kernel, by decide +kernel⟩, List.mem_of_getElem? (i := 650) (by decide +kernel), List.mem_of_getElem? (i := 884) (by decide +kernel), List.mem_of_getElem? (i := 885) (by decide +kernel)⟩
theorem lw_p38 : lw_okq (⟨"ParagraphSetterModel", "addBreak", "(III)Z"⟩, 52) := ⟨⟨by decide +kernel, by decide +kernel⟩, List.mem_of_getElem? (i := 650) (by decide +kernel), List.mem_of_getElem? (i := 888) (by decide +kernel), List.mem_of_getElem? (i := 889) (by decide +kernel)⟩
theorem lw_p39 : lw_okq (⟨"ParagraphSetterModel", "solve", "()V"⟩, 52) := ⟨⟨by decide +kernel, by decide +kernel⟩, List.mem_of_getElem? (i := 650) (by decide +kernel), List.mem_of_getElem? (i := 892) (by decide +kernel), List.mem_of_getElem? (i := 893) (by decide +kernel)⟩
theorem lw_p40 : lw_okq (⟨"ParagraphSetterModel", "measure", "(II)Z"⟩, 52) := ⟨⟨by decide +kernel, by decide +kernel⟩, List.mem_of_getElem? (i := 650) (by decide +kernel), List.mem_of_getElem? (i := 897) (by decide +kernel), List.mem_of_getElem? (i := 898) (by decide +kernel)⟩
theorem lw_p41 : lw_okq (⟨"ParagraphSetterModel", "price", "(II)J"⟩, 52) := ⟨⟨by decide +kernel, by decide +kernel⟩, List.mem_of_getElem? (i := 650) (by decide +kernel), List.mem_of_getElem? (i := 903) (by decide +kernel), List.mem_of_getElem? (i := 904) (by decide +kernel)⟩
theorem lw_p42 : lw_okq (⟨"ParagraphSetterModel", "jot", "()V"⟩, 52) := ⟨⟨by decide +kernel, by decide +kernel⟩, List.mem_of_getElem? (i := 650) (by decide +kernel), List.mem_of_getElem? (i := 907) (by decide +kernel), List.mem_of_getElem? (i := 908) (by decide +kernel)⟩
theorem lw_p43 : lw_okq (⟨"ParagraphSetterModel", "isLine", "(I)Z"⟩, 52) := ⟨⟨by decide +kernel, by decide +kernel⟩, List.mem_of_getElem? (i := 650) (by decide +kernel), List.mem_of_getElem? (i := 919) (by decide +kernel), List.mem_of_getElem? (i := 920) (by decide +kernel)⟩
theorem lw_p44 : lw_okq (⟨"ParagraphSetterModel", "characters", "(I)I"⟩, 52) := ⟨⟨by decide +kernel, by decide +kernel⟩, List.mem_of_getElem? (i := 650) (by decide +kernel), List.mem_of_getElem? (i := 927) (by decide +kernel), List.mem_of_getElem? (i := 928) (by decide +kernel)⟩
def lw_privs_3 : List (MethodName × Nat) := [(⟨"ParagraphSetterModel", "clean", "()V"⟩, 52), (⟨"ParagraphSetterModel", "drop", "(I)V"⟩, 52), (⟨"ParagraphSetterModel", "hyphenate", "()V"⟩, 52), (⟨"ParagraphSetterModel", "greatest", "(III)I"⟩, 52), (⟨"ParagraphSetterModel", "signOf", "(III)I"⟩, 52), (⟨"ParagraphSetterModel", "findBreaks", "()Z"⟩, 52), (⟨"ParagraphSetterModel", "addBreak", "(III)Z"⟩, 52), (⟨"ParagraphSetterModel", "solve", "()V"⟩, 52), (⟨"ParagraphSetterModel", "measure", "(II)Z"⟩, 52), (⟨"ParagraphSetterModel", "price", "(II)J"⟩, 52), (⟨"ParagraphSetterModel", "jot", "()V"⟩, 52), (⟨"ParagraphSetterModel", "isLine", "(I)Z"⟩, 52), (⟨"ParagraphSetterModel", "characters", "(I)I"⟩, 52)]
theorem lw_r3 : ∀ q ∈ lw_privs_3, lw_okq q := List.forall_mem_cons.mpr ⟨lw_p32, List.forall_mem_cons.mpr ⟨lw_p33, List.forall_mem_cons.mpr ⟨lw_p34, List.forall_mem_cons.mpr ⟨lw_p35, List.forall_mem_cons.mpr ⟨lw_p36, List.forall_mem_cons.mpr ⟨lw_p37, List.forall_mem_cons.mpr ⟨lw_p38, List.forall_mem_cons.mpr ⟨lw_p39, List.forall_mem_cons.mpr ⟨lw_p40, List.forall_mem_cons.mpr ⟨lw_p41, List.forall_mem_cons.mpr ⟨lw_p42, List.forall_mem_cons.mpr ⟨lw_p43, List.forall_mem_cons.mpr ⟨lw_p44, fun _ h => absurd h List.not_mem_nil⟩⟩⟩⟩⟩⟩⟩⟩⟩⟩⟩⟩⟩
def lw_privs : List (MethodName × Nat) := lw_privs_1 ++ (lw_privs_2 ++ (lw_privs_3))
def lw_tbl : List Cond := k2_sels lw_privs ++ tables_1
theorem lw_privs_ok : ∀ q ∈ lw_privs, lw_okq q := by
  show ∀ q ∈ lw_privs_1 ++ (lw_privs_2 ++ (lw_privs_3)), lw_okq q
  exact List.forall_mem_append.mpr ⟨lw_r1, List.forall_mem_append.mpr ⟨lw_r2, lw_r3⟩⟩
def gTB : List Cond := lw_tbl.filter goodWord
theorem gTB_good : ∀ w ∈ gTB, (w.onTables && w.keeps) = true ∨ ∃ ty, w = .arrayClass ty := fun w h => good_of_word (List.mem_filter.mp h).2
theorem gTB_t {w : Cond} (h : w ∈ tables_1) (hg : goodWord w = true) : w ∈ gTB := List.mem_filter.mpr ⟨List.mem_append_right _ h, hg⟩
theorem gTB_s {w : Cond} (h : w ∈ k2_sels lw_privs) (hg : goodWord w = true) : w ∈ gTB := List.mem_filter.mpr ⟨List.mem_append_left _ h, hg⟩
theorem gIn1 {w : Cond} (h : w ∈ tables_1_1) : w ∈ tables_1 := List.mem_append_left _ h
theorem gIn2 {w : Cond} (h : w ∈ tables_1_2) : w ∈ tables_1 := List.mem_append_right _ (List.mem_append_left _ h)
theorem gIn3 {w : Cond} (h : w ∈ tables_1_3) : w ∈ tables_1 := List.mem_append_right _ (List.mem_append_right _ (List.mem_append_left _ h))
theorem gIn4 {w : Cond} (h : w ∈ tables_1_4) : w ∈ tables_1 := List.mem_append_right _ (List.mem_append_right _ (List.mem_append_right _ (h)))
def R_Row : String := "ParagraphSetter$Row"
def F_Row : u_T := fun k => match k with
  | 0 => ("ParagraphSetter$Row", "codes", "[I", true)
  | _ => ("ParagraphSetter$Row", "size", "I", false)
def t_Row : Nat → FieldType := fun k => match k with
  | 0 => .array .int
  | _ => .int
def R_Mac : String := "ParagraphSetter$Macro"
def F_Mac : u_T := fun k => match k with
  | 0 => ("ParagraphSetter$Macro", "body", "LParagraphSetter$Row;", true)
  | _ => ("ParagraphSetter$Macro", "defined", "Z", false)
def t_Mac : Nat → FieldType := fun k => match k with
  | 0 => .object "ParagraphSetter$Row"
  | _ => .boolean
def R_Exp : String := "ParagraphSetter$Expander"
def F_Exp : u_T := fun k => match k with
  | 0 => ("ParagraphSetter$Expander", "macros", "[LParagraphSetter$Macro;", true)
  | 1 => ("ParagraphSetter$Expander", "list", "[I", true)
  | 2 => ("ParagraphSetter$Expander", "first", "I", false)
  | 3 => ("ParagraphSetter$Expander", "argument", "LParagraphSetter$Row;", true)
  | 4 => ("ParagraphSetter$Expander", "outerSpaces", "[I", true)
  | 5 => ("ParagraphSetter$Expander", "open", "I", false)
  | 6 => ("ParagraphSetter$Expander", "space", "I", false)
  | _ => ("ParagraphSetter$Expander", "calls", "I", false)
def t_Exp : Nat → FieldType := fun k => match k with
  | 0 => .array (.object "ParagraphSetter$Macro")
  | 1 => .array .int
  | 2 => .int
  | 3 => .object "ParagraphSetter$Row"
  | 4 => .array .int
  | 5 => .int
  | 6 => .int
  | _ => .int
def R_Txt : String := "ParagraphSetter$Text"
def F_Txt : u_T := fun k => match k with
  | 0 => ("ParagraphSetter$Text", "codes", "[I", true)
  | 1 => ("ParagraphSetter$Text", "spaces", "[I", true)
  | _ => ("ParagraphSetter$Text", "size", "I", false)
def t_Txt : Nat → FieldType := fun k => match k with
  | 0 => .array .int
  | 1 => .array .int
  | _ => .int
def R_Pat : String := "ParagraphSetter$Pattern"
def F_Pat : u_T := fun k => match k with
  | 0 => ("ParagraphSetter$Pattern", "signs", "[I", true)
  | 1 => ("ParagraphSetter$Pattern", "levels", "[I", true)
  | _ => ("ParagraphSetter$Pattern", "size", "I", false)
def t_Pat : Nat → FieldType := fun k => match k with
  | 0 => .array .int
  | 1 => .array .int
  | _ => .int
def R_Hyp : String := "ParagraphSetter$Hyphenator"
def F_Hyp : u_T := fun k => match k with
  | 0 => ("ParagraphSetter$Hyphenator", "patterns", "[LParagraphSetter$Pattern;", true)
  | 1 => ("ParagraphSetter$Hyphenator", "size", "I", false)
  | _ => ("ParagraphSetter$Hyphenator", "levels", "[I", true)
def t_Hyp : Nat → FieldType := fun k => match k with
  | 0 => .array (.object "ParagraphSetter$Pattern")
  | 1 => .int
  | _ => .array .int
def R_Brk : String := "ParagraphSetter$Breaks"
def F_Brk : u_T := fun k => match k with
  | 0 => ("ParagraphSetter$Breaks", "kinds", "[I", true)
  | 1 => ("ParagraphSetter$Breaks", "ends", "[I", true)
  | 2 => ("ParagraphSetter$Breaks", "begins", "[I", true)
  | _ => ("ParagraphSetter$Breaks", "size", "I", false)
def t_Brk : Nat → FieldType := fun k => match k with
  | 0 => .array .int
  | 1 => .array .int
  | 2 => .array .int
  | _ => .int
def R_Sum : String := "ParagraphSetter$Sums"
def F_Sum : u_T := fun k => match k with
  | 0 => ("ParagraphSetter$Sums", "widths", "[I", true)
  | 1 => ("ParagraphSetter$Sums", "stretches", "[I", true)
  | 2 => ("ParagraphSetter$Sums", "shrinks", "[I", true)
  | 3 => ("ParagraphSetter$Sums", "letters", "[I", true)
  | _ => ("ParagraphSetter$Sums", "dashes", "[I", true)
def t_Sum : Nat → FieldType := fun k => match k with
  | 0 => .array .int
  | 1 => .array .int
  | 2 => .array .int
  | 3 => .array .int
  | _ => .array .int
def R_Stg : String := "ParagraphSetter$Setting"
def F_Stg : u_T := fun k => match k with
  | 0 => ("ParagraphSetter$Setting", "text", "LParagraphSetter$Text;", true)
  | 1 => ("ParagraphSetter$Setting", "breaks", "LParagraphSetter$Breaks;", true)
  | 2 => ("ParagraphSetter$Setting", "sums", "LParagraphSetter$Sums;", true)
  | 3 => ("ParagraphSetter$Setting", "parameters", "[I", true)
  | 4 => ("ParagraphSetter$Setting", "dashWidth", "I", false)
  | 5 => ("ParagraphSetter$Setting", "calls", "I", false)
  | 6 => ("ParagraphSetter$Setting", "ends", "[I", true)
  | 7 => ("ParagraphSetter$Setting", "lines", "I", false)
  | _ => ("ParagraphSetter$Setting", "total", "J", false)
def t_Stg : Nat → FieldType := fun k => match k with
  | 0 => .object "ParagraphSetter$Text"
  | 1 => .object "ParagraphSetter$Breaks"
  | 2 => .object "ParagraphSetter$Sums"
  | 3 => .array .int
  | 4 => .int
  | 5 => .int
  | 6 => .array .int
  | 7 => .int
  | _ => .long
def R_Cho : String := "ParagraphSetter$Chooser"
def F_Cho : u_T := fun k => match k with
  | 0 => ("ParagraphSetter$Chooser", "prices", "[J", true)
  | 1 => ("ParagraphSetter$Chooser", "lines", "[I", true)
  | _ => ("ParagraphSetter$Chooser", "nexts", "[I", true)
def t_Cho : Nat → FieldType := fun k => match k with
  | 0 => .array .long
  | 1 => .array .int
  | _ => .array .int
def R_PS : String := "ParagraphSetter"
def F_PS : u_T := fun k => match k with
  | 0 => ("ParagraphSetter", "typed", "LParagraphSetter$Row;", true)
  | 1 => ("ParagraphSetter", "widths", "[I", true)
  | 2 => ("ParagraphSetter", "parameters", "[I", true)
  | 3 => ("ParagraphSetter", "expander", "LParagraphSetter$Expander;", true)
  | 4 => ("ParagraphSetter", "hyphenator", "LParagraphSetter$Hyphenator;", true)
  | 5 => ("ParagraphSetter", "chooser", "LParagraphSetter$Chooser;", true)
  | 6 => ("ParagraphSetter", "latest", "LParagraphSetter$Setting;", false)
  | _ => ("ParagraphSetter", "draft", "LParagraphSetter$Setting;", false)
def t_PS : Nat → FieldType := fun k => match k with
  | 0 => .object "ParagraphSetter$Row"
  | 1 => .array .int
  | 2 => .array .int
  | 3 => .object "ParagraphSetter$Expander"
  | 4 => .object "ParagraphSetter$Hyphenator"
  | 5 => .object "ParagraphSetter$Chooser"
  | 6 => .object "ParagraphSetter$Setting"
  | _ => .object "ParagraphSetter$Setting"
def R_Mod : String := "ParagraphSetterModel"
def F_Mod : u_T := fun k => match k with
  | 0 => ("ParagraphSetterModel", "line", "[I", true)
  | 1 => ("ParagraphSetterModel", "length", "I", false)
  | 2 => ("ParagraphSetterModel", "widths", "[I", true)
  | 3 => ("ParagraphSetterModel", "parameter", "[I", true)
  | 4 => ("ParagraphSetterModel", "body", "[I", true)
  | 5 => ("ParagraphSetterModel", "bodyLength", "[I", true)
  | 6 => ("ParagraphSetterModel", "sign", "[I", true)
  | 7 => ("ParagraphSetterModel", "level", "[I", true)
  | 8 => ("ParagraphSetterModel", "signs", "[I", true)
  | 9 => ("ParagraphSetterModel", "patterns", "I", false)
  | 10 => ("ParagraphSetterModel", "list", "[I", true)
  | 11 => ("ParagraphSetterModel", "rest", "[I", true)
  | 12 => ("ParagraphSetterModel", "argument", "[I", true)
  | 13 => ("ParagraphSetterModel", "saved", "[I", true)
  | 14 => ("ParagraphSetterModel", "listLength", "I", false)
  | 15 => ("ParagraphSetterModel", "argumentLength", "I", false)
  | 16 => ("ParagraphSetterModel", "calls", "I", false)
  | 17 => ("ParagraphSetterModel", "item", "[I", true)
  | 18 => ("ParagraphSetterModel", "space", "[I", true)
  | 19 => ("ParagraphSetterModel", "sItem", "[I", true)
  | 20 => ("ParagraphSetterModel", "sSize", "[I", true)
  | 21 => ("ParagraphSetterModel", "sSpace", "[I", true)
  | 22 => ("ParagraphSetterModel", "items", "I", false)
  | 23 => ("ParagraphSetterModel", "sItems", "I", false)
  | 24 => ("ParagraphSetterModel", "point", "[Z", true)
  | 25 => ("ParagraphSetterModel", "kind", "[I", true)
  | 26 => ("ParagraphSetterModel", "stop", "[I", true)
  | 27 => ("ParagraphSetterModel", "begin", "[I", true)
  | 28 => ("ParagraphSetterModel", "breaks", "I", false)
  | 29 => ("ParagraphSetterModel", "points", "I", false)
  | 30 => ("ParagraphSetterModel", "best", "[J", true)
  | 31 => ("ParagraphSetterModel", "lines", "[I", true)
  | 32 => ("ParagraphSetterModel", "choice", "[I", true)
  | 33 => ("ParagraphSetterModel", "first", "I", false)
  | 34 => ("ParagraphSetterModel", "natural", "I", false)
  | 35 => ("ParagraphSetterModel", "stretch", "I", false)
  | 36 => ("ParagraphSetterModel", "shrink", "I", false)
  | 37 => ("ParagraphSetterModel", "bad", "I", false)
  | 38 => ("ParagraphSetterModel", "first2", "[I", true)
  | 39 => ("ParagraphSetterModel", "stop2", "[I", true)
  | 40 => ("ParagraphSetterModel", "kind2", "[I", true)
  | 41 => ("ParagraphSetterModel", "number2", "[I", true)
  | 42 => ("ParagraphSetterModel", "natural2", "[I", true)
  | 43 => ("ParagraphSetterModel", "d2", "[I", true)
  | 44 => ("ParagraphSetterModel", "bad2", "[I", true)
  | 45 => ("ParagraphSetterModel", "stretch2", "[I", true)
  | 46 => ("ParagraphSetterModel", "shrink2", "[I", true)
  | 47 => ("ParagraphSetterModel", "lines2", "I", false)
  | 48 => ("ParagraphSetterModel", "breaks2", "I", false)
  | 49 => ("ParagraphSetterModel", "points2", "I", false)
  | 50 => ("ParagraphSetterModel", "calls2", "I", false)
  | _ => ("ParagraphSetterModel", "cost2", "J", false)
def t_Mod : Nat → FieldType := fun k => match k with
  | 0 => .array .int
  | 1 => .int
  | 2 => .array .int
  | 3 => .array .int
  | 4 => .array .int
  | 5 => .array .int
  | 6 => .array .int
  | 7 => .array .int
  | 8 => .array .int
  | 9 => .int
  | 10 => .array .int
  | 11 => .array .int
  | 12 => .array .int
  | 13 => .array .int
  | 14 => .int
  | 15 => .int
  | 16 => .int
  | 17 => .array .int
  | 18 => .array .int
  | 19 => .array .int
  | 20 => .array .int
  | 21 => .array .int
  | 22 => .int
  | 23 => .int
  | 24 => .array .boolean
  | 25 => .array .int
  | 26 => .array .int
  | 27 => .array .int
  | 28 => .int
  | 29 => .int
  | 30 => .array .long
  | 31 => .array .int
  | 32 => .array .int
  | 33 => .int
  | 34 => .int
  | 35 => .int
  | 36 => .int
  | 37 => .int
  | 38 => .array .int
  | 39 => .array .int
  | 40 => .array .int
  | 41 => .array .int
  | 42 => .array .int
  | 43 => .array .int
  | 44 => .array .int
  | 45 => .array .int
  | 46 => .array .int
  | 47 => .int
  | 48 => .int
  | 49 => .int
  | 50 => .int
  | _ => .long
def R_Law : String := "ParagraphSetterLaw"
def R_Math : String := "java/lang/Math"
abbrev classes : List vw_C := [(R_Row, F_Row, 2), (R_Mac, F_Mac, 2), (R_Exp, F_Exp, 8), (R_Txt, F_Txt, 3), (R_Pat, F_Pat, 3), (R_Hyp, F_Hyp, 3), (R_Brk, F_Brk, 4), (R_Sum, F_Sum, 5), (R_Stg, F_Stg, 9), (R_Cho, F_Cho, 3), (R_PS, F_PS, 8), (R_Mod, F_Mod, 52)]
abbrev gTys : List FieldType := [.int, .long, .boolean, .object "ParagraphSetter$Macro", .object "ParagraphSetter$Pattern"]
theorem n_Row : ∀ a, a < 2 → ∀ b, b < 2 → a ≠ b → (F_Row a).2.1 ≠ (F_Row b).2.1 := by decide +kernel
theorem t_Row_ok : ∀ k, k < 2 → parseFieldDescriptor (F_Row k).2.2.1 = some (t_Row k) := by decide +kernel
theorem n_Mac : ∀ a, a < 2 → ∀ b, b < 2 → a ≠ b → (F_Mac a).2.1 ≠ (F_Mac b).2.1 := by decide +kernel
theorem t_Mac_ok : ∀ k, k < 2 → parseFieldDescriptor (F_Mac k).2.2.1 = some (t_Mac k) := by decide +kernel
theorem n_Exp : ∀ a, a < 8 → ∀ b, b < 8 → a ≠ b → (F_Exp a).2.1 ≠ (F_Exp b).2.1 := by decide +kernel
theorem t_Exp_ok : ∀ k, k < 8 → parseFieldDescriptor (F_Exp k).2.2.1 = some (t_Exp k) := by decide +kernel
theorem n_Txt : ∀ a, a < 3 → ∀ b, b < 3 → a ≠ b → (F_Txt a).2.1 ≠ (F_Txt b).2.1 := by decide +kernel
theorem t_Txt_ok : ∀ k, k < 3 → parseFieldDescriptor (F_Txt k).2.2.1 = some (t_Txt k) := by decide +kernel
theorem n_Pat : ∀ a, a < 3 → ∀ b, b < 3 → a ≠ b → (F_Pat a).2.1 ≠ (F_Pat b).2.1 := by decide +kernel
theorem t_Pat_ok : ∀ k, k < 3 → parseFieldDescriptor (F_Pat k).2.2.1 = some (t_Pat k) := by decide +kernel
theorem n_Hyp : ∀ a, a < 3 → ∀ b, b < 3 → a ≠ b → (F_Hyp a).2.1 ≠ (F_Hyp b).2.1 := by decide +kernel
theorem t_Hyp_ok : ∀ k, k < 3 → parseFieldDescriptor (F_Hyp k).2.2.1 = some (t_Hyp k) := by decide +kernel
theorem n_Brk : ∀ a, a < 4 → ∀ b, b < 4 → a ≠ b → (F_Brk a).2.1 ≠ (F_Brk b).2.1 := by decide +kernel
theorem t_Brk_ok : ∀ k, k < 4 → parseFieldDescriptor (F_Brk k).2.2.1 = some (t_Brk k) := by decide +kernel
theorem n_Sum : ∀ a, a < 5 → ∀ b, b < 5 → a ≠ b → (F_Sum a).2.1 ≠ (F_Sum b).2.1 := by decide +kernel
theorem t_Sum_ok : ∀ k, k < 5 → parseFieldDescriptor (F_Sum k).2.2.1 = some (t_Sum k) := by decide +kernel
theorem n_Stg : ∀ a, a < 9 → ∀ b, b < 9 → a ≠ b → (F_Stg a).2.1 ≠ (F_Stg b).2.1 := by decide +kernel
theorem t_Stg_ok : ∀ k, k < 9 → parseFieldDescriptor (F_Stg k).2.2.1 = some (t_Stg k) := by decide +kernel
theorem n_Cho : ∀ a, a < 3 → ∀ b, b < 3 → a ≠ b → (F_Cho a).2.1 ≠ (F_Cho b).2.1 := by decide +kernel
theorem t_Cho_ok : ∀ k, k < 3 → parseFieldDescriptor (F_Cho k).2.2.1 = some (t_Cho k) := by decide +kernel
theorem n_PS : ∀ a, a < 8 → ∀ b, b < 8 → a ≠ b → (F_PS a).2.1 ≠ (F_PS b).2.1 := by decide +kernel
theorem t_PS_ok : ∀ k, k < 8 → parseFieldDescriptor (F_PS k).2.2.1 = some (t_PS k) := by decide +kernel
theorem n_Mod : ∀ a, a < 52 → ∀ b, b < 52 → a ≠ b → (F_Mod a).2.1 ≠ (F_Mod b).2.1 := by decide +kernel
theorem t_Mod_ok : ∀ k, k < 52 → parseFieldDescriptor (F_Mod k).2.2.1 = some (t_Mod k) := by decide +kernel
theorem l_Row_0 : u_lay R_Row F_Row 0 ∈ gTB := gTB_t (gIn1 (List.mem_of_getElem? (i := 35) (by decide +kernel))) (by decide +kernel)
theorem l_Row_1 : u_lay R_Row F_Row 1 ∈ gTB := gTB_t (gIn1 (List.mem_of_getElem? (i := 37) (by decide +kernel))) (by decide +kernel)
theorem l_Row : ∀ w ∈ u_ws R_Row F_Row 2, w ∈ gTB := fun w hw => by
  obtain ⟨k, hk, rfl⟩ := List.mem_map.mp hw
  have hk := List.mem_range.mp hk
  match k, hk with
  | 0, _ => exact l_Row_0
  | 1, _ => exact l_Row_1
  | k + 2, hk => exact absurd hk (by omega)
theorem l_Mac_0 : u_lay R_Mac F_Mac 0 ∈ gTB := gTB_t (gIn1 (List.mem_of_getElem? (i := 64) (by decide +kernel))) (by decide +kernel)
theorem l_Mac_1 : u_lay R_Mac F_Mac 1 ∈ gTB := gTB_t (gIn1 (List.mem_of_getElem? (i := 66) (by decide +kernel))) (by decide +kernel)
theorem l_Mac : ∀ w ∈ u_ws R_Mac F_Mac 2, w ∈ gTB := fun w hw => by
  obtain ⟨k, hk, rfl⟩ := List.mem_map.mp hw
  have hk := List.mem_range.mp hk
  match k, hk with
  | 0, _ => exact l_Mac_0
  | 1, _ => exact l_Mac_1
  | k + 2, hk => exact absurd hk (by omega)
theorem l_Exp_0 : u_lay R_Exp F_Exp 0 ∈ gTB := gTB_t (gIn1 (List.mem_of_getElem? (i := 79) (by decide +kernel))) (by decide +kernel)
theorem l_Exp_1 : u_lay R_Exp F_Exp 1 ∈ gTB := gTB_t (gIn1 (List.mem_of_getElem? (i := 81) (by decide +kernel))) (by decide +kernel)
theorem l_Exp_2 : u_lay R_Exp F_Exp 2 ∈ gTB := gTB_t (gIn1 (List.mem_of_getElem? (i := 83) (by decide +kernel))) (by decide +kernel)
theorem l_Exp_3 : u_lay R_Exp F_Exp 3 ∈ gTB := gTB_t (gIn1 (List.mem_of_getElem? (i := 85) (by decide +kernel))) (by decide +kernel)
theorem l_Exp_4 : u_lay R_Exp F_Exp 4 ∈ gTB := gTB_t (gIn1 (List.mem_of_getElem? (i := 87) (by decide +kernel))) (by decide +kernel)
theorem l_Exp_5 : u_lay R_Exp F_Exp 5 ∈ gTB := gTB_t (gIn1 (List.mem_of_getElem? (i := 89) (by decide +kernel))) (by decide +kernel)
theorem l_Exp_6 : u_lay R_Exp F_Exp 6 ∈ gTB := gTB_t (gIn1 (List.mem_of_getElem? (i := 91) (by decide +kernel))) (by decide +kernel)
theorem l_Exp_7 : u_lay R_Exp F_Exp 7 ∈ gTB := gTB_t (gIn1 (List.mem_of_getElem? (i := 93) (by decide +kernel))) (by decide +kernel)
theorem l_Exp : ∀ w ∈ u_ws R_Exp F_Exp 8, w ∈ gTB := fun w hw => by
  obtain ⟨k, hk, rfl⟩ := List.mem_map.mp hw
  have hk := List.mem_range.mp hk
  match k, hk with
  | 0, _ => exact l_Exp_0
  | 1, _ => exact l_Exp_1
  | 2, _ => exact l_Exp_2
  | 3, _ => exact l_Exp_3
  | 4, _ => exact l_Exp_4
  | 5, _ => exact l_Exp_5
  | 6, _ => exact l_Exp_6
  | 7, _ => exact l_Exp_7
  | k + 8, hk => exact absurd hk (by omega)
theorem l_Txt_0 : u_lay R_Txt F_Txt 0 ∈ gTB := gTB_t (gIn1 (List.mem_of_getElem? (i := 175) (by decide +kernel))) (by decide +kernel)
theorem l_Txt_1 : u_lay R_Txt F_Txt 1 ∈ gTB := gTB_t (gIn1 (List.mem_of_getElem? (i := 177) (by decide +kernel))) (by decide +kernel)
theorem l_Txt_2 : u_lay R_Txt F_Txt 2 ∈ gTB := gTB_t (gIn1 (List.mem_of_getElem? (i := 179) (by decide +kernel))) (by decide +kernel)
theorem l_Txt : ∀ w ∈ u_ws R_Txt F_Txt 3, w ∈ gTB := fun w hw => by
  obtain ⟨k, hk, rfl⟩ := List.mem_map.mp hw
  have hk := List.mem_range.mp hk
  match k, hk with
  | 0, _ => exact l_Txt_0
  | 1, _ => exact l_Txt_1
  | 2, _ => exact l_Txt_2
  | k + 3, hk => exact absurd hk (by omega)
theorem l_Pat_0 : u_lay R_Pat F_Pat 0 ∈ gTB := gTB_t (gIn1 (List.mem_of_getElem? (i := 115) (by decide +kernel))) (by decide +kernel)
theorem l_Pat_1 : u_lay R_Pat F_Pat 1 ∈ gTB := gTB_t (gIn1 (List.mem_of_getElem? (i := 117) (by decide +kernel))) (by decide +kernel)
theorem l_Pat_2 : u_lay R_Pat F_Pat 2 ∈ gTB := gTB_t (gIn1 (List.mem_of_getElem? (i := 119) (by decide +kernel))) (by decide +kernel)
theorem l_Pat : ∀ w ∈ u_ws R_Pat F_Pat 3, w ∈ gTB := fun w hw => by
  obtain ⟨k, hk, rfl⟩ := List.mem_map.mp hw
  have hk := List.mem_range.mp hk
  match k, hk with
  | 0, _ => exact l_Pat_0
  | 1, _ => exact l_Pat_1
  | 2, _ => exact l_Pat_2
  | k + 3, hk => exact absurd hk (by omega)
theorem l_Hyp_0 : u_lay R_Hyp F_Hyp 0 ∈ gTB := gTB_t (gIn1 (List.mem_of_getElem? (i := 126) (by decide +kernel))) (by decide +kernel)
theorem l_Hyp_1 : u_lay R_Hyp F_Hyp 1 ∈ gTB := gTB_t (gIn1 (List.mem_of_getElem? (i := 128) (by decide +kernel))) (by decide +kernel)
theorem l_Hyp_2 : u_lay R_Hyp F_Hyp 2 ∈ gTB := gTB_t (gIn1 (List.mem_of_getElem? (i := 130) (by decide +kernel))) (by decide +kernel)
theorem l_Hyp : ∀ w ∈ u_ws R_Hyp F_Hyp 3, w ∈ gTB := fun w hw => by
  obtain ⟨k, hk, rfl⟩ := List.mem_map.mp hw
  have hk := List.mem_range.mp hk
  match k, hk with
  | 0, _ => exact l_Hyp_0
  | 1, _ => exact l_Hyp_1
  | 2, _ => exact l_Hyp_2
  | k + 3, hk => exact absurd hk (by omega)
theorem l_Brk_0 : u_lay R_Brk F_Brk 0 ∈ gTB := gTB_t (gIn1 (List.mem_of_getElem? (i := 199) (by decide +kernel))) (by decide +kernel)
theorem l_Brk_1 : u_lay R_Brk F_Brk 1 ∈ gTB := gTB_t (gIn1 (List.mem_of_getElem? (i := 201) (by decide +kernel))) (by decide +kernel)
theorem l_Brk_2 : u_lay R_Brk F_Brk 2 ∈ gTB := gTB_t (gIn1 (List.mem_of_getElem? (i := 203) (by decide +kernel))) (by decide +kernel)
theorem l_Brk_3 : u_lay R_Brk F_Brk 3 ∈ gTB := gTB_t (gIn1 (List.mem_of_getElem? (i := 205) (by decide +kernel))) (by decide +kernel)
theorem l_Brk : ∀ w ∈ u_ws R_Brk F_Brk 4, w ∈ gTB := fun w hw => by
  obtain ⟨k, hk, rfl⟩ := List.mem_map.mp hw
  have hk := List.mem_range.mp hk
  match k, hk with
  | 0, _ => exact l_Brk_0
  | 1, _ => exact l_Brk_1
  | 2, _ => exact l_Brk_2
  | 3, _ => exact l_Brk_3
  | k + 4, hk => exact absurd hk (by omega)
theorem l_Sum_0 : u_lay R_Sum F_Sum 0 ∈ gTB := gTB_t (gIn1 (List.mem_of_getElem? (i := 224) (by decide +kernel))) (by decide +kernel)
theorem l_Sum_1 : u_lay R_Sum F_Sum 1 ∈ gTB := gTB_t (gIn1 (List.mem_of_getElem? (i := 226) (by decide +kernel))) (by decide +kernel)
theorem l_Sum_2 : u_lay R_Sum F_Sum 2 ∈ gTB := gTB_t (gIn1 (List.mem_of_getElem? (i := 228) (by decide +kernel))) (by decide +kernel)
theorem l_Sum_3 : u_lay R_Sum F_Sum 3 ∈ gTB := gTB_t (gIn1 (List.mem_of_getElem? (i := 230) (by decide +kernel))) (by decide +kernel)
theorem l_Sum_4 : u_lay R_Sum F_Sum 4 ∈ gTB := gTB_t (gIn1 (List.mem_of_getElem? (i := 232) (by decide +kernel))) (by decide +kernel)
theorem l_Sum : ∀ w ∈ u_ws R_Sum F_Sum 5, w ∈ gTB := fun w hw => by
  obtain ⟨k, hk, rfl⟩ := List.mem_map.mp hw
  have hk := List.mem_range.mp hk
  match k, hk with
  | 0, _ => exact l_Sum_0
  | 1, _ => exact l_Sum_1
  | 2, _ => exact l_Sum_2
  | 3, _ => exact l_Sum_3
  | 4, _ => exact l_Sum_4
  | k + 5, hk => exact absurd hk (by omega)
theorem l_Stg_0 : u_lay R_Stg F_Stg 0 ∈ gTB := gTB_t (gIn2 (List.mem_of_getElem? (i := 15) (by decide +kernel))) (by decide +kernel)
theorem l_Stg_1 : u_lay R_Stg F_Stg 1 ∈ gTB := gTB_t (gIn2 (List.mem_of_getElem? (i := 17) (by decide +kernel))) (by decide +kernel)
theorem l_Stg_2 : u_lay R_Stg F_Stg 2 ∈ gTB := gTB_t (gIn2 (List.mem_of_getElem? (i := 19) (by decide +kernel))) (by decide +kernel)
theorem l_Stg_3 : u_lay R_Stg F_Stg 3 ∈ gTB := gTB_t (gIn2 (List.mem_of_getElem? (i := 21) (by decide +kernel))) (by decide +kernel)
theorem l_Stg_4 : u_lay R_Stg F_Stg 4 ∈ gTB := gTB_t (gIn2 (List.mem_of_getElem? (i := 23) (by decide +kernel))) (by decide +kernel)
theorem l_Stg_5 : u_lay R_Stg F_Stg 5 ∈ gTB := gTB_t (gIn2 (List.mem_of_getElem? (i := 25) (by decide +kernel))) (by decide +kernel)
theorem l_Stg_6 : u_lay R_Stg F_Stg 6 ∈ gTB := gTB_t (gIn2 (List.mem_of_getElem? (i := 27) (by decide +kernel))) (by decide +kernel)
theorem l_Stg_7 : u_lay R_Stg F_Stg 7 ∈ gTB := gTB_t (gIn2 (List.mem_of_getElem? (i := 29) (by decide +kernel))) (by decide +kernel)
theorem l_Stg_8 : u_lay R_Stg F_Stg 8 ∈ gTB := gTB_t (gIn2 (List.mem_of_getElem? (i := 31) (by decide +kernel))) (by decide +kernel)
theorem l_Stg : ∀ w ∈ u_ws R_Stg F_Stg 9, w ∈ gTB := fun w hw => by
  obtain ⟨k, hk, rfl⟩ := List.mem_map.mp hw
  have hk := List.mem_range.mp hk
  match k, hk with
  | 0, _ => exact l_Stg_0
  | 1, _ => exact l_Stg_1
  | 2, _ => exact l_Stg_2
  | 3, _ => exact l_Stg_3
  | 4, _ => exact l_Stg_4
  | 5, _ => exact l_Stg_5
  | 6, _ => exact l_Stg_6
  | 7, _ => exact l_Stg_7
  | 8, _ => exact l_Stg_8
  | k + 9, hk => exact absurd hk (by omega)
theorem l_Cho_0 : u_lay R_Cho F_Cho 0 ∈ gTB := gTB_t (gIn1 (List.mem_of_getElem? (i := 142) (by decide +kernel))) (by decide +kernel)
theorem l_Cho_1 : u_lay R_Cho F_Cho 1 ∈ gTB := gTB_t (gIn1 (List.mem_of_getElem? (i := 144) (by decide +kernel))) (by decide +kernel)
theorem l_Cho_2 : u_lay R_Cho F_Cho 2 ∈ gTB := gTB_t (gIn1 (List.mem_of_getElem? (i := 146) (by decide +kernel))) (by decide +kernel)
theorem l_Cho : ∀ w ∈ u_ws R_Cho F_Cho 3, w ∈ gTB := fun w hw => by
  obtain ⟨k, hk, rfl⟩ := List.mem_map.mp hw
  have hk := List.mem_range.mp hk
  match k, hk with
  | 0, _ => exact l_Cho_0
  | 1, _ => exact l_Cho_1
  | 2, _ => exact l_Cho_2
  | k + 3, hk => exact absurd hk (by omega)
theorem l_PS_0 : u_lay R_PS F_PS 0 ∈ gTB := gTB_t (gIn2 (List.mem_of_getElem? (i := 42) (by decide +kernel))) (by decide +kernel)
theorem l_PS_1 : u_lay R_PS F_PS 1 ∈ gTB := gTB_t (gIn2 (List.mem_of_getElem? (i := 44) (by decide +kernel))) (by decide +kernel)
theorem l_PS_2 : u_lay R_PS F_PS 2 ∈ gTB := gTB_t (gIn2 (List.mem_of_getElem? (i := 46) (by decide +kernel))) (by decide +kernel)
theorem l_PS_3 : u_lay R_PS F_PS 3 ∈ gTB := gTB_t (gIn2 (List.mem_of_getElem? (i := 48) (by decide +kernel))) (by decide +kernel)
theorem l_PS_4 : u_lay R_PS F_PS 4 ∈ gTB := gTB_t (gIn2 (List.mem_of_getElem? (i := 50) (by decide +kernel))) (by decide +kernel)
theorem l_PS_5 : u_lay R_PS F_PS 5 ∈ gTB := gTB_t (gIn2 (List.mem_of_getElem? (i := 52) (by decide +kernel))) (by decide +kernel)
theorem l_PS_6 : u_lay R_PS F_PS 6 ∈ gTB := gTB_t (gIn2 (List.mem_of_getElem? (i := 54) (by decide +kernel))) (by decide +kernel)
theorem l_PS_7 : u_lay R_PS F_PS 7 ∈ gTB := gTB_t (gIn2 (List.mem_of_getElem? (i := 56) (by decide +kernel))) (by decide +kernel)
theorem l_PS : ∀ w ∈ u_ws R_PS F_PS 8, w ∈ gTB := fun w hw => by
  obtain ⟨k, hk, rfl⟩ := List.mem_map.mp hw
  have hk := List.mem_range.mp hk
  match k, hk with
  | 0, _ => exact l_PS_0
  | 1, _ => exact l_PS_1
  | 2, _ => exact l_PS_2
  | 3, _ => exact l_PS_3
  | 4, _ => exact l_PS_4
  | 5, _ => exact l_PS_5
  | 6, _ => exact l_PS_6
  | 7, _ => exact l_PS_7
  | k + 8, hk => exact absurd hk (by omega)
theorem l_Mod_0 : u_lay R_Mod F_Mod 0 ∈ gTB := gTB_t (gIn3 (List.mem_of_getElem? (i := 227) (by decide +kernel))) (by decide +kernel)
theorem l_Mod_1 : u_lay R_Mod F_Mod 1 ∈ gTB := gTB_t (gIn3 (List.mem_of_getElem? (i := 229) (by decide +kernel))) (by decide +kernel)
theorem l_Mod_2 : u_lay R_Mod F_Mod 2 ∈ gTB := gTB_t (gIn3 (List.mem_of_getElem? (i := 231) (by decide +kernel))) (by decide +kernel)
theorem l_Mod_3 : u_lay R_Mod F_Mod 3 ∈ gTB := gTB_t (gIn3 (List.mem_of_getElem? (i := 233) (by decide +kernel))) (by decide +kernel)
theorem l_Mod_4 : u_lay R_Mod F_Mod 4 ∈ gTB := gTB_t (gIn3 (List.mem_of_getElem? (i := 235) (by decide +kernel))) (by decide +kernel)
theorem l_Mod_5 : u_lay R_Mod F_Mod 5 ∈ gTB := gTB_t (gIn3 (List.mem_of_getElem? (i := 237) (by decide +kernel))) (by decide +kernel)
theorem l_Mod_6 : u_lay R_Mod F_Mod 6 ∈ gTB := gTB_t (gIn3 (List.mem_of_getElem? (i := 239) (by decide +kernel))) (by decide +kernel)
theorem l_Mod_7 : u_lay R_Mod F_Mod 7 ∈ gTB := gTB_t (gIn4 (List.mem_of_getElem? (i := 1) (by decide +kernel))) (by decide +kernel)
theorem l_Mod_8 : u_lay R_Mod F_Mod 8 ∈ gTB := gTB_t (gIn4 (List.mem_of_getElem? (i := 3) (by decide +kernel))) (by decide +kernel)
theorem l_Mod_9 : u_lay R_Mod F_Mod 9 ∈ gTB := gTB_t (gIn4 (List.mem_of_getElem? (i := 5) (by decide +kernel))) (by decide +kernel)
theorem l_Mod_10 : u_lay R_Mod F_Mod 10 ∈ gTB := gTB_t (gIn4 (List.mem_of_getElem? (i := 7) (by decide +kernel))) (by decide +kernel)
theorem l_Mod_11 : u_lay R_Mod F_Mod 11 ∈ gTB := gTB_t (gIn4 (List.mem_of_getElem? (i := 9) (by decide +kernel))) (by decide +kernel)
theorem l_Mod_12 : u_lay R_Mod F_Mod 12 ∈ gTB := gTB_t (gIn4 (List.mem_of_getElem? (i := 11) (by decide +kernel))) (by decide +kernel)
theorem l_Mod_13 : u_lay R_Mod F_Mod 13 ∈ gTB := gTB_t (gIn4 (List.mem_of_getElem? (i := 13) (by decide +kernel))) (by decide +kernel)
theorem l_Mod_14 : u_lay R_Mod F_Mod 14 ∈ gTB := gTB_t (gIn4 (List.mem_of_getElem? (i := 15) (by decide +kernel))) (by decide +kernel)
theorem l_Mod_15 : u_lay R_Mod F_Mod 15 ∈ gTB := gTB_t (gIn4 (List.mem_of_getElem? (i := 17) (by decide +kernel))) (by decide +kernel)
theorem l_Mod_16 : u_lay R_Mod F_Mod 16 ∈ gTB := gTB_t (gIn4 (List.mem_of_getElem? (i := 19) (by decide +kernel))) (by decide +kernel)
theorem l_Mod_17 : u_lay R_Mod F_Mod 17 ∈ gTB := gTB_t (gIn4 (List.mem_of_getElem? (i := 21) (by decide +kernel))) (by decide +kernel)
theorem l_Mod_18 : u_lay R_Mod F_Mod 18 ∈ gTB := gTB_t (gIn4 (List.mem_of_getElem? (i := 23) (by decide +kernel))) (by decide +kernel)
theorem l_Mod_19 : u_lay R_Mod F_Mod 19 ∈ gTB := gTB_t (gIn4 (List.mem_of_getElem? (i := 25) (by decide +kernel))) (by decide +kernel)
theorem l_Mod_20 : u_lay R_Mod F_Mod 20 ∈ gTB := gTB_t (gIn4 (List.mem_of_getElem? (i := 27) (by decide +kernel))) (by decide +kernel)
theorem l_Mod_21 : u_lay R_Mod F_Mod 21 ∈ gTB := gTB_t (gIn4 (List.mem_of_getElem? (i := 29) (by decide +kernel))) (by decide +kernel)
theorem l_Mod_22 : u_lay R_Mod F_Mod 22 ∈ gTB := gTB_t (gIn4 (List.mem_of_getElem? (i := 31) (by decide +kernel))) (by decide +kernel)
theorem l_Mod_23 : u_lay R_Mod F_Mod 23 ∈ gTB := gTB_t (gIn4 (List.mem_of_getElem? (i := 33) (by decide +kernel))) (by decide +kernel)
theorem l_Mod_24 : u_lay R_Mod F_Mod 24 ∈ gTB := gTB_t (gIn4 (List.mem_of_getElem? (i := 35) (by decide +kernel))) (by decide +kernel)
theorem l_Mod_25 : u_lay R_Mod F_Mod 25 ∈ gTB := gTB_t (gIn4 (List.mem_of_getElem? (i := 37) (by decide +kernel))) (by decide +kernel)
theorem l_Mod_26 : u_lay R_Mod F_Mod 26 ∈ gTB := gTB_t (gIn4 (List.mem_of_getElem? (i := 39) (by decide +kernel))) (by decide +kernel)
theorem l_Mod_27 : u_lay R_Mod F_Mod 27 ∈ gTB := gTB_t (gIn4 (List.mem_of_getElem? (i := 41) (by decide +kernel))) (by decide +kernel)
theorem l_Mod_28 : u_lay R_Mod F_Mod 28 ∈ gTB := gTB_t (gIn4 (List.mem_of_getElem? (i := 43) (by decide +kernel))) (by decide +kernel)
theorem l_Mod_29 : u_lay R_Mod F_Mod 29 ∈ gTB := gTB_t (gIn4 (List.mem_of_getElem? (i := 45) (by decide +kernel))) (by decide +kernel)
theorem l_Mod_30 : u_lay R_Mod F_Mod 30 ∈ gTB := gTB_t (gIn4 (List.mem_of_getElem? (i := 47) (by decide +kernel))) (by decide +kernel)
theorem l_Mod_31 : u_lay R_Mod F_Mod 31 ∈ gTB := gTB_t (gIn4 (List.mem_of_getElem? (i := 49) (by decide +kernel))) (by decide +kernel)
theorem l_Mod_32 : u_lay R_Mod F_Mod 32 ∈ gTB := gTB_t (gIn4 (List.mem_of_getElem? (i := 51) (by decide +kernel))) (by decide +kernel)
theorem l_Mod_33 : u_lay R_Mod F_Mod 33 ∈ gTB := gTB_t (gIn4 (List.mem_of_getElem? (i := 53) (by decide +kernel))) (by decide +kernel)
theorem l_Mod_34 : u_lay R_Mod F_Mod 34 ∈ gTB := gTB_t (gIn4 (List.mem_of_getElem? (i := 55) (by decide +kernel))) (by decide +kernel)
theorem l_Mod_35 : u_lay R_Mod F_Mod 35 ∈ gTB := gTB_t (gIn4 (List.mem_of_getElem? (i := 57) (by decide +kernel))) (by decide +kernel)
theorem l_Mod_36 : u_lay R_Mod F_Mod 36 ∈ gTB := gTB_t (gIn4 (List.mem_of_getElem? (i := 59) (by decide +kernel))) (by decide +kernel)
theorem l_Mod_37 : u_lay R_Mod F_Mod 37 ∈ gTB := gTB_t (gIn4 (List.mem_of_getElem? (i := 61) (by decide +kernel))) (by decide +kernel)
theorem l_Mod_38 : u_lay R_Mod F_Mod 38 ∈ gTB := gTB_t (gIn4 (List.mem_of_getElem? (i := 63) (by decide +kernel))) (by decide +kernel)
theorem l_Mod_39 : u_lay R_Mod F_Mod 39 ∈ gTB := gTB_t (gIn4 (List.mem_of_getElem? (i := 65) (by decide +kernel))) (by decide +kernel)
theorem l_Mod_40 : u_lay R_Mod F_Mod 40 ∈ gTB := gTB_t (gIn4 (List.mem_of_getElem? (i := 67) (by decide +kernel))) (by decide +kernel)
theorem l_Mod_41 : u_lay R_Mod F_Mod 41 ∈ gTB := gTB_t (gIn4 (List.mem_of_getElem? (i := 69) (by decide +kernel))) (by decide +kernel)
theorem l_Mod_42 : u_lay R_Mod F_Mod 42 ∈ gTB := gTB_t (gIn4 (List.mem_of_getElem? (i := 71) (by decide +kernel))) (by decide +kernel)
theorem l_Mod_43 : u_lay R_Mod F_Mod 43 ∈ gTB := gTB_t (gIn4 (List.mem_of_getElem? (i := 73) (by decide +kernel))) (by decide +kernel)
theorem l_Mod_44 : u_lay R_Mod F_Mod 44 ∈ gTB := gTB_t (gIn4 (List.mem_of_getElem? (i := 75) (by decide +kernel))) (by decide +kernel)
theorem l_Mod_45 : u_lay R_Mod F_Mod 45 ∈ gTB := gTB_t (gIn4 (List.mem_of_getElem? (i := 77) (by decide +kernel))) (by decide +kernel)
theorem l_Mod_46 : u_lay R_Mod F_Mod 46 ∈ gTB := gTB_t (gIn4 (List.mem_of_getElem? (i := 79) (by decide +kernel))) (by decide +kernel)
theorem l_Mod_47 : u_lay R_Mod F_Mod 47 ∈ gTB := gTB_t (gIn4 (List.mem_of_getElem? (i := 81) (by decide +kernel))) (by decide +kernel)
theorem l_Mod_48 : u_lay R_Mod F_Mod 48 ∈ gTB := gTB_t (gIn4 (List.mem_of_getElem? (i := 83) (by decide +kernel))) (by decide +kernel)
theorem l_Mod_49 : u_lay R_Mod F_Mod 49 ∈ gTB := gTB_t (gIn4 (List.mem_of_getElem? (i := 85) (by decide +kernel))) (by decide +kernel)
theorem l_Mod_50 : u_lay R_Mod F_Mod 50 ∈ gTB := gTB_t (gIn4 (List.mem_of_getElem? (i := 87) (by decide +kernel))) (by decide +kernel)
theorem l_Mod_51 : u_lay R_Mod F_Mod 51 ∈ gTB := gTB_t (gIn4 (List.mem_of_getElem? (i := 89) (by decide +kernel))) (by decide +kernel)
theorem l_Mod : ∀ w ∈ u_ws R_Mod F_Mod 52, w ∈ gTB := fun w hw => by
  obtain ⟨k, hk, rfl⟩ := List.mem_map.mp hw
  have hk := List.mem_range.mp hk
  match k, hk with
  | 0, _ => exact l_Mod_0
  | 1, _ => exact l_Mod_1
  | 2, _ => exact l_Mod_2
  | 3, _ => exact l_Mod_3
  | 4, _ => exact l_Mod_4
  | 5, _ => exact l_Mod_5
  | 6, _ => exact l_Mod_6
  | 7, _ => exact l_Mod_7
  | 8, _ => exact l_Mod_8
  | 9, _ => exact l_Mod_9
  | 10, _ => exact l_Mod_10
  | 11, _ => exact l_Mod_11
  | 12, _ => exact l_Mod_12
  | 13, _ => exact l_Mod_13
  | 14, _ => exact l_Mod_14
  | 15, _ => exact l_Mod_15
  | 16, _ => exact l_Mod_16
  | 17, _ => exact l_Mod_17
  | 18, _ => exact l_Mod_18
  | 19, _ => exact l_Mod_19
  | 20, _ => exact l_Mod_20
  | 21, _ => exact l_Mod_21
  | 22, _ => exact l_Mod_22
  | 23, _ => exact l_Mod_23
  | 24, _ => exact l_Mod_24
  | 25, _ => exact l_Mod_25
  | 26, _ => exact l_Mod_26
  | 27, _ => exact l_Mod_27
  | 28, _ => exact l_Mod_28
  | 29, _ => exact l_Mod_29
  | 30, _ => exact l_Mod_30
  | 31, _ => exact l_Mod_31
  | 32, _ => exact l_Mod_32
  | 33, _ => exact l_Mod_33
  | 34, _ => exact l_Mod_34
  | 35, _ => exact l_Mod_35
  | 36, _ => exact l_Mod_36
  | 37, _ => exact l_Mod_37
  | 38, _ => exact l_Mod_38
  | 39, _ => exact l_Mod_39
  | 40, _ => exact l_Mod_40
  | 41, _ => exact l_Mod_41
  | 42, _ => exact l_Mod_42
  | 43, _ => exact l_Mod_43
  | 44, _ => exact l_Mod_44
  | 45, _ => exact l_Mod_45
  | 46, _ => exact l_Mod_46
  | 47, _ => exact l_Mod_47
  | 48, _ => exact l_Mod_48
  | 49, _ => exact l_Mod_49
  | 50, _ => exact l_Mod_50
  | 51, _ => exact l_Mod_51
  | k + 52, hk => exact absurd hk (by omega)
