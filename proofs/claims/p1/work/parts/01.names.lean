-- ===== PART A: goes FIRST, ahead of the names: the tables' words, and 'selects' of the private methods out of them =====
/-- a private method of a class that the tables say can be made, by its rows of tables_1 -/
def lw_okq (q : MethodName × Nat) : Prop := (q.1.cls ≠ "java/lang/invoke/MethodHandle" ∧ q.1.cls ≠ "java/lang/invoke/VarHandle") ∧ Cond.instantiable q.1.cls q.2 ∈ tables_1 ∧ Cond.privateMethod q.1 ∈ tables_1 ∧ Cond.instanceMethod q.1 ∈ tables_1
theorem lw_p0 : lw_okq (⟨"AssemblyChair", "ruleOfMeeting", "(II)I"⟩, 5) := ⟨⟨by decide +kernel, by decide +kernel⟩, List.mem_of_getElem? (i := 18) (by decide +kernel), List.mem_of_getElem? (i := 431) (by decide +kernel), List.mem_of_getElem? (i := 432) (by decide +kernel)⟩
theorem lw_p1 : lw_okq (⟨"AssemblyChair", "lacksQuorum", "(I)Z"⟩, 5) := ⟨⟨by decide +kernel, by decide +kernel⟩, List.mem_of_getElem? (i := 18) (by decide +kernel), List.mem_of_getElem? (i := 435) (by decide +kernel), List.mem_of_getElem? (i := 436) (by decide +kernel)⟩
theorem lw_p2 : lw_okq (⟨"AssemblyChair", "ruleOfFreeFloor", "()I"⟩, 5) := ⟨⟨by decide +kernel, by decide +kernel⟩, List.mem_of_getElem? (i := 18) (by decide +kernel), List.mem_of_getElem? (i := 454) (by decide +kernel), List.mem_of_getElem? (i := 455) (by decide +kernel)⟩
theorem lw_p3 : lw_okq (⟨"AssemblyChair", "ruleOfPrecedence", "(I)I"⟩, 5) := ⟨⟨by decide +kernel, by decide +kernel⟩, List.mem_of_getElem? (i := 18) (by decide +kernel), List.mem_of_getElem? (i := 458) (by decide +kernel), List.mem_of_getElem? (i := 459) (by decide +kernel)⟩
theorem lw_p4 : lw_okq (⟨"AssemblyChair", "ruleOfDebate", "(I)I"⟩, 5) := ⟨⟨by decide +kernel, by decide +kernel⟩, List.mem_of_getElem? (i := 18) (by decide +kernel), List.mem_of_getElem? (i := 474) (by decide +kernel), List.mem_of_getElem? (i := 475) (by decide +kernel)⟩
theorem lw_p5 : lw_okq (⟨"AssemblyChair", "ruleOfNumbers", "(IIIII)I"⟩, 5) := ⟨⟨by decide +kernel, by decide +kernel⟩, List.mem_of_getElem? (i := 18) (by decide +kernel), List.mem_of_getElem? (i := 482) (by decide +kernel), List.mem_of_getElem? (i := 483) (by decide +kernel)⟩
theorem lw_p6 : lw_okq (⟨"AssemblyChair", "isPossibleAmendment", "(III)Z"⟩, 5) := ⟨⟨by decide +kernel, by decide +kernel⟩, List.mem_of_getElem? (i := 18) (by decide +kernel), List.mem_of_getElem? (i := 493) (by decide +kernel), List.mem_of_getElem? (i := 494) (by decide +kernel)⟩
theorem lw_p7 : lw_okq (⟨"AssemblyChair$Meeting", "bringUpBuffer", "(I)V"⟩, 13) := ⟨⟨by decide +kernel, by decide +kernel⟩, List.mem_of_getElem? (i := 26) (by decide +kernel), List.mem_of_getElem? (i := 529) (by decide +kernel), List.mem_of_getElem? (i := 530) (by decide +kernel)⟩
theorem lw_p8 : lw_okq (⟨"AssemblyChair$Meeting", "comeUp", "(ILAssemblyChair$Question;)V"⟩, 13) := ⟨⟨by decide +kernel, by decide +kernel⟩, List.mem_of_getElem? (i := 26) (by decide +kernel), List.mem_of_getElem? (i := 549) (by decide +kernel), List.mem_of_getElem? (i := 550) (by decide +kernel)⟩
theorem lw_p9 : lw_okq (⟨"AssemblyChair$Meeting", "carryOut", "(LAssemblyChair$Motion;)V"⟩, 13) := ⟨⟨by decide +kernel, by decide +kernel⟩, List.mem_of_getElem? (i := 26) (by decide +kernel), List.mem_of_getElem? (i := 641) (by decide +kernel), List.mem_of_getElem? (i := 642) (by decide +kernel)⟩
theorem lw_p10 : lw_okq (⟨"AssemblyChair$Meeting", "finish", "(II)V"⟩, 13) := ⟨⟨by decide +kernel, by decide +kernel⟩, List.mem_of_getElem? (i := 26) (by decide +kernel), List.mem_of_getElem? (i := 649) (by decide +kernel), List.mem_of_getElem? (i := 650) (by decide +kernel)⟩
theorem lw_p11 : lw_okq (⟨"AssemblyChair$Meeting", "carryOutAmendment", "(LAssemblyChair$Motion;)V"⟩, 13) := ⟨⟨by decide +kernel, by decide +kernel⟩, List.mem_of_getElem? (i := 26) (by decide +kernel), List.mem_of_getElem? (i := 653) (by decide +kernel), List.mem_of_getElem? (i := 654) (by decide +kernel)⟩
theorem lw_p12 : lw_okq (⟨"AssemblyChair$Text", "insert", "(II)V"⟩, 2) := ⟨⟨by decide +kernel, by decide +kernel⟩, List.mem_of_getElem? (i := 72) (by decide +kernel), List.mem_of_getElem? (i := 669) (by decide +kernel), List.mem_of_getElem? (i := 670) (by decide +kernel)⟩
theorem lw_p13 : lw_okq (⟨"AssemblyChair$Text", "strike", "(I)V"⟩, 2) := ⟨⟨by decide +kernel, by decide +kernel⟩, List.mem_of_getElem? (i := 72) (by decide +kernel), List.mem_of_getElem? (i := 673) (by decide +kernel), List.mem_of_getElem? (i := 674) (by decide +kernel)⟩
theorem lw_p14 : lw_okq (⟨"AssemblyChair$Meeting", "putAside", "(II)V"⟩, 13) := ⟨⟨by decide +kernel, by decide +kernel⟩, List.mem_of_getElem? (i := 26) (by decide +kernel), List.mem_of_getElem? (i := 677) (by decide +kernel), List.mem_of_getElem? (i := 678) (by decide +kernel)⟩
theorem lw_p15 : lw_okq (⟨"AssemblyChair$Meeting", "resumeFromTable", "()V"⟩, 13) := ⟨⟨by decide +kernel, by decide +kernel⟩, List.mem_of_getElem? (i := 26) (by decide +kernel), List.mem_of_getElem? (i := 693) (by decide +kernel), List.mem_of_getElem? (i := 694) (by decide +kernel)⟩
def lw_privs_1 : List (MethodName × Nat) := [(⟨"AssemblyChair", "ruleOfMeeting", "(II)I"⟩, 5), (⟨"AssemblyChair", "lacksQuorum", "(I)Z"⟩, 5), (⟨"AssemblyChair", "ruleOfFreeFloor", "()I"⟩, 5), (⟨"AssemblyChair", "ruleOfPrecedence", "(I)I"⟩, 5), (⟨"AssemblyChair", "ruleOfDebate", "(I)I"⟩, 5), (⟨"AssemblyChair", "ruleOfNumbers", "(IIIII)I"⟩, 5), (⟨"AssemblyChair", "isPossibleAmendment", "(III)Z"⟩, 5), (⟨"AssemblyChair$Meeting", "bringUpBuffer", "(I)V"⟩, 13), (⟨"AssemblyChair$Meeting", "comeUp", "(ILAssemblyChair$Question;)V"⟩, 13), (⟨"AssemblyChair$Meeting", "carryOut", "(LAssemblyChair$Motion;)V"⟩, 13), (⟨"AssemblyChair$Meeting", "finish", "(II)V"⟩, 13), (⟨"AssemblyChair$Meeting", "carryOutAmendment", "(LAssemblyChair$Motion;)V"⟩, 13), (⟨"AssemblyChair$Text", "insert", "(II)V"⟩, 2), (⟨"AssemblyChair$Text", "strike", "(I)V"⟩, 2), (⟨"AssemblyChair$Meeting", "putAside", "(II)V"⟩, 13), (⟨"AssemblyChair$Meeting", "resumeFromTable", "()V"⟩, 13)]
theorem lw_r1 : ∀ q ∈ lw_privs_1, lw_okq q := List.forall_mem_cons.mpr ⟨lw_p0, List.forall_mem_cons.mpr ⟨lw_p1, List.forall_mem_cons.mpr ⟨lw_p2, List.forall_mem_cons.mpr ⟨lw_p3, List.forall_mem_cons.mpr ⟨lw_p4, List.forall_mem_cons.mpr ⟨lw_p5, List.forall_mem_cons.mpr ⟨lw_p6, List.forall_mem_cons.mpr ⟨lw_p7, List.forall_mem_cons.mpr ⟨lw_p8, List.forall_mem_cons.mpr ⟨lw_p9, List.forall_mem_cons.mpr ⟨lw_p10, List.forall_mem_cons.mpr ⟨lw_p11, List.forall_mem_cons.mpr ⟨lw_p12, List.forall_mem_cons.mpr ⟨lw_p13, List.forall_mem_cons.mpr ⟨lw_p14, List.forall_mem_cons.mpr ⟨lw_p15, fun _ h => absurd h List.not_mem_nil⟩⟩⟩⟩⟩⟩⟩⟩⟩⟩⟩⟩⟩⟩⟩⟩
theorem lw_p16 : lw_okq (⟨"AssemblyChair$Meeting", "resume", "(LAssemblyChair$Motion;)V"⟩, 13) := ⟨⟨by decide +kernel, by decide +kernel⟩, List.mem_of_getElem? (i := 26) (by decide +kernel), List.mem_of_getElem? (i := 705) (by decide +kernel), List.mem_of_getElem? (i := 706) (by decide +kernel)⟩
theorem lw_p17 : lw_okq (⟨"AssemblyChair$Meeting", "reconsider", "()V"⟩, 13) := ⟨⟨by decide +kernel, by decide +kernel⟩, List.mem_of_getElem? (i := 26) (by decide +kernel), List.mem_of_getElem? (i := 709) (by decide +kernel), List.mem_of_getElem? (i := 710) (by decide +kernel)⟩
theorem lw_p18 : lw_okq (⟨"AssemblyChair", "maySpeak", "(I)Z"⟩, 5) := ⟨⟨by decide +kernel, by decide +kernel⟩, List.mem_of_getElem? (i := 18) (by decide +kernel), List.mem_of_getElem? (i := 729) (by decide +kernel), List.mem_of_getElem? (i := 730) (by decide +kernel)⟩
theorem lw_p19 : lw_okq (⟨"AssemblyChair", "numberOfState", "(ILAssemblyChair$Question;)I"⟩, 5) := ⟨⟨by decide +kernel, by decide +kernel⟩, List.mem_of_getElem? (i := 18) (by decide +kernel), List.mem_of_getElem? (i := 809) (by decide +kernel), List.mem_of_getElem? (i := 810) (by decide +kernel)⟩
theorem lw_p20 : lw_okq (⟨"AssemblyChair", "fill", "(LAssemblyChair$Row;IZ)V"⟩, 5) := ⟨⟨by decide +kernel, by decide +kernel⟩, List.mem_of_getElem? (i := 18) (by decide +kernel), List.mem_of_getElem? (i := 881) (by decide +kernel), List.mem_of_getElem? (i := 882) (by decide +kernel)⟩
theorem lw_p21 : lw_okq (⟨"AssemblyChairModel", "isDelegate", "(I)Z"⟩, 63) := ⟨⟨by decide +kernel, by decide +kernel⟩, List.mem_of_getElem? (i := 951) (by decide +kernel), List.mem_of_getElem? (i := 1158) (by decide +kernel), List.mem_of_getElem? (i := 1159) (by decide +kernel)⟩
theorem lw_p22 : lw_okq (⟨"AssemblyChairModel", "notMotion", "(IIIII)I"⟩, 63) := ⟨⟨by decide +kernel, by decide +kernel⟩, List.mem_of_getElem? (i := 951) (by decide +kernel), List.mem_of_getElem? (i := 1174) (by decide +kernel), List.mem_of_getElem? (i := 1175) (by decide +kernel)⟩
theorem lw_p23 : lw_okq (⟨"AssemblyChairModel", "ruleFor", "(IIIII)I"⟩, 63) := ⟨⟨by decide +kernel, by decide +kernel⟩, List.mem_of_getElem? (i := 951) (by decide +kernel), List.mem_of_getElem? (i := 1181) (by decide +kernel), List.mem_of_getElem? (i := 1182) (by decide +kernel)⟩
theorem lw_p24 : lw_okq (⟨"AssemblyChairModel", "hasQuorum", "()Z"⟩, 63) := ⟨⟨by decide +kernel, by decide +kernel⟩, List.mem_of_getElem? (i := 951) (by decide +kernel), List.mem_of_getElem? (i := 1185) (by decide +kernel), List.mem_of_getElem? (i := 1186) (by decide +kernel)⟩
theorem lw_p25 : lw_okq (⟨"AssemblyChairModel", "presentWeight", "()I"⟩, 63) := ⟨⟨by decide +kernel, by decide +kernel⟩, List.mem_of_getElem? (i := 951) (by decide +kernel), List.mem_of_getElem? (i := 1189) (by decide +kernel), List.mem_of_getElem? (i := 1190) (by decide +kernel)⟩
theorem lw_p26 : lw_okq (⟨"AssemblyChairModel", "weightOf", "(IZ)I"⟩, 63) := ⟨⟨by decide +kernel, by decide +kernel⟩, List.mem_of_getElem? (i := 951) (by decide +kernel), List.mem_of_getElem? (i := 1193) (by decide +kernel), List.mem_of_getElem? (i := 1194) (by decide +kernel)⟩
theorem lw_p27 : lw_okq (⟨"AssemblyChairModel", "isSecondary", "(I)Z"⟩, 63) := ⟨⟨by decide +kernel, by decide +kernel⟩, List.mem_of_getElem? (i := 951) (by decide +kernel), List.mem_of_getElem? (i := 1200) (by decide +kernel), List.mem_of_getElem? (i := 1201) (by decide +kernel)⟩
theorem lw_p28 : lw_okq (⟨"AssemblyChairModel", "of", "(II)I"⟩, 63) := ⟨⟨by decide +kernel, by decide +kernel⟩, List.mem_of_getElem? (i := 951) (by decide +kernel), List.mem_of_getElem? (i := 1204) (by decide +kernel), List.mem_of_getElem? (i := 1205) (by decide +kernel)⟩
theorem lw_p29 : lw_okq (⟨"AssemblyChairModel", "top", "()I"⟩, 63) := ⟨⟨by decide +kernel, by decide +kernel⟩, List.mem_of_getElem? (i := 951) (by decide +kernel), List.mem_of_getElem? (i := 1208) (by decide +kernel), List.mem_of_getElem? (i := 1209) (by decide +kernel)⟩
theorem lw_p30 : lw_okq (⟨"AssemblyChairModel", "areNumbers", "(IIIII)Z"⟩, 63) := ⟨⟨by decide +kernel, by decide +kernel⟩, List.mem_of_getElem? (i := 951) (by decide +kernel), List.mem_of_getElem? (i := 1212) (by decide +kernel), List.mem_of_getElem? (i := 1213) (by decide +kernel)⟩
theorem lw_p31 : lw_okq (⟨"AssemblyChairModel", "isAmendment", "(III)Z"⟩, 63) := ⟨⟨by decide +kernel, by decide +kernel⟩, List.mem_of_getElem? (i := 951) (by decide +kernel), List.mem_of_getElem? (i := 1216) (by decide +kernel), List.mem_of_getElem? (i := 1217) (by decide +kernel)⟩
def lw_privs_2 : List (MethodName × Nat) := [(⟨"AssemblyChair$Meeting", "resume", "(LAssemblyChair$Motion;)V"⟩, 13), (⟨"AssemblyChair$Meeting", "reconsider", "()V"⟩, 13), (⟨"AssemblyChair", "maySpeak", "(I)Z"⟩, 5), (⟨"AssemblyChair", "numberOfState", "(ILAssemblyChair$Question;)I"⟩, 5), (⟨"AssemblyChair", "fill", "(LAssemblyChair$Row;IZ)V"⟩, 5), (⟨"AssemblyChairModel", "isDelegate", "(I)Z"⟩, 63), (⟨"AssemblyChairModel", "notMotion", "(IIIII)I"⟩, 63), (⟨"AssemblyChairModel", "ruleFor", "(IIIII)I"⟩, 63), (⟨"AssemblyChairModel", "hasQuorum", "()Z"⟩, 63), (⟨"AssemblyChairModel", "presentWeight", "()I"⟩, 63), (⟨"AssemblyChairModel", "weightOf", "(IZ)I"⟩, 63), (⟨"AssemblyChairModel", "isSecondary", "(I)Z"⟩, 63), (⟨"AssemblyChairModel", "of", "(II)I"⟩, 63), (⟨"AssemblyChairModel", "top", "()I"⟩, 63), (⟨"AssemblyChairModel", "areNumbers", "(IIIII)Z"⟩, 63), (⟨"AssemblyChairModel", "isAmendment", "(III)Z"⟩, 63)]
theorem lw_r2 : ∀ q ∈ lw_privs_2, lw_okq q := List.forall_mem_cons.mpr ⟨lw_p16, List.forall_mem_cons.mpr ⟨lw_p17, List.forall_mem_cons.mpr ⟨lw_p18, List.forall_mem_cons.mpr ⟨lw_p19, List.forall_mem_cons.mpr ⟨lw_p20, List.forall_mem_cons.mpr ⟨lw_p21, List.forall_mem_cons.mpr ⟨lw_p22, List.forall_mem_cons.mpr ⟨lw_p23, List.forall_mem_cons.mpr ⟨lw_p24, List.forall_mem_cons.mpr ⟨lw_p25, List.forall_mem_cons.mpr ⟨lw_p26, List.forall_mem_cons.mpr ⟨lw_p27, List.forall_mem_cons.mpr ⟨lw_p28, List.forall_mem_cons.mpr ⟨lw_p29, List.forall_mem_cons.mpr ⟨lw_p30, List.forall_mem_cons.mpr ⟨lw_p31, fun _ h => absurd h List.not_mem_nil⟩⟩⟩⟩⟩⟩⟩⟩⟩⟩⟩⟩⟩⟩⟩⟩
theorem lw_p32 : lw_okq (⟨"AssemblyChairModel", "canAmend", "(III)Z"⟩, 63) := ⟨⟨by decide +kernel, by decide +kernel⟩, List.mem_of_getElem? (i := 951) (by decide +kernel), List.mem_of_getElem? (i := 1220) (by decide +kernel), List.mem_of_getElem? (i := 1221) (by decide +kernel)⟩
theorem lw_p33 : lw_okq (⟨"AssemblyChairModel", "hasRoom", "(II)Z"⟩, 63) := ⟨⟨by decide +kernel, by decide +kernel⟩, List.mem_of_getElem? (i := 951) (by decide +kernel), List.mem_of_getElem? (i := 1224) (by decide +kernel), List.mem_of_getElem? (i := 1225) (by decide +kernel)⟩
theorem lw_p34 : lw_okq (⟨"AssemblyChairModel", "writes", "(III)V"⟩, 63) := ⟨⟨by decide +kernel, by decide +kernel⟩, List.mem_of_getElem? (i := 951) (by decide +kernel), List.mem_of_getElem? (i := 1232) (by decide +kernel), List.mem_of_getElem? (i := 1233) (by decide +kernel)⟩
theorem lw_p35 : lw_okq (⟨"AssemblyChairModel", "begins", "([IIIII)I"⟩, 63) := ⟨⟨by decide +kernel, by decide +kernel⟩, List.mem_of_getElem? (i := 951) (by decide +kernel), List.mem_of_getElem? (i := 1236) (by decide +kernel), List.mem_of_getElem? (i := 1237) (by decide +kernel)⟩
theorem lw_p36 : lw_okq (⟨"AssemblyChairModel", "comesUp", "(I)V"⟩, 63) := ⟨⟨by decide +kernel, by decide +kernel⟩, List.mem_of_getElem? (i := 951) (by decide +kernel), List.mem_of_getElem? (i := 1240) (by decide +kernel), List.mem_of_getElem? (i := 1241) (by decide +kernel)⟩
theorem lw_p37 : lw_okq (⟨"AssemblyChairModel", "pushes", "(IIIII)V"⟩, 63) := ⟨⟨by decide +kernel, by decide +kernel⟩, List.mem_of_getElem? (i := 951) (by decide +kernel), List.mem_of_getElem? (i := 1244) (by decide +kernel), List.mem_of_getElem? (i := 1245) (by decide +kernel)⟩
theorem lw_p38 : lw_okq (⟨"AssemblyChairModel", "opensDebate", "()V"⟩, 63) := ⟨⟨by decide +kernel, by decide +kernel⟩, List.mem_of_getElem? (i := 951) (by decide +kernel), List.mem_of_getElem? (i := 1248) (by decide +kernel), List.mem_of_getElem? (i := 1249) (by decide +kernel)⟩
theorem lw_p39 : lw_okq (⟨"AssemblyChairModel", "keepsVote", "(IIZI)V"⟩, 63) := ⟨⟨by decide +kernel, by decide +kernel⟩, List.mem_of_getElem? (i := 951) (by decide +kernel), List.mem_of_getElem? (i := 1259) (by decide +kernel), List.mem_of_getElem? (i := 1260) (by decide +kernel)⟩
theorem lw_p40 : lw_okq (⟨"AssemblyChairModel", "presentOf", "(I)I"⟩, 63) := ⟨⟨by decide +kernel, by decide +kernel⟩, List.mem_of_getElem? (i := 951) (by decide +kernel), List.mem_of_getElem? (i := 1263) (by decide +kernel), List.mem_of_getElem? (i := 1264) (by decide +kernel)⟩
theorem lw_p41 : lw_okq (⟨"AssemblyChairModel", "takesEffect", "(IIIIZ)V"⟩, 63) := ⟨⟨by decide +kernel, by decide +kernel⟩, List.mem_of_getElem? (i := 951) (by decide +kernel), List.mem_of_getElem? (i := 1267) (by decide +kernel), List.mem_of_getElem? (i := 1268) (by decide +kernel)⟩
theorem lw_p42 : lw_okq (⟨"AssemblyChairModel", "resolves", "(I)V"⟩, 63) := ⟨⟨by decide +kernel, by decide +kernel⟩, List.mem_of_getElem? (i := 951) (by decide +kernel), List.mem_of_getElem? (i := 1271) (by decide +kernel), List.mem_of_getElem? (i := 1272) (by decide +kernel)⟩
theorem lw_p43 : lw_okq (⟨"AssemblyChairModel", "ends", "(II)V"⟩, 63) := ⟨⟨by decide +kernel, by decide +kernel⟩, List.mem_of_getElem? (i := 951) (by decide +kernel), List.mem_of_getElem? (i := 1275) (by decide +kernel), List.mem_of_getElem? (i := 1276) (by decide +kernel)⟩
theorem lw_p44 : lw_okq (⟨"AssemblyChairModel", "amends", "(IIIZ)V"⟩, 63) := ⟨⟨by decide +kernel, by decide +kernel⟩, List.mem_of_getElem? (i := 951) (by decide +kernel), List.mem_of_getElem? (i := 1279) (by decide +kernel), List.mem_of_getElem? (i := 1280) (by decide +kernel)⟩
theorem lw_p45 : lw_okq (⟨"AssemblyChairModel", "tellsChange", "(IIII)V"⟩, 63) := ⟨⟨by decide +kernel, by decide +kernel⟩, List.mem_of_getElem? (i := 951) (by decide +kernel), List.mem_of_getElem? (i := 1286) (by decide +kernel), List.mem_of_getElem? (i := 1287) (by decide +kernel)⟩
theorem lw_p46 : lw_okq (⟨"AssemblyChairModel", "putsAway", "(II)V"⟩, 63) := ⟨⟨by decide +kernel, by decide +kernel⟩, List.mem_of_getElem? (i := 951) (by decide +kernel), List.mem_of_getElem? (i := 1290) (by decide +kernel), List.mem_of_getElem? (i := 1291) (by decide +kernel)⟩
theorem lw_p47 : lw_okq (⟨"AssemblyChairModel", "waitsAlone", "(I)V"⟩, 63) := ⟨⟨by decide +kernel, by decide +kernel⟩, List.mem_of_getElem? (i := 951) (by decide +kernel), List.mem_of_getElem? (i := 1294) (by decide +kernel), List.mem_of_getElem? (i := 1295) (by decide +kernel)⟩
def lw_privs_3 : List (MethodName × Nat) := [(⟨"AssemblyChairModel", "canAmend", "(III)Z"⟩, 63), (⟨"AssemblyChairModel", "hasRoom", "(II)Z"⟩, 63), (⟨"AssemblyChairModel", "writes", "(III)V"⟩, 63), (⟨"AssemblyChairModel", "begins", "([IIIII)I"⟩, 63), (⟨"AssemblyChairModel", "comesUp", "(I)V"⟩, 63), (⟨"AssemblyChairModel", "pushes", "(IIIII)V"⟩, 63), (⟨"AssemblyChairModel", "opensDebate", "()V"⟩, 63), (⟨"AssemblyChairModel", "keepsVote", "(IIZI)V"⟩, 63), (⟨"AssemblyChairModel", "presentOf", "(I)I"⟩, 63), (⟨"AssemblyChairModel", "takesEffect", "(IIIIZ)V"⟩, 63), (⟨"AssemblyChairModel", "resolves", "(I)V"⟩, 63), (⟨"AssemblyChairModel", "ends", "(II)V"⟩, 63), (⟨"AssemblyChairModel", "amends", "(IIIZ)V"⟩, 63), (⟨"AssemblyChairModel", "tellsChange", "(IIII)V"⟩, 63), (⟨"AssemblyChairModel", "putsAway", "(II)V"⟩, 63), (⟨"AssemblyChairModel", "waitsAlone", "(I)V"⟩, 63)]
theorem lw_r3 : ∀ q ∈ lw_privs_3, lw_okq q := List.forall_mem_cons.mpr ⟨lw_p32, List.forall_mem_cons.mpr ⟨lw_p33, List.forall_mem_cons.mpr ⟨lw_p34, List.forall_mem_cons.mpr ⟨lw_p35, List.forall_mem_cons.mpr ⟨lw_p36, List.forall_mem_cons.mpr ⟨lw_p37, List.forall_mem_cons.mpr ⟨lw_p38, List.forall_mem_cons.mpr ⟨lw_p39, List.forall_mem_cons.mpr ⟨lw_p40, List.forall_mem_cons.mpr ⟨lw_p41, List.forall_mem_cons.mpr ⟨lw_p42, List.forall_mem_cons.mpr ⟨lw_p43, List.forall_mem_cons.mpr ⟨lw_p44, List.forall_mem_cons.mpr ⟨lw_p45, List.forall_mem_cons.mpr ⟨lw_p46, List.forall_mem_cons.mpr ⟨lw_p47, fun _ h => absurd h List.not_mem_nil⟩⟩⟩⟩⟩⟩⟩⟩⟩⟩⟩⟩⟩⟩⟩⟩
theorem lw_p48 : lw_okq (⟨"AssemblyChairModel", "comesBack", "(I)V"⟩, 63) := ⟨⟨by decide +kernel, by decide +kernel⟩, List.mem_of_getElem? (i := 951) (by decide +kernel), List.mem_of_getElem? (i := 1298) (by decide +kernel), List.mem_of_getElem? (i := 1299) (by decide +kernel)⟩
theorem lw_p49 : lw_okq (⟨"AssemblyChairModel", "unresolves", "(I)V"⟩, 63) := ⟨⟨by decide +kernel, by decide +kernel⟩, List.mem_of_getElem? (i := 951) (by decide +kernel), List.mem_of_getElem? (i := 1302) (by decide +kernel), List.mem_of_getElem? (i := 1303) (by decide +kernel)⟩
theorem lw_p50 : lw_okq (⟨"AssemblyChairModel", "nextWaiting", "()I"⟩, 63) := ⟨⟨by decide +kernel, by decide +kernel⟩, List.mem_of_getElem? (i := 951) (by decide +kernel), List.mem_of_getElem? (i := 1322) (by decide +kernel), List.mem_of_getElem? (i := 1323) (by decide +kernel)⟩
theorem lw_p51 : lw_okq (⟨"AssemblyChairModel", "nextLone", "()I"⟩, 63) := ⟨⟨by decide +kernel, by decide +kernel⟩, List.mem_of_getElem? (i := 951) (by decide +kernel), List.mem_of_getElem? (i := 1326) (by decide +kernel), List.mem_of_getElem? (i := 1327) (by decide +kernel)⟩
theorem lw_p52 : lw_okq (⟨"AssemblyChairModel", "isSooner", "(II)Z"⟩, 63) := ⟨⟨by decide +kernel, by decide +kernel⟩, List.mem_of_getElem? (i := 951) (by decide +kernel), List.mem_of_getElem? (i := 1330) (by decide +kernel), List.mem_of_getElem? (i := 1331) (by decide +kernel)⟩
theorem lw_p53 : lw_okq (⟨"AssemblyChairModel", "loneComesBack", "(I)V"⟩, 63) := ⟨⟨by decide +kernel, by decide +kernel⟩, List.mem_of_getElem? (i := 951) (by decide +kernel), List.mem_of_getElem? (i := 1334) (by decide +kernel), List.mem_of_getElem? (i := 1335) (by decide +kernel)⟩
theorem lw_p54 : lw_okq (⟨"AssemblyChairModel", "isQuestion", "(I)Z"⟩, 63) := ⟨⟨by decide +kernel, by decide +kernel⟩, List.mem_of_getElem? (i := 951) (by decide +kernel), List.mem_of_getElem? (i := 1354) (by decide +kernel), List.mem_of_getElem? (i := 1355) (by decide +kernel)⟩
theorem lw_p55 : lw_okq (⟨"AssemblyChairModel", "findDraft", "()I"⟩, 63) := ⟨⟨by decide +kernel, by decide +kernel⟩, List.mem_of_getElem? (i := 951) (by decide +kernel), List.mem_of_getElem? (i := 1366) (by decide +kernel), List.mem_of_getElem? (i := 1367) (by decide +kernel)⟩
theorem lw_p56 : lw_okq (⟨"AssemblyChairModel", "countOfMeeting", "(I)I"⟩, 63) := ⟨⟨by decide +kernel, by decide +kernel⟩, List.mem_of_getElem? (i := 951) (by decide +kernel), List.mem_of_getElem? (i := 1404) (by decide +kernel), List.mem_of_getElem? (i := 1405) (by decide +kernel)⟩
theorem lw_p57 : lw_okq (⟨"AssemblyChairModel", "questionsIn", "(I)I"⟩, 63) := ⟨⟨by decide +kernel, by decide +kernel⟩, List.mem_of_getElem? (i := 951) (by decide +kernel), List.mem_of_getElem? (i := 1408) (by decide +kernel), List.mem_of_getElem? (i := 1409) (by decide +kernel)⟩
theorem lw_p58 : lw_okq (⟨"AssemblyChairModel", "allPending", "()I"⟩, 63) := ⟨⟨by decide +kernel, by decide +kernel⟩, List.mem_of_getElem? (i := 951) (by decide +kernel), List.mem_of_getElem? (i := 1412) (by decide +kernel), List.mem_of_getElem? (i := 1413) (by decide +kernel)⟩
theorem lw_p59 : lw_okq (⟨"AssemblyChairModel", "handsAll", "(Z)V"⟩, 63) := ⟨⟨by decide +kernel, by decide +kernel⟩, List.mem_of_getElem? (i := 951) (by decide +kernel), List.mem_of_getElem? (i := 1440) (by decide +kernel), List.mem_of_getElem? (i := 1441) (by decide +kernel)⟩
theorem lw_p60 : lw_okq (⟨"AssemblyChairModel", "handsRows", "()V"⟩, 63) := ⟨⟨by decide +kernel, by decide +kernel⟩, List.mem_of_getElem? (i := 951) (by decide +kernel), List.mem_of_getElem? (i := 1444) (by decide +kernel), List.mem_of_getElem? (i := 1445) (by decide +kernel)⟩
theorem lw_p61 : lw_okq (⟨"AssemblyChairModel", "hands", "([I)V"⟩, 63) := ⟨⟨by decide +kernel, by decide +kernel⟩, List.mem_of_getElem? (i := 951) (by decide +kernel), List.mem_of_getElem? (i := 1448) (by decide +kernel), List.mem_of_getElem? (i := 1449) (by decide +kernel)⟩
theorem lw_p62 : lw_okq (⟨"AssemblyChairModel", "hand", "(I)I"⟩, 63) := ⟨⟨by decide +kernel, by decide +kernel⟩, List.mem_of_getElem? (i := 951) (by decide +kernel), List.mem_of_getElem? (i := 1452) (by decide +kernel), List.mem_of_getElem? (i := 1453) (by decide +kernel)⟩
theorem lw_p63 : lw_okq (⟨"AssemblyChairModel", "handsLast", "()V"⟩, 63) := ⟨⟨by decide +kernel, by decide +kernel⟩, List.mem_of_getElem? (i := 951) (by decide +kernel), List.mem_of_getElem? (i := 1456) (by decide +kernel), List.mem_of_getElem? (i := 1457) (by decide +kernel)⟩
def lw_privs_4 : List (MethodName × Nat) := [(⟨"AssemblyChairModel", "comesBack", "(I)V"⟩, 63), (⟨"AssemblyChairModel", "unresolves", "(I)V"⟩, 63), (⟨"AssemblyChairModel", "nextWaiting", "()I"⟩, 63), (⟨"AssemblyChairModel", "nextLone", "()I"⟩, 63), (⟨"AssemblyChairModel", "isSooner", "(II)Z"⟩, 63), (⟨"AssemblyChairModel", "loneComesBack", "(I)V"⟩, 63), (⟨"AssemblyChairModel", "isQuestion", "(I)Z"⟩, 63), (⟨"AssemblyChairModel", "findDraft", "()I"⟩, 63), (⟨"AssemblyChairModel", "countOfMeeting", "(I)I"⟩, 63), (⟨"AssemblyChairModel", "questionsIn", "(I)I"⟩, 63), (⟨"AssemblyChairModel", "allPending", "()I"⟩, 63), (⟨"AssemblyChairModel", "handsAll", "(Z)V"⟩, 63), (⟨"AssemblyChairModel", "handsRows", "()V"⟩, 63), (⟨"AssemblyChairModel", "hands", "([I)V"⟩, 63), (⟨"AssemblyChairModel", "hand", "(I)I"⟩, 63), (⟨"AssemblyChairModel", "handsLast", "()V"⟩, 63)]
theorem lw_r4 : ∀ q ∈ lw_privs_4, lw_okq q := List.forall_mem_cons.mpr ⟨lw_p48, List.forall_mem_cons.mpr ⟨lw_p49, List.forall_mem_cons.mpr ⟨lw_p50, List.forall_mem_cons.mpr ⟨lw_p51, List.forall_mem_cons.mpr ⟨lw_p52, List.forall_mem_cons.mpr ⟨lw_p53, List.forall_mem_cons.mpr ⟨lw_p54, List.forall_mem_cons.mpr ⟨lw_p55, List.forall_mem_cons.mpr ⟨lw_p56, List.forall_mem_cons.mpr ⟨lw_p57, List.forall_mem_cons.mpr ⟨lw_p58, List.forall_mem_cons.mpr ⟨lw_p59, List.forall_mem_cons.mpr ⟨lw_p60, List.forall_mem_cons.mpr ⟨lw_p61, List.forall_mem_cons.mpr ⟨lw_p62, List.forall_mem_cons.mpr ⟨lw_p63, fun _ h => absurd h List.not_mem_nil⟩⟩⟩⟩⟩⟩⟩⟩⟩⟩⟩⟩⟩⟩⟩⟩
def lw_privs : List (MethodName × Nat) := lw_privs_1 ++ (lw_privs_2 ++ (lw_privs_3 ++ (lw_privs_4)))
def lw_tbl : List Cond := k2_sels lw_privs ++ tables_1
theorem lw_privs_ok : ∀ q ∈ lw_privs, lw_okq q := by
  show ∀ q ∈ lw_privs_1 ++ (lw_privs_2 ++ (lw_privs_3 ++ (lw_privs_4))), lw_okq q
  exact List.forall_mem_append.mpr ⟨lw_r1, List.forall_mem_append.mpr ⟨lw_r2, List.forall_mem_append.mpr ⟨lw_r3, lw_r4⟩⟩⟩
/-- the streams that the claim lets the run draw from -/
abbrev lw_cs : List Choice := [Jvm.Choice.named "NaN.bits"]
theorem lw_bits : nanBits ∈ lw_cs := by first | decide | exact List.mem_cons_self | simp [lw_cs, nanBits]
-- ===== end of PART A; then your names; then what follows =====
/-! ===== BEGIN words of one list among another's, by their places ===== -/
theorem goodIn_r {big : List Cond} (ws : List Cond) (ps : List Nat) (hp : ws = ps.filterMap (fun i => big[i]?)) (h : ws.all goodWord = true) : GoodIn big ws := by
  intro w hw
  have h1 := List.all_eq_true.mp h w hw
  rw [hp] at hw
  obtain ⟨i, -, hi⟩ := List.mem_filterMap.mp hw
  have hm : w ∈ big := by first | exact List.mem_of_getElem? hi | exact List.getElem?_mem hi
  exact ⟨hm, good_of_word h1⟩
theorem goodIn_app {big a b : List Cond} (ha : GoodIn big a) (hb : GoodIn big b) : GoodIn big (a ++ b) := fun w h => (List.mem_append.mp h).elim (ha w) (hb w)
theorem goodIn_ca {big a b : List Cond} {c : Cond} (ha : GoodIn big (c :: a)) (hb : GoodIn big b) : GoodIn big (c :: (a ++ b)) := fun w h => (List.mem_cons.mp h).elim (fun e => ha w (List.mem_cons.mpr (Or.inl e))) (fun h => (List.mem_append.mp h).elim (fun h => ha w (List.mem_cons.mpr (Or.inr h))) (hb w))
theorem goodIn_sub {big ws : List Cond} (hm : ∀ w ∈ ws, w ∈ big) (h : ws.all goodWord = true) : GoodIn big ws := fun w hw => ⟨hm w hw, good_of_word (List.all_eq_true.mp h w hw)⟩
/-! ===== END ===== -/

/-! ===== BEGIN printed: names, fields, word lists, decode rows ===== -/
def RX0 : String := "AssemblyChair$Ballots"
def TX0 : u_T := fun k => match k with
  | 0 => ("AssemblyChair$Ballots", "decided", "I", false)
  | 1 => ("AssemblyChair$Ballots", "adopted", "I", false)
  | 2 => ("AssemblyChair$Ballots", "kept", "I", false)
  | 3 => ("AssemblyChair$Ballots", "yes", "[I", true)
  | 4 => ("AssemblyChair$Ballots", "no", "[I", true)
  | 5 => ("AssemblyChair$Ballots", "lastYes", "I", false)
  | 6 => ("AssemblyChair$Ballots", "lastNo", "I", false)
  | 7 => ("AssemblyChair$Ballots", "lastNeither", "I", false)
  | 8 => ("AssemblyChair$Ballots", "lastKind", "I", false)
  | 9 => ("AssemblyChair$Ballots", "lastWasAdopted", "Z", false)
  | 10 => ("AssemblyChair$Ballots", "mainQuestion", "I", false)
  | 11 => ("AssemblyChair$Ballots", "mainWinners", "I", false)
  | _ => ("AssemblyChair$Ballots", "mainWasQuestioned", "Z", false)
def tyX0 : Nat → FieldType := fun k => match k with
  | 0 => .int
  | 1 => .int
  | 2 => .int
  | 3 => .array .int
  | 4 => .array .int
  | 5 => .int
  | 6 => .int
  | 7 => .int
  | 8 => .int
  | 9 => .boolean
  | 10 => .int
  | 11 => .int
  | _ => .boolean
abbrev wsX00 : List Cond := u_ws RX0 TX0 13
theorem nmX0 : ∀ a, a < 13 → ∀ b, b < 13 → a ≠ b → (TX0 a).2.1 ≠ (TX0 b).2.1 := by decide +kernel
theorem tyX0_ok : ∀ k, k < 13 → parseFieldDescriptor (TX0 k).2.2.1 = some (tyX0 k) := by decide +kernel
abbrev cX0_init : ByteArray := prog_2_method_1_code
def yX0_init : MethodName := ⟨RX0, "<init>", "()V"⟩
abbrev cX0_become : ByteArray := prog_2_method_2_code
def yX0_become : MethodName := ⟨RX0, "become", "(LAssemblyChair$Ballots;)V"⟩
abbrev cX0_tally : ByteArray := prog_2_method_3_code
def yX0_tally : MethodName := ⟨RX0, "tally", "(IIII)Z"⟩
abbrev cX0_rememberMain : ByteArray := prog_2_method_4_code
def yX0_rememberMain : MethodName := ⟨RX0, "rememberMain", "(II)V"⟩
abbrev cX0_questionMain : ByteArray := prog_2_method_5_code
def yX0_questionMain : MethodName := ⟨RX0, "questionMain", "()V"⟩
abbrev cX0_canReconsider : ByteArray := prog_2_method_6_code
def yX0_canReconsider : MethodName := ⟨RX0, "canReconsider", "(I)Z"⟩
def RX1 : String := "AssemblyChair$Debate"
def TX1 : u_T := fun k => match k with
  | 0 => ("AssemblyChair$Debate", "speechesLeft", "I", false)
  | 1 => ("AssemblyChair$Debate", "isClosed", "Z", false)
  | _ => ("AssemblyChair$Debate", "rejectedKinds", "I", false)
def tyX1 : Nat → FieldType := fun k => match k with
  | 0 => .int
  | 1 => .boolean
  | _ => .int
abbrev wsX10 : List Cond := u_ws RX1 TX1 3
theorem nmX1 : ∀ a, a < 3 → ∀ b, b < 3 → a ≠ b → (TX1 a).2.1 ≠ (TX1 b).2.1 := by decide +kernel
theorem tyX1_ok : ∀ k, k < 3 → parseFieldDescriptor (TX1 k).2.2.1 = some (tyX1 k) := by decide +kernel
abbrev cX1_init : ByteArray := prog_3_method_1_code
def yX1_init : MethodName := ⟨RX1, "<init>", "()V"⟩
abbrev cX1_become : ByteArray := prog_3_method_2_code
def yX1_become : MethodName := ⟨RX1, "become", "(LAssemblyChair$Debate;)V"⟩
abbrev cX1_startAnew : ByteArray := prog_3_method_3_code
def yX1_startAnew : MethodName := ⟨RX1, "startAnew", "()V"⟩
abbrev cX1_close : ByteArray := prog_3_method_4_code
def yX1_close : MethodName := ⟨RX1, "close", "()V"⟩
abbrev cX1_useSpeech : ByteArray := prog_3_method_5_code
def yX1_useSpeech : MethodName := ⟨RX1, "useSpeech", "()V"⟩
abbrev cX1_noteAdopted : ByteArray := prog_3_method_6_code
def yX1_noteAdopted : MethodName := ⟨RX1, "noteAdopted", "()V"⟩
abbrev cX1_noteRejected : ByteArray := prog_3_method_7_code
def yX1_noteRejected : MethodName := ⟨RX1, "noteRejected", "(I)V"⟩
abbrev cX1_hasRejected : ByteArray := prog_3_method_8_code
def yX1_hasRejected : MethodName := ⟨RX1, "hasRejected", "(I)Z"⟩
def RX2 : String := "AssemblyChair$Docket"
def TX2 : u_T := fun k => match k with
  | 0 => ("AssemblyChair$Docket", "size", "I", false)
  | 1 => ("AssemblyChair$Docket", "resolutions", "I", false)
  | 2 => ("AssemblyChair$Docket", "questions", "[LAssemblyChair$Question;", true)
  | _ => ("AssemblyChair$Docket", "resolved", "[I", true)
def tyX2 : Nat → FieldType := fun k => match k with
  | 0 => .int
  | 1 => .int
  | 2 => .array (.object "AssemblyChair$Question")
  | _ => .array .int
abbrev wsX20 : List Cond := u_ws RX2 TX2 4
theorem nmX2 : ∀ a, a < 4 → ∀ b, b < 4 → a ≠ b → (TX2 a).2.1 ≠ (TX2 b).2.1 := by decide +kernel
theorem tyX2_ok : ∀ k, k < 4 → parseFieldDescriptor (TX2 k).2.2.1 = some (tyX2 k) := by decide +kernel
abbrev cX2_init : ByteArray := prog_4_method_1_code
def yX2_init : MethodName := ⟨RX2, "<init>", "()V"⟩
abbrev cX2_become : ByteArray := prog_4_method_2_code
def yX2_become : MethodName := ⟨RX2, "become", "(LAssemblyChair$Docket;)V"⟩
abbrev cX2_isFull : ByteArray := prog_4_method_3_code
def yX2_isFull : MethodName := ⟨RX2, "isFull", "()Z"⟩
abbrev cX2_at : ByteArray := prog_4_method_4_code
def yX2_at : MethodName := ⟨RX2, "at", "(I)LAssemblyChair$Question;"⟩
abbrev cX2_begin : ByteArray := prog_4_method_5_code
def yX2_begin : MethodName := ⟨RX2, "begin", "(II)LAssemblyChair$Question;"⟩
abbrev cX2_addResolution : ByteArray := prog_4_method_6_code
def yX2_addResolution : MethodName := ⟨RX2, "addResolution", "(I)V"⟩
abbrev cX2_resolutionOf : ByteArray := prog_4_method_7_code
def yX2_resolutionOf : MethodName := ⟨RX2, "resolutionOf", "(I)I"⟩
abbrev cX2_questionOf : ByteArray := prog_4_method_8_code
def yX2_questionOf : MethodName := ⟨RX2, "questionOf", "(I)I"⟩
abbrev cX2_removeResolutionOf : ByteArray := prog_4_method_9_code
def yX2_removeResolutionOf : MethodName := ⟨RX2, "removeResolutionOf", "(I)V"⟩
def RX3 : String := "AssemblyChair$House"
def TX3 : u_T := fun k => match k with
  | 0 => ("AssemblyChair$House", "size", "I", false)
  | 1 => ("AssemblyChair$House", "percentage", "I", false)
  | 2 => ("AssemblyChair$House", "present", "I", false)
  | 3 => ("AssemblyChair$House", "weights", "[I", true)
  | _ => ("AssemblyChair$House", "speeches", "[I", true)
def tyX3 : Nat → FieldType := fun k => match k with
  | 0 => .int
  | 1 => .int
  | 2 => .int
  | 3 => .array .int
  | _ => .array .int
abbrev wsX30 : List Cond := u_ws RX3 TX3 5
theorem nmX3 : ∀ a, a < 5 → ∀ b, b < 5 → a ≠ b → (TX3 a).2.1 ≠ (TX3 b).2.1 := by decide +kernel
theorem tyX3_ok : ∀ k, k < 5 → parseFieldDescriptor (TX3 k).2.2.1 = some (tyX3 k) := by decide +kernel
abbrev cX3_init : ByteArray := prog_5_method_1_code
def yX3_init : MethodName := ⟨RX3, "<init>", "()V"⟩
abbrev cX3_become : ByteArray := prog_5_method_2_code
def yX3_become : MethodName := ⟨RX3, "become", "(LAssemblyChair$House;)V"⟩
abbrev cX3_admit : ByteArray := prog_5_method_3_code
def yX3_admit : MethodName := ⟨RX3, "\x61dmit", "(I)I"⟩
abbrev cX3_has : ByteArray := prog_5_method_4_code
def yX3_has : MethodName := ⟨RX3, "has", "(I)Z"⟩
abbrev cX3_isPresent : ByteArray := prog_5_method_5_code
def yX3_isPresent : MethodName := ⟨RX3, "isPresent", "(I)Z"⟩
abbrev cX3_isIn : ByteArray := prog_5_method_6_code
def yX3_isIn : MethodName := ⟨RX3, "isIn", "(II)Z"⟩
abbrev cX3_setPresent : ByteArray := prog_5_method_7_code
def yX3_setPresent : MethodName := ⟨RX3, "setPresent", "(IZ)V"⟩
abbrev cX3_everyone : ByteArray := prog_5_method_8_code
def yX3_everyone : MethodName := ⟨RX3, "everyone", "()I"⟩
abbrev cX3_weightOf : ByteArray := prog_5_method_9_code
def yX3_weightOf : MethodName := ⟨RX3, "weightOf", "(I)I"⟩
abbrev cX3_hasQuorum : ByteArray := prog_5_method_10_code
def yX3_hasQuorum : MethodName := ⟨RX3, "hasQuorum", "()Z"⟩
abbrev cX3_addSpeech : ByteArray := prog_5_method_11_code
def yX3_addSpeech : MethodName := ⟨RX3, "addSpeech", "(I)I"⟩
def RX4 : String := "AssemblyChair$Meeting"
def TX4 : u_T := fun k => match k with
  | 0 => ("AssemblyChair$Meeting", "house", "LAssemblyChair$House;", true)
  | 1 => ("AssemblyChair$Meeting", "docket", "LAssemblyChair$Docket;", true)
  | 2 => ("AssemblyChair$Meeting", "shelf", "LAssemblyChair$Shelf;", true)
  | 3 => ("AssemblyChair$Meeting", "minutes", "LAssemblyChair$Minutes;", true)
  | 4 => ("AssemblyChair$Meeting", "ballots", "LAssemblyChair$Ballots;", true)
  | 5 => ("AssemblyChair$Meeting", "debate", "LAssemblyChair$Debate;", true)
  | 6 => ("AssemblyChair$Meeting", "buffer", "LAssemblyChair$Text;", true)
  | 7 => ("AssemblyChair$Meeting", "isOpen", "Z", false)
  | 8 => ("AssemblyChair$Meeting", "minute", "I", false)
  | 9 => ("AssemblyChair$Meeting", "top", "LAssemblyChair$Motion;", false)
  | 10 => ("AssemblyChair$Meeting", "motionsMade", "I", false)
  | 11 => ("AssemblyChair$Meeting", "mainsDropped", "I", false)
  | _ => ("AssemblyChair$Meeting", "mainsNotMade", "I", false)
def tyX4 : Nat → FieldType := fun k => match k with
  | 0 => .object "AssemblyChair$House"
  | 1 => .object "AssemblyChair$Docket"
  | 2 => .object "AssemblyChair$Shelf"
  | 3 => .object "AssemblyChair$Minutes"
  | 4 => .object "AssemblyChair$Ballots"
  | 5 => .object "AssemblyChair$Debate"
  | 6 => .object "AssemblyChair$Text"
  | 7 => .boolean
  | 8 => .int
  | 9 => .object "AssemblyChair$Motion"
  | 10 => .int
  | 11 => .int
  | _ => .int
abbrev wsX40 : List Cond := u_ws RX4 TX4 13
theorem nmX4 : ∀ a, a < 13 → ∀ b, b < 13 → a ≠ b → (TX4 a).2.1 ≠ (TX4 b).2.1 := by decide +kernel
theorem tyX4_ok : ∀ k, k < 13 → parseFieldDescriptor (TX4 k).2.2.1 = some (tyX4 k) := by decide +kernel
abbrev cX4_init : ByteArray := prog_6_method_1_code
def yX4_init : MethodName := ⟨RX4, "<init>", "()V"⟩
abbrev cX4_become : ByteArray := prog_6_method_2_code
def yX4_become : MethodName := ⟨RX4, "become", "(LAssemblyChair$Meeting;)V"⟩
abbrev cX4_height : ByteArray := prog_6_method_3_code
def yX4_height : MethodName := ⟨RX4, "height", "()I"⟩
abbrev cX4_motionAt : ByteArray := prog_6_method_4_code
def yX4_motionAt : MethodName := ⟨RX4, "motionAt", "(I)LAssemblyChair$Motion;"⟩
abbrev cX4_pendingQuestion : ByteArray := prog_6_method_5_code
def yX4_pendingQuestion : MethodName := ⟨RX4, "pendingQuestion", "()LAssemblyChair$Question;"⟩
abbrev cX4_make : ByteArray := prog_6_method_6_code
def yX4_make : MethodName := ⟨RX4, "make", "(IIIII)V"⟩
abbrev cX4_bringUpBuffer : ByteArray := prog_6_method_7_code
def yX4_bringUpBuffer : MethodName := ⟨RX4, "bringUpBuffer", "(I)V"⟩
abbrev cX4_comeUp : ByteArray := prog_6_method_8_code
def yX4_comeUp : MethodName := ⟨RX4, "comeUp", "(ILAssemblyChair$Question;)V"⟩
abbrev cX4_hear : ByteArray := prog_6_method_9_code
def yX4_hear : MethodName := ⟨RX4, "hear", "(I)I"⟩
abbrev cX4_splitOff : ByteArray := prog_6_method_10_code
def yX4_splitOff : MethodName := ⟨RX4, "splitOff", "(LAssemblyChair$Motion;LAssemblyChair$Question;I)I"⟩
abbrev cX4_takeFromShelf : ByteArray := prog_6_method_11_code
def yX4_takeFromShelf : MethodName := ⟨RX4, "takeFromShelf", "(I)I"⟩
abbrev cX4_resume : ByteArray := prog_6_method_12_code
def yX4_resume : MethodName := ⟨RX4, "resume", "(LAssemblyChair$Motion;)V"⟩
abbrev cX4_settle : ByteArray := prog_6_method_13_code
def yX4_settle : MethodName := ⟨RX4, "settle", "(LAssemblyChair$Motion;II)Z"⟩
abbrev cX4_carryOut : ByteArray := prog_6_method_14_code
def yX4_carryOut : MethodName := ⟨RX4, "carryOut", "(LAssemblyChair$Motion;)V"⟩
abbrev cX4_carryOutAmendment : ByteArray := prog_6_method_15_code
def yX4_carryOutAmendment : MethodName := ⟨RX4, "carryOutAmendment", "(LAssemblyChair$Motion;)V"⟩
abbrev cX4_putAside : ByteArray := prog_6_method_16_code
def yX4_putAside : MethodName := ⟨RX4, "putAside", "(II)V"⟩
abbrev cX4_resumeFromTable : ByteArray := prog_6_method_17_code
def yX4_resumeFromTable : MethodName := ⟨RX4, "resumeFromTable", "()V"⟩
abbrev cX4_reconsider : ByteArray := prog_6_method_18_code
def yX4_reconsider : MethodName := ⟨RX4, "reconsider", "()V"⟩
abbrev cX4_finish : ByteArray := prog_6_method_19_code
def yX4_finish : MethodName := ⟨RX4, "finish", "(II)V"⟩
def RX5 : String := "AssemblyChair$Minutes"
def TX5 : u_T := fun k => match k with
  | 0 => ("AssemblyChair$Minutes", "total", "I", false)
  | 1 => ("AssemblyChair$Minutes", "kept", "I", false)
  | 2 => ("AssemblyChair$Minutes", "minute", "[I", true)
  | 3 => ("AssemblyChair$Minutes", "kind", "[I", true)
  | 4 => ("AssemblyChair$Minutes", "delegate", "[I", true)
  | 5 => ("AssemblyChair$Minutes", "number", "[I", true)
  | _ => ("AssemblyChair$Minutes", "motions", "[LAssemblyChair$Motion;", true)
def tyX5 : Nat → FieldType := fun k => match k with
  | 0 => .int
  | 1 => .int
  | 2 => .array .int
  | 3 => .array .int
  | 4 => .array .int
  | 5 => .array .int
  | _ => .array (.object "AssemblyChair$Motion")
abbrev wsX50 : List Cond := u_ws RX5 TX5 7
theorem nmX5 : ∀ a, a < 7 → ∀ b, b < 7 → a ≠ b → (TX5 a).2.1 ≠ (TX5 b).2.1 := by decide +kernel
theorem tyX5_ok : ∀ k, k < 7 → parseFieldDescriptor (TX5 k).2.2.1 = some (tyX5 k) := by decide +kernel
abbrev cX5_init : ByteArray := prog_7_method_1_code
def yX5_init : MethodName := ⟨RX5, "<init>", "()V"⟩
abbrev cX5_become : ByteArray := prog_7_method_2_code
def yX5_become : MethodName := ⟨RX5, "become", "(LAssemblyChair$Minutes;)V"⟩
abbrev cX5_write : ByteArray := prog_7_method_3_code
def yX5_write : MethodName := ⟨RX5, "write", "(IIIILAssemblyChair$Motion;)V"⟩
abbrev cX5_replay : ByteArray := prog_7_method_4_code
def yX5_replay : MethodName := ⟨RX5, "replay", "(ILAssemblyChair$Text;)V"⟩
def RX6 : String := "AssemblyChair$Motion"
def TX6 : u_T := fun k => match k with
  | 0 => ("AssemblyChair$Motion", "kind", "I", true)
  | 1 => ("AssemblyChair$Motion", "mover", "I", true)
  | 2 => ("AssemblyChair$Motion", "a", "I", true)
  | 3 => ("AssemblyChair$Motion", "b", "I", true)
  | 4 => ("AssemblyChair$Motion", "c", "I", true)
  | 5 => ("AssemblyChair$Motion", "question", "I", true)
  | 6 => ("AssemblyChair$Motion", "height", "I", true)
  | _ => ("AssemblyChair$Motion", "below", "LAssemblyChair$Motion;", true)
def tyX6 : Nat → FieldType := fun k => match k with
  | 0 => .int
  | 1 => .int
  | 2 => .int
  | 3 => .int
  | 4 => .int
  | 5 => .int
  | 6 => .int
  | _ => .object "AssemblyChair$Motion"
abbrev wsX60 : List Cond := u_ws RX6 TX6 8
theorem nmX6 : ∀ a, a < 8 → ∀ b, b < 8 → a ≠ b → (TX6 a).2.1 ≠ (TX6 b).2.1 := by decide +kernel
theorem tyX6_ok : ∀ k, k < 8 → parseFieldDescriptor (TX6 k).2.2.1 = some (tyX6 k) := by decide +kernel
abbrev cX6_init : ByteArray := prog_8_method_1_code
def yX6_init : MethodName := ⟨RX6, "<init>", "(IIIIIILAssemblyChair$Motion;)V"⟩
abbrev cX6_degree : ByteArray := prog_8_method_2_code
def yX6_degree : MethodName := ⟨RX6, "degree", "()I"⟩
abbrev cX6_changedBy : ByteArray := prog_8_method_3_code
def yX6_changedBy : MethodName := ⟨RX6, "changedBy", "(LAssemblyChair$Motion;)LAssemblyChair$Motion;"⟩
abbrev cX6_lowest : ByteArray := prog_8_method_4_code
def yX6_lowest : MethodName := ⟨RX6, "lowest", "()LAssemblyChair$Motion;"⟩
def RX7 : String := "AssemblyChair$Question"
def TX7 : u_T := fun k => match k with
  | 0 => ("AssemblyChair$Question", "text", "LAssemblyChair$Text;", true)
  | 1 => ("AssemblyChair$Question", "first", "LAssemblyChair$Text;", true)
  | 2 => ("AssemblyChair$Question", "mover", "I", false)
  | 3 => ("AssemblyChair$Question", "state", "I", false)
  | 4 => ("AssemblyChair$Question", "amendments", "I", false)
  | 5 => ("AssemblyChair$Question", "place", "I", false)
  | _ => ("AssemblyChair$Question", "nextPart", "I", false)
def tyX7 : Nat → FieldType := fun k => match k with
  | 0 => .object "AssemblyChair$Text"
  | 1 => .object "AssemblyChair$Text"
  | 2 => .int
  | 3 => .int
  | 4 => .int
  | 5 => .int
  | _ => .int
abbrev wsX70 : List Cond := u_ws RX7 TX7 7
theorem nmX7 : ∀ a, a < 7 → ∀ b, b < 7 → a ≠ b → (TX7 a).2.1 ≠ (TX7 b).2.1 := by decide +kernel
theorem tyX7_ok : ∀ k, k < 7 → parseFieldDescriptor (TX7 k).2.2.1 = some (tyX7 k) := by decide +kernel
abbrev cX7_init : ByteArray := prog_9_method_1_code
def yX7_init : MethodName := ⟨RX7, "<init>", "()V"⟩
abbrev cX7_begin : ByteArray := prog_9_method_2_code
def yX7_begin : MethodName := ⟨RX7, "begin", "(II)V"⟩
abbrev cX7_become : ByteArray := prog_9_method_3_code
def yX7_become : MethodName := ⟨RX7, "become", "(LAssemblyChair$Question;)V"⟩
def RX8 : String := "AssemblyChair$Row"
def TX8 : u_T := fun k => match k with
  | 0 => ("AssemblyChair$Row", "length", "I", false)
  | 1 => ("AssemblyChair$Row", "isExact", "Z", false)
  | _ => ("AssemblyChair$Row", "values", "[I", true)
def tyX8 : Nat → FieldType := fun k => match k with
  | 0 => .int
  | 1 => .boolean
  | _ => .array .int
abbrev wsX80 : List Cond := u_ws RX8 TX8 3
theorem nmX8 : ∀ a, a < 3 → ∀ b, b < 3 → a ≠ b → (TX8 a).2.1 ≠ (TX8 b).2.1 := by decide +kernel
theorem tyX8_ok : ∀ k, k < 3 → parseFieldDescriptor (TX8 k).2.2.1 = some (tyX8 k) := by decide +kernel
abbrev cX8_init : ByteArray := prog_10_method_1_code
def yX8_init : MethodName := ⟨RX8, "<init>", "()V"⟩
abbrev cX8_become : ByteArray := prog_10_method_2_code
def yX8_become : MethodName := ⟨RX8, "become", "(LAssemblyChair$Row;)V"⟩
abbrev cX8_takeFirst : ByteArray := prog_10_method_3_code
def yX8_takeFirst : MethodName := ⟨RX8, "takeFirst", "(LAssemblyChair$Row;I)I"⟩
def RX9 : String := "AssemblyChair$Shelf"
def TX9 : u_T := fun k => match k with
  | 0 => ("AssemblyChair$Shelf", "size", "I", false)
  | 1 => ("AssemblyChair$Shelf", "tops", "[LAssemblyChair$Motion;", true)
  | 2 => ("AssemblyChair$Shelf", "states", "[I", true)
  | _ => ("AssemblyChair$Shelf", "places", "[I", true)
def tyX9 : Nat → FieldType := fun k => match k with
  | 0 => .int
  | 1 => .array (.object "AssemblyChair$Motion")
  | 2 => .array .int
  | _ => .array .int
abbrev wsX90 : List Cond := u_ws RX9 TX9 4
theorem nmX9 : ∀ a, a < 4 → ∀ b, b < 4 → a ≠ b → (TX9 a).2.1 ≠ (TX9 b).2.1 := by decide +kernel
theorem tyX9_ok : ∀ k, k < 4 → parseFieldDescriptor (TX9 k).2.2.1 = some (tyX9 k) := by decide +kernel
abbrev cX9_init : ByteArray := prog_11_method_1_code
def yX9_init : MethodName := ⟨RX9, "<init>", "()V"⟩
abbrev cX9_become : ByteArray := prog_11_method_2_code
def yX9_become : MethodName := ⟨RX9, "become", "(LAssemblyChair$Shelf;)V"⟩
abbrev cX9_put : ByteArray := prog_11_method_3_code
def yX9_put : MethodName := ⟨RX9, "put", "(LAssemblyChair$Motion;II)V"⟩
abbrev cX9_take : ByteArray := prog_11_method_4_code
def yX9_take : MethodName := ⟨RX9, "take", "(I)LAssemblyChair$Motion;"⟩
abbrev cX9_sizeOf : ByteArray := prog_11_method_5_code
def yX9_sizeOf : MethodName := ⟨RX9, "sizeOf", "(I)I"⟩
abbrev cX9_firstInCommittee : ByteArray := prog_11_method_6_code
def yX9_firstInCommittee : MethodName := ⟨RX9, "firstInCommittee", "(I)I"⟩
abbrev cX9_busyCommittees : ByteArray := prog_11_method_7_code
def yX9_busyCommittees : MethodName := ⟨RX9, "busyCommittees", "()I"⟩
abbrev cX9_lastOnTable : ByteArray := prog_11_method_8_code
def yX9_lastOnTable : MethodName := ⟨RX9, "lastOnTable", "()I"⟩
abbrev cX9_firstDue : ByteArray := prog_11_method_9_code
def yX9_firstDue : MethodName := ⟨RX9, "firstDue", "(I)I"⟩
abbrev cX9_motions : ByteArray := prog_11_method_10_code
def yX9_motions : MethodName := ⟨RX9, "motions", "()I"⟩
def RX10 : String := "AssemblyChair$Text"
def TX10 : u_T := fun k => match k with
  | 0 => ("AssemblyChair$Text", "length", "I", false)
  | _ => ("AssemblyChair$Text", "clauses", "[I", true)
def tyX10 : Nat → FieldType := fun k => match k with
  | 0 => .int
  | _ => .array .int
abbrev wsX100 : List Cond := u_ws RX10 TX10 2
theorem nmX10 : ∀ a, a < 2 → ∀ b, b < 2 → a ≠ b → (TX10 a).2.1 ≠ (TX10 b).2.1 := by decide +kernel
theorem tyX10_ok : ∀ k, k < 2 → parseFieldDescriptor (TX10 k).2.2.1 = some (tyX10 k) := by decide +kernel
abbrev cX10_init : ByteArray := prog_12_method_1_code
def yX10_init : MethodName := ⟨RX10, "<init>", "()V"⟩
abbrev cX10_become : ByteArray := prog_12_method_2_code
def yX10_become : MethodName := ⟨RX10, "become", "(LAssemblyChair$Text;)V"⟩
abbrev cX10_at : ByteArray := prog_12_method_3_code
def yX10_at : MethodName := ⟨RX10, "at", "(I)I"⟩
abbrev cX10_has : ByteArray := prog_12_method_4_code
def yX10_has : MethodName := ⟨RX10, "has", "(I)Z"⟩
abbrev cX10_append : ByteArray := prog_12_method_5_code
def yX10_append : MethodName := ⟨RX10, "append", "(I)V"⟩
abbrev cX10_allows : ByteArray := prog_12_method_6_code
def yX10_allows : MethodName := ⟨RX10, "allows", "(III)Z"⟩
abbrev cX10_amend : ByteArray := prog_12_method_7_code
def yX10_amend : MethodName := ⟨RX10, "amend", "(III)V"⟩
abbrev cX10_insert : ByteArray := prog_12_method_8_code
def yX10_insert : MethodName := ⟨RX10, "insert", "(II)V"⟩
abbrev cX10_strike : ByteArray := prog_12_method_9_code
def yX10_strike : MethodName := ⟨RX10, "strike", "(I)V"⟩
abbrev cX10_cutTo : ByteArray := prog_12_method_10_code
def yX10_cutTo : MethodName := ⟨RX10, "cutTo", "(I)V"⟩
abbrev cX10_becomeEndOf : ByteArray := prog_12_method_11_code
def yX10_becomeEndOf : MethodName := ⟨RX10, "becomeEndOf", "(LAssemblyChair$Text;I)V"⟩
abbrev cX10_isSameAs : ByteArray := prog_12_method_12_code
def yX10_isSameAs : MethodName := ⟨RX10, "isSameAs", "(LAssemblyChair$Text;)Z"⟩
def RX11 : String := "AssemblyChair"
def TX11 : u_T := fun k => match k with
  | 0 => ("AssemblyChair", "now", "LAssemblyChair$Meeting;", true)
  | 1 => ("AssemblyChair", "snapshot", "LAssemblyChair$Meeting;", true)
  | 2 => ("AssemblyChair", "hasSnapshot", "Z", false)
  | 3 => ("AssemblyChair", "rows", "[LAssemblyChair$Row;", true)
  | _ => ("AssemblyChair", "scratch", "LAssemblyChair$Text;", true)
def tyX11 : Nat → FieldType := fun k => match k with
  | 0 => .object "AssemblyChair$Meeting"
  | 1 => .object "AssemblyChair$Meeting"
  | 2 => .boolean
  | 3 => .array (.object "AssemblyChair$Row")
  | _ => .object "AssemblyChair$Text"
abbrev wsX110 : List Cond := u_ws RX11 TX11 5
theorem nmX11 : ∀ a, a < 5 → ∀ b, b < 5 → a ≠ b → (TX11 a).2.1 ≠ (TX11 b).2.1 := by decide +kernel
theorem tyX11_ok : ∀ k, k < 5 → parseFieldDescriptor (TX11 k).2.2.1 = some (tyX11 k) := by decide +kernel
abbrev cX11_init : ByteArray := prog_1_method_1_code
def yX11_init : MethodName := ⟨RX11, "<init>", "()V"⟩
abbrev cX11_delegate : ByteArray := prog_1_method_2_code
def yX11_delegate : MethodName := ⟨RX11, "delegate", "(I)I"⟩
abbrev cX11_presence : ByteArray := prog_1_method_3_code
def yX11_presence : MethodName := ⟨RX11, "presence", "(II)I"⟩
abbrev cX11_quorum : ByteArray := prog_1_method_4_code
def yX11_quorum : MethodName := ⟨RX11, "quorum", "(I)I"⟩
abbrev cX11_clause : ByteArray := prog_1_method_5_code
def yX11_clause : MethodName := ⟨RX11, "clause", "(I)I"⟩
abbrev cX11_pass : ByteArray := prog_1_method_6_code
def yX11_pass : MethodName := ⟨RX11, "pass", "(I)I"⟩
abbrev cX11_open : ByteArray := prog_1_method_7_code
def yX11_open : MethodName := ⟨RX11, "open", "()I"⟩
abbrev cX11_move : ByteArray := prog_1_method_8_code
def yX11_move : MethodName := ⟨RX11, "move", "(IIIII)I"⟩
abbrev cX11_decide : ByteArray := prog_1_method_9_code
def yX11_decide : MethodName := ⟨RX11, "decide", "(II)I"⟩
abbrev cX11_speak : ByteArray := prog_1_method_10_code
def yX11_speak : MethodName := ⟨RX11, "speak", "(I)I"⟩
abbrev cX11_divide : ByteArray := prog_1_method_11_code
def yX11_divide : MethodName := ⟨RX11, "divide", "(I)I"⟩
abbrev cX11_report : ByteArray := prog_1_method_12_code
def yX11_report : MethodName := ⟨RX11, "report", "(I)I"⟩
abbrev cX11_next : ByteArray := prog_1_method_13_code
def yX11_next : MethodName := ⟨RX11, "next", "()I"⟩
abbrev cX11_rule : ByteArray := prog_1_method_14_code
def yX11_rule : MethodName := ⟨RX11, "rule", "(IIIII)I"⟩
abbrev cX11_hasNeedlessNumber : ByteArray := prog_1_method_15_code
def yX11_hasNeedlessNumber : MethodName := ⟨RX11, "hasNeedlessNumber", "(IIII)Z"⟩
abbrev cX11_ruleOfMeeting : ByteArray := prog_1_method_16_code
def yX11_ruleOfMeeting : MethodName := ⟨RX11, "ruleOfMeeting", "(II)I"⟩
abbrev cX11_lacksQuorum : ByteArray := prog_1_method_17_code
def yX11_lacksQuorum : MethodName := ⟨RX11, "lacksQuorum", "(I)Z"⟩
abbrev cX11_isMadeAlone : ByteArray := prog_1_method_18_code
def yX11_isMadeAlone : MethodName := ⟨RX11, "isMadeAlone", "(I)Z"⟩
abbrev cX11_ruleOfFreeFloor : ByteArray := prog_1_method_19_code
def yX11_ruleOfFreeFloor : MethodName := ⟨RX11, "ruleOfFreeFloor", "()I"⟩
abbrev cX11_ruleOfPrecedence : ByteArray := prog_1_method_20_code
def yX11_ruleOfPrecedence : MethodName := ⟨RX11, "ruleOfPrecedence", "(I)I"⟩
abbrev cX11_ruleOfDebate : ByteArray := prog_1_method_21_code
def yX11_ruleOfDebate : MethodName := ⟨RX11, "ruleOfDebate", "(I)I"⟩
abbrev cX11_ruleOfNumbers : ByteArray := prog_1_method_22_code
def yX11_ruleOfNumbers : MethodName := ⟨RX11, "ruleOfNumbers", "(IIIII)I"⟩
abbrev cX11_ruleOfRange : ByteArray := prog_1_method_23_code
def yX11_ruleOfRange : MethodName := ⟨RX11, "ruleOfRange", "(Z)I"⟩
abbrev cX11_ruleOfRoom : ByteArray := prog_1_method_24_code
def yX11_ruleOfRoom : MethodName := ⟨RX11, "ruleOfRoom", "(Z)I"⟩
abbrev cX11_isPossibleAmendment : ByteArray := prog_1_method_25_code
def yX11_isPossibleAmendment : MethodName := ⟨RX11, "isPossibleAmendment", "(III)Z"⟩
abbrev cX11_isPossibleSecondary : ByteArray := prog_1_method_26_code
def yX11_isPossibleSecondary : MethodName := ⟨RX11, "isPossibleSecondary", "(LAssemblyChair$Text;LAssemblyChair$Motion;III)Z"⟩
abbrev cX11_maySpeak : ByteArray := prog_1_method_27_code
def yX11_maySpeak : MethodName := ⟨RX11, "maySpeak", "(I)Z"⟩
abbrev cX11_pending : ByteArray := prog_1_method_28_code
def yX11_pending : MethodName := ⟨RX11, "pending", "(II)I"⟩
abbrev cX11_text : ByteArray := prog_1_method_29_code
def yX11_text : MethodName := ⟨RX11, "text", "(II)I"⟩
abbrev cX11_question : ByteArray := prog_1_method_30_code
def yX11_question : MethodName := ⟨RX11, "question", "(II)I"⟩
abbrev cX11_numberOfState : ByteArray := prog_1_method_31_code
def yX11_numberOfState : MethodName := ⟨RX11, "numberOfState", "(ILAssemblyChair$Question;)I"⟩
abbrev cX11_draft : ByteArray := prog_1_method_32_code
def yX11_draft : MethodName := ⟨RX11, "draft", "(I)I"⟩
abbrev cX11_draftedAmendment : ByteArray := prog_1_method_33_code
def yX11_draftedAmendment : MethodName := ⟨RX11, "draftedAmendment", "(LAssemblyChair$Motion;)LAssemblyChair$Motion;"⟩
abbrev cX11_resolution : ByteArray := prog_1_method_34_code
def yX11_resolution : MethodName := ⟨RX11, "resolution", "(II)I"⟩
abbrev cX11_replayed : ByteArray := prog_1_method_35_code
def yX11_replayed : MethodName := ⟨RX11, "replayed", "(I)I"⟩
abbrev cX11_entry : ByteArray := prog_1_method_36_code
def yX11_entry : MethodName := ⟨RX11, "entry", "(II)I"⟩
abbrev cX11_vote : ByteArray := prog_1_method_37_code
def yX11_vote : MethodName := ⟨RX11, "vote", "(I)I"⟩
abbrev cX11_count : ByteArray := prog_1_method_38_code
def yX11_count : MethodName := ⟨RX11, "count", "(I)I"⟩
abbrev cX11_store : ByteArray := prog_1_method_39_code
def yX11_store : MethodName := ⟨RX11, "store", "(III)I"⟩
abbrev cX11_fill : ByteArray := prog_1_method_40_code
def yX11_fill : MethodName := ⟨RX11, "fill", "(LAssemblyChair$Row;IZ)V"⟩
abbrev cX11_copy : ByteArray := prog_1_method_41_code
def yX11_copy : MethodName := ⟨RX11, "copy", "(III)I"⟩
abbrev cX11_again : ByteArray := prog_1_method_42_code
def yX11_again : MethodName := ⟨RX11, "again", "(II)I"⟩
abbrev cX11_element : ByteArray := prog_1_method_43_code
def yX11_element : MethodName := ⟨RX11, "element", "(II)J"⟩
abbrev cX11_isRow : ByteArray := prog_1_method_44_code
def yX11_isRow : MethodName := ⟨RX11, "isRow", "(I)Z"⟩
abbrev cX11_image : ByteArray := prog_1_method_45_code
def yX11_image : MethodName := ⟨RX11, "image", "()I"⟩
abbrev cX11_undo : ByteArray := prog_1_method_46_code
def yX11_undo : MethodName := ⟨RX11, "undo", "()I"⟩
abbrev cX11_bit : ByteArray := prog_1_method_47_code
def yX11_bit : MethodName := ⟨RX11, "bit", "(Z)I"⟩
abbrev cX11_isClause : ByteArray := prog_1_method_48_code
def yX11_isClause : MethodName := ⟨RX11, "isClause", "(I)Z"⟩
abbrev cX11_shareBits : ByteArray := prog_1_method_49_code
def yX11_shareBits : MethodName := ⟨RX11, "shareBits", "(II)I"⟩
def RX12 : String := "AssemblyChairModel"
def TX12 : u_T := fun k => match k with
  | 0 => ("AssemblyChairModel", "weight", "[I", true)
  | 1 => ("AssemblyChairModel", "present", "[I", true)
  | 2 => ("AssemblyChairModel", "speeches", "[I", true)
  | 3 => ("AssemblyChairModel", "delegates", "I", false)
  | 4 => ("AssemblyChairModel", "percentage", "I", false)
  | 5 => ("AssemblyChairModel", "minute", "I", false)
  | 6 => ("AssemblyChairModel", "closed", "I", false)
  | 7 => ("AssemblyChairModel", "buffer", "[I", true)
  | 8 => ("AssemblyChairModel", "state", "[I", true)
  | 9 => ("AssemblyChairModel", "place", "[I", true)
  | 10 => ("AssemblyChairModel", "mover", "[I", true)
  | 11 => ("AssemblyChairModel", "part", "[I", true)
  | 12 => ("AssemblyChairModel", "amended", "[I", true)
  | 13 => ("AssemblyChairModel", "many", "[I", true)
  | 14 => ("AssemblyChairModel", "clause", "[I", true)
  | 15 => ("AssemblyChairModel", "firstMany", "[I", true)
  | 16 => ("AssemblyChairModel", "firstClause", "[I", true)
  | 17 => ("AssemblyChairModel", "buffered", "I", false)
  | 18 => ("AssemblyChairModel", "questions", "I", false)
  | 19 => ("AssemblyChairModel", "resolutions", "I", false)
  | 20 => ("AssemblyChairModel", "asked", "I", false)
  | 21 => ("AssemblyChairModel", "resolution", "[I", true)
  | 22 => ("AssemblyChairModel", "motion", "[I", true)
  | 23 => ("AssemblyChairModel", "away", "[I", true)
  | 24 => ("AssemblyChairModel", "awayMany", "[I", true)
  | 25 => ("AssemblyChairModel", "awayOrder", "[I", true)
  | 26 => ("AssemblyChairModel", "table", "[I", true)
  | 27 => ("AssemblyChairModel", "committee", "[I", true)
  | 28 => ("AssemblyChairModel", "motions", "I", false)
  | 29 => ("AssemblyChairModel", "laid", "I", false)
  | 30 => ("AssemblyChairModel", "orders", "I", false)
  | 31 => ("AssemblyChairModel", "made", "I", false)
  | 32 => ("AssemblyChairModel", "adopted", "I", false)
  | 33 => ("AssemblyChairModel", "rejected", "I", false)
  | 34 => ("AssemblyChairModel", "dropped", "I", false)
  | 35 => ("AssemblyChairModel", "camePart", "I", false)
  | 36 => ("AssemblyChairModel", "left", "I", false)
  | 37 => ("AssemblyChairModel", "isClosed", "I", false)
  | 38 => ("AssemblyChairModel", "refused", "I", false)
  | 39 => ("AssemblyChairModel", "lone", "[I", true)
  | 40 => ("AssemblyChairModel", "lones", "I", false)
  | 41 => ("AssemblyChairModel", "entry", "[I", true)
  | 42 => ("AssemblyChairModel", "change", "[I", true)
  | 43 => ("AssemblyChairModel", "entries", "I", false)
  | 44 => ("AssemblyChairModel", "lastQuestion", "I", false)
  | 45 => ("AssemblyChairModel", "lastWinners", "I", false)
  | 46 => ("AssemblyChairModel", "lastTried", "I", false)
  | 47 => ("AssemblyChairModel", "yesBy", "[I", true)
  | 48 => ("AssemblyChairModel", "noBy", "[I", true)
  | 49 => ("AssemblyChairModel", "votes", "I", false)
  | 50 => ("AssemblyChairModel", "lastYes", "I", false)
  | 51 => ("AssemblyChairModel", "lastNo", "I", false)
  | 52 => ("AssemblyChairModel", "lastNeither", "I", false)
  | 53 => ("AssemblyChairModel", "lastAdopted", "I", false)
  | 54 => ("AssemblyChairModel", "lastKind", "I", false)
  | 55 => ("AssemblyChairModel", "draft", "[I", true)
  | 56 => ("AssemblyChairModel", "row", "[I", true)
  | 57 => ("AssemblyChairModel", "rowMany", "[I", true)
  | 58 => ("AssemblyChairModel", "rowFloats", "[I", true)
  | 59 => ("AssemblyChairModel", "saved", "[I", true)
  | 60 => ("AssemblyChairModel", "isSaved", "Z", false)
  | 61 => ("AssemblyChairModel", "isKeeping", "Z", false)
  | _ => ("AssemblyChairModel", "cursor", "I", false)
def tyX12 : Nat → FieldType := fun k => match k with
  | 0 => .array .int
  | 1 => .array .int
  | 2 => .array .int
  | 3 => .int
  | 4 => .int
  | 5 => .int
  | 6 => .int
  | 7 => .array .int
  | 8 => .array .int
  | 9 => .array .int
  | 10 => .array .int
  | 11 => .array .int
  | 12 => .array .int
  | 13 => .array .int
  | 14 => .array .int
  | 15 => .array .int
  | 16 => .array .int
  | 17 => .int
  | 18 => .int
  | 19 => .int
  | 20 => .int
  | 21 => .array .int
  | 22 => .array .int
  | 23 => .array .int
  | 24 => .array .int
  | 25 => .array .int
  | 26 => .array .int
  | 27 => .array .int
  | 28 => .int
  | 29 => .int
  | 30 => .int
  | 31 => .int
  | 32 => .int
  | 33 => .int
  | 34 => .int
  | 35 => .int
  | 36 => .int
  | 37 => .int
  | 38 => .int
  | 39 => .array .int
  | 40 => .int
  | 41 => .array .int
  | 42 => .array .int
  | 43 => .int
  | 44 => .int
  | 45 => .int
  | 46 => .int
  | 47 => .array .int
  | 48 => .array .int
  | 49 => .int
  | 50 => .int
  | 51 => .int
  | 52 => .int
  | 53 => .int
  | 54 => .int
  | 55 => .array .int
  | 56 => .array .int
  | 57 => .array .int
  | 58 => .array .int
  | 59 => .array .int
  | 60 => .boolean
  | 61 => .boolean
  | _ => .int
abbrev wsX120 : List Cond := u_ws RX12 TX12 63
theorem nmX12 : ∀ a, a < 63 → ∀ b, b < 63 → a ≠ b → (TX12 a).2.1 ≠ (TX12 b).2.1 := by decide +kernel
theorem tyX12_ok : ∀ k, k < 63 → parseFieldDescriptor (TX12 k).2.2.1 = some (tyX12 k) := by decide +kernel
abbrev cX12_init : ByteArray := prog_14_method_1_code
def yX12_init : MethodName := ⟨RX12, "<init>", "()V"⟩
abbrev cX12_isBetween : ByteArray := prog_14_method_2_code
def yX12_isBetween : MethodName := ⟨RX12, "isBetween", "(III)Z"⟩
abbrev cX12_has : ByteArray := prog_14_method_3_code
def yX12_has : MethodName := ⟨RX12, "has", "(II)Z"⟩
abbrev cX12_isDelegate : ByteArray := prog_14_method_4_code
def yX12_isDelegate : MethodName := ⟨RX12, "isDelegate", "(I)Z"⟩
abbrev cX12_weightOf : ByteArray := prog_14_method_5_code
def yX12_weightOf : MethodName := ⟨RX12, "weightOf", "(IZ)I"⟩
abbrev cX12_presentWeight : ByteArray := prog_14_method_6_code
def yX12_presentWeight : MethodName := ⟨RX12, "presentWeight", "()I"⟩
abbrev cX12_hasQuorum : ByteArray := prog_14_method_7_code
def yX12_hasQuorum : MethodName := ⟨RX12, "hasQuorum", "()Z"⟩
abbrev cX12_delegate : ByteArray := prog_14_method_8_code
def yX12_delegate : MethodName := ⟨RX12, "delegate", "(I)I"⟩
abbrev cX12_presence : ByteArray := prog_14_method_9_code
def yX12_presence : MethodName := ⟨RX12, "presence", "(II)I"⟩
abbrev cX12_quorum : ByteArray := prog_14_method_10_code
def yX12_quorum : MethodName := ⟨RX12, "quorum", "(I)I"⟩
abbrev cX12_isQuestion : ByteArray := prog_14_method_11_code
def yX12_isQuestion : MethodName := ⟨RX12, "isQuestion", "(I)Z"⟩
abbrev cX12_clause : ByteArray := prog_14_method_12_code
def yX12_clause : MethodName := ⟨RX12, "clause", "(I)I"⟩
abbrev cX12_begins : ByteArray := prog_14_method_13_code
def yX12_begins : MethodName := ⟨RX12, "begins", "([IIIII)I"⟩
abbrev cX12_changes : ByteArray := prog_14_method_14_code
def yX12_changes : MethodName := ⟨RX12, "changes", "([IIIIII)I"⟩
abbrev cX12_canAmend : ByteArray := prog_14_method_15_code
def yX12_canAmend : MethodName := ⟨RX12, "canAmend", "(III)Z"⟩
abbrev cX12_of : ByteArray := prog_14_method_16_code
def yX12_of : MethodName := ⟨RX12, "of", "(II)I"⟩
abbrev cX12_top : ByteArray := prog_14_method_17_code
def yX12_top : MethodName := ⟨RX12, "top", "()I"⟩
abbrev cX12_isSecondary : ByteArray := prog_14_method_18_code
def yX12_isSecondary : MethodName := ⟨RX12, "isSecondary", "(I)Z"⟩
abbrev cX12_pushes : ByteArray := prog_14_method_19_code
def yX12_pushes : MethodName := ⟨RX12, "pushes", "(IIIII)V"⟩
abbrev cX12_opensDebate : ByteArray := prog_14_method_20_code
def yX12_opensDebate : MethodName := ⟨RX12, "opensDebate", "()V"⟩
abbrev cX12_comesUp : ByteArray := prog_14_method_21_code
def yX12_comesUp : MethodName := ⟨RX12, "comesUp", "(I)V"⟩
abbrev cX12_waitsAlone : ByteArray := prog_14_method_22_code
def yX12_waitsAlone : MethodName := ⟨RX12, "waitsAlone", "(I)V"⟩
abbrev cX12_loneComesBack : ByteArray := prog_14_method_23_code
def yX12_loneComesBack : MethodName := ⟨RX12, "loneComesBack", "(I)V"⟩
abbrev cX12_putsAway : ByteArray := prog_14_method_24_code
def yX12_putsAway : MethodName := ⟨RX12, "putsAway", "(II)V"⟩
abbrev cX12_comesBack : ByteArray := prog_14_method_25_code
def yX12_comesBack : MethodName := ⟨RX12, "comesBack", "(I)V"⟩
abbrev cX12_writes : ByteArray := prog_14_method_26_code
def yX12_writes : MethodName := ⟨RX12, "writes", "(III)V"⟩
abbrev cX12_tellsChange : ByteArray := prog_14_method_27_code
def yX12_tellsChange : MethodName := ⟨RX12, "tellsChange", "(IIII)V"⟩
abbrev cX12_isUnneeded : ByteArray := prog_14_method_28_code
def yX12_isUnneeded : MethodName := ⟨RX12, "isUnneeded", "(IIII)Z"⟩
abbrev cX12_isAmendment : ByteArray := prog_14_method_29_code
def yX12_isAmendment : MethodName := ⟨RX12, "isAmendment", "(III)Z"⟩
abbrev cX12_areNumbers : ByteArray := prog_14_method_30_code
def yX12_areNumbers : MethodName := ⟨RX12, "areNumbers", "(IIIII)Z"⟩
abbrev cX12_hasRoom : ByteArray := prog_14_method_31_code
def yX12_hasRoom : MethodName := ⟨RX12, "hasRoom", "(II)Z"⟩
abbrev cX12_ruleFor : ByteArray := prog_14_method_32_code
def yX12_ruleFor : MethodName := ⟨RX12, "ruleFor", "(IIIII)I"⟩
abbrev cX12_notMotion : ByteArray := prog_14_method_33_code
def yX12_notMotion : MethodName := ⟨RX12, "notMotion", "(IIIII)I"⟩
abbrev cX12_rule : ByteArray := prog_14_method_34_code
def yX12_rule : MethodName := ⟨RX12, "rule", "(IIIII)I"⟩
abbrev cX12_move : ByteArray := prog_14_method_35_code
def yX12_move : MethodName := ⟨RX12, "move", "(IIIII)I"⟩
abbrev cX12_isAdopted : ByteArray := prog_14_method_36_code
def yX12_isAdopted : MethodName := ⟨RX12, "isAdopted", "(III)Z"⟩
abbrev cX12_ends : ByteArray := prog_14_method_37_code
def yX12_ends : MethodName := ⟨RX12, "ends", "(II)V"⟩
abbrev cX12_resolves : ByteArray := prog_14_method_38_code
def yX12_resolves : MethodName := ⟨RX12, "resolves", "(I)V"⟩
abbrev cX12_unresolves : ByteArray := prog_14_method_39_code
def yX12_unresolves : MethodName := ⟨RX12, "unresolves", "(I)V"⟩
abbrev cX12_amends : ByteArray := prog_14_method_40_code
def yX12_amends : MethodName := ⟨RX12, "amends", "(IIIZ)V"⟩
abbrev cX12_takesEffect : ByteArray := prog_14_method_41_code
def yX12_takesEffect : MethodName := ⟨RX12, "takesEffect", "(IIIIZ)V"⟩
abbrev cX12_keepsVote : ByteArray := prog_14_method_42_code
def yX12_keepsVote : MethodName := ⟨RX12, "keepsVote", "(IIZI)V"⟩
abbrev cX12_presentOf : ByteArray := prog_14_method_43_code
def yX12_presentOf : MethodName := ⟨RX12, "presentOf", "(I)I"⟩
abbrev cX12_decide : ByteArray := prog_14_method_44_code
def yX12_decide : MethodName := ⟨RX12, "decide", "(II)I"⟩
abbrev cX12_speak : ByteArray := prog_14_method_45_code
def yX12_speak : MethodName := ⟨RX12, "speak", "(I)I"⟩
abbrev cX12_divide : ByteArray := prog_14_method_46_code
def yX12_divide : MethodName := ⟨RX12, "divide", "(I)I"⟩
abbrev cX12_report : ByteArray := prog_14_method_47_code
def yX12_report : MethodName := ⟨RX12, "report", "(I)I"⟩
abbrev cX12_nextWaiting : ByteArray := prog_14_method_48_code
def yX12_nextWaiting : MethodName := ⟨RX12, "nextWaiting", "()I"⟩
abbrev cX12_nextLone : ByteArray := prog_14_method_49_code
def yX12_nextLone : MethodName := ⟨RX12, "nextLone", "()I"⟩
abbrev cX12_isSooner : ByteArray := prog_14_method_50_code
def yX12_isSooner : MethodName := ⟨RX12, "isSooner", "(II)Z"⟩
abbrev cX12_next : ByteArray := prog_14_method_51_code
def yX12_next : MethodName := ⟨RX12, "next", "()I"⟩
abbrev cX12_pass : ByteArray := prog_14_method_52_code
def yX12_pass : MethodName := ⟨RX12, "pass", "(I)I"⟩
abbrev cX12_open : ByteArray := prog_14_method_53_code
def yX12_open : MethodName := ⟨RX12, "open", "()I"⟩
abbrev cX12_pending : ByteArray := prog_14_method_54_code
def yX12_pending : MethodName := ⟨RX12, "pending", "(II)I"⟩
abbrev cX12_text : ByteArray := prog_14_method_55_code
def yX12_text : MethodName := ⟨RX12, "text", "(II)I"⟩
abbrev cX12_question : ByteArray := prog_14_method_56_code
def yX12_question : MethodName := ⟨RX12, "question", "(II)I"⟩
abbrev cX12_findDraft : ByteArray := prog_14_method_57_code
def yX12_findDraft : MethodName := ⟨RX12, "findDraft", "()I"⟩
abbrev cX12_draft : ByteArray := prog_14_method_58_code
def yX12_draft : MethodName := ⟨RX12, "draft", "(I)I"⟩
abbrev cX12_resolution : ByteArray := prog_14_method_59_code
def yX12_resolution : MethodName := ⟨RX12, "resolution", "(II)I"⟩
abbrev cX12_replayed : ByteArray := prog_14_method_60_code
def yX12_replayed : MethodName := ⟨RX12, "replayed", "(I)I"⟩
abbrev cX12_entry : ByteArray := prog_14_method_61_code
def yX12_entry : MethodName := ⟨RX12, "entry", "(II)I"⟩
abbrev cX12_share : ByteArray := prog_14_method_62_code
def yX12_share : MethodName := ⟨RX12, "share", "(II)F"⟩
abbrev cX12_vote : ByteArray := prog_14_method_63_code
def yX12_vote : MethodName := ⟨RX12, "vote", "(I)I"⟩
abbrev cX12_questionsIn : ByteArray := prog_14_method_64_code
def yX12_questionsIn : MethodName := ⟨RX12, "questionsIn", "(I)I"⟩
abbrev cX12_allPending : ByteArray := prog_14_method_65_code
def yX12_allPending : MethodName := ⟨RX12, "allPending", "()I"⟩
abbrev cX12_countOfMeeting : ByteArray := prog_14_method_66_code
def yX12_countOfMeeting : MethodName := ⟨RX12, "countOfMeeting", "(I)I"⟩
abbrev cX12_count : ByteArray := prog_14_method_67_code
def yX12_count : MethodName := ⟨RX12, "count", "(I)I"⟩
abbrev cX12_isRow : ByteArray := prog_14_method_68_code
def yX12_isRow : MethodName := ⟨RX12, "isRow", "(I)Z"⟩
abbrev cX12_store : ByteArray := prog_14_method_69_code
def yX12_store : MethodName := ⟨RX12, "store", "(III)I"⟩
abbrev cX12_copy : ByteArray := prog_14_method_70_code
def yX12_copy : MethodName := ⟨RX12, "copy", "(III)I"⟩
abbrev cX12_again : ByteArray := prog_14_method_71_code
def yX12_again : MethodName := ⟨RX12, "again", "(II)I"⟩
abbrev cX12_element : ByteArray := prog_14_method_72_code
def yX12_element : MethodName := ⟨RX12, "element", "(II)J"⟩
abbrev cX12_hands : ByteArray := prog_14_method_73_code
def yX12_hands : MethodName := ⟨RX12, "hands", "([I)V"⟩
abbrev cX12_hand : ByteArray := prog_14_method_74_code
def yX12_hand : MethodName := ⟨RX12, "hand", "(I)I"⟩
abbrev cX12_handsRows : ByteArray := prog_14_method_75_code
def yX12_handsRows : MethodName := ⟨RX12, "handsRows", "()V"⟩
abbrev cX12_handsAll : ByteArray := prog_14_method_76_code
def yX12_handsAll : MethodName := ⟨RX12, "handsAll", "(Z)V"⟩
abbrev cX12_handsLast : ByteArray := prog_14_method_77_code
def yX12_handsLast : MethodName := ⟨RX12, "handsLast", "()V"⟩
abbrev cX12_image : ByteArray := prog_14_method_78_code
def yX12_image : MethodName := ⟨RX12, "image", "()I"⟩
abbrev cX12_undo : ByteArray := prog_14_method_79_code
def yX12_undo : MethodName := ⟨RX12, "undo", "()I"⟩
def RJxf58ca : String := "java/lang/Float"
def TJxf58ca : u_T := fun k => match k with
  | _ => ("", "", "", false)
def tyJxf58ca : Nat → FieldType := fun k => match k with
  | _ => .int
abbrev wsJxf58ca0 : List Cond := u_ws RJxf58ca TJxf58ca 0
theorem nmJxf58ca : ∀ a, a < 0 → ∀ b, b < 0 → a ≠ b → (TJxf58ca a).2.1 ≠ (TJxf58ca b).2.1 := by decide +kernel
theorem tyJxf58ca_ok : ∀ k, k < 0 → parseFieldDescriptor (TJxf58ca k).2.2.1 = some (tyJxf58ca k) := by decide +kernel
abbrev cJxf58ca_isNaN_12338 : ByteArray := prog_15_method_6_code
def yJxf58ca_isNaN_12338 : MethodName := ⟨RJxf58ca, "isNaN", "(F)Z"⟩
abbrev cJxf58ca_floatToIntBits_5c35a : ByteArray := prog_15_method_24_code
def yJxf58ca_floatToIntBits_5c35a : MethodName := ⟨RJxf58ca, "floatToIntBits", "(F)I"⟩
def RJ9 : String := "java/lang/Math"
def TJ9 : u_T := fun k => match k with
  | _ => ("", "", "", false)
def tyJ9 : Nat → FieldType := fun k => match k with
  | _ => .int
abbrev wsJ90 : List Cond := u_ws RJ9 TJ9 0
theorem nmJ9 : ∀ a, a < 0 → ∀ b, b < 0 → a ≠ b → (TJ9 a).2.1 ≠ (TJ9 b).2.1 := by decide +kernel
theorem tyJ9_ok : ∀ k, k < 0 → parseFieldDescriptor (TJ9 k).2.2.1 = some (tyJ9 k) := by decide +kernel
abbrev cJ9_max_7cf53 : ByteArray := prog_16_method_65_code
def yJ9_max_7cf53 : MethodName := ⟨RJ9, "max", "(II)I"⟩
abbrev cJ9_min_7cf53 : ByteArray := prog_16_method_69_code
def yJ9_min_7cf53 : MethodName := ⟨RJ9, "min", "(II)I"⟩
def RJ10 : String := "java/lang/System"
def TJ10 : u_T := fun k => match k with
  | _ => ("", "", "", false)
def tyJ10 : Nat → FieldType := fun k => match k with
  | _ => .int
abbrev wsJ100 : List Cond := u_ws RJ10 TJ10 0
theorem nmJ10 : ∀ a, a < 0 → ∀ b, b < 0 → a ≠ b → (TJ10 a).2.1 ≠ (TJ10 b).2.1 := by decide +kernel
theorem tyJ10_ok : ∀ k, k < 0 → parseFieldDescriptor (TJ10 k).2.2.1 = some (tyJ10 k) := by decide +kernel
def RL : String := "AssemblyChairLaw"
abbrev cL_law : ByteArray := code
def yL_law : MethodName := ⟨RL, "law", "([I)Z"⟩
abbrev vwCl : List vw_C := [(RX0, TX0, 13), (RX1, TX1, 3), (RX2, TX2, 4), (RX3, TX3, 5), (RX4, TX4, 13), (RX5, TX5, 7), (RX6, TX6, 8), (RX7, TX7, 7), (RX8, TX8, 3), (RX9, TX9, 4), (RX10, TX10, 2), (RX11, TX11, 5), (RX12, TX12, 63)]
