section
-- ===== PART A: goes FIRST, ahead of the names: the tables' words, and 'selects' of the private methods out of them =====
/-- a private method of a class that the tables say can be made, by its rows of tables_1 -/
def lw_okq (q : MethodName × Nat) : Prop := (q.1.cls ≠ "java/lang/invoke/MethodHandle" ∧ q.1.cls ≠ "java/lang/invoke/VarHandle") ∧ Cond.instantiable q.1.cls q.2 ∈ tables_1 ∧ Cond.privateMethod q.1 ∈ tables_1 ∧ Cond.instanceMethod q.1 ∈ tables_1
theorem lw_p0 : lw_okq (⟨"CueStack", "isFreeNumber", "(I)Z"⟩, 7) := ⟨⟨by decide +kernel, by decide +kernel⟩, List.mem_of_getElem? (i := 26) (by decide +kernel), List.mem_of_getElem? (i := 309) (by decide +kernel), List.mem_of_getElem? (i := 310) (by decide +kernel)⟩
theorem lw_p1 : lw_okq (⟨"java/lang/Throwable", "fillInStackTrace", "(I)Ljava/lang/Throwable;"⟩, 6) := ⟨⟨by decide +kernel, by decide +kernel⟩, List.mem_of_getElem? (i := 360) (by decide +kernel), List.mem_of_getElem? (i := 358) (by decide +kernel), List.mem_of_getElem? (i := 359) (by decide +kernel)⟩
theorem lw_p2 : lw_okq (⟨"CueStack$CueList", "needsHold", "(III)Z"⟩, 7) := ⟨⟨by decide +kernel, by decide +kernel⟩, List.mem_of_getElem? (i := 40) (by decide +kernel), List.mem_of_getElem? (i := 475) (by decide +kernel), List.mem_of_getElem? (i := 476) (by decide +kernel)⟩
theorem lw_p3 : lw_okq (⟨"CueStack$CueList", "refusal", "(III)I"⟩, 7) := ⟨⟨by decide +kernel, by decide +kernel⟩, List.mem_of_getElem? (i := 40) (by decide +kernel), List.mem_of_getElem? (i := 483) (by decide +kernel), List.mem_of_getElem? (i := 484) (by decide +kernel)⟩
theorem lw_p4 : lw_okq (⟨"CueStack", "keepIfRefused", "(I)Z"⟩, 7) := ⟨⟨by decide +kernel, by decide +kernel⟩, List.mem_of_getElem? (i := 26) (by decide +kernel), List.mem_of_getElem? (i := 487) (by decide +kernel), List.mem_of_getElem? (i := 488) (by decide +kernel)⟩
theorem lw_p5 : lw_okq (⟨"CueStack$CueList", "deleteCue", "(I)I"⟩, 7) := ⟨⟨by decide +kernel, by decide +kernel⟩, List.mem_of_getElem? (i := 40) (by decide +kernel), List.mem_of_getElem? (i := 511) (by decide +kernel), List.mem_of_getElem? (i := 512) (by decide +kernel)⟩
theorem lw_p6 : lw_okq (⟨"CueStack$CueList", "deleteInstruction", "(II)V"⟩, 7) := ⟨⟨by decide +kernel, by decide +kernel⟩, List.mem_of_getElem? (i := 40) (by decide +kernel), List.mem_of_getElem? (i := 515) (by decide +kernel), List.mem_of_getElem? (i := 516) (by decide +kernel)⟩
theorem lw_p7 : lw_okq (⟨"CueStack$CueList", "putInstruction", "(IIII)V"⟩, 7) := ⟨⟨by decide +kernel, by decide +kernel⟩, List.mem_of_getElem? (i := 40) (by decide +kernel), List.mem_of_getElem? (i := 519) (by decide +kernel), List.mem_of_getElem? (i := 520) (by decide +kernel)⟩
theorem lw_p8 : lw_okq (⟨"CueStack$CueList", "changedFrom", "(III)I"⟩, 7) := ⟨⟨by decide +kernel, by decide +kernel⟩, List.mem_of_getElem? (i := 40) (by decide +kernel), List.mem_of_getElem? (i := 655) (by decide +kernel), List.mem_of_getElem? (i := 656) (by decide +kernel)⟩
theorem lw_p9 : lw_okq (⟨"CueStack$CueList", "levelWithoutInstruction", "(II)I"⟩, 7) := ⟨⟨by decide +kernel, by decide +kernel⟩, List.mem_of_getElem? (i := 40) (by decide +kernel), List.mem_of_getElem? (i := 678) (by decide +kernel), List.mem_of_getElem? (i := 679) (by decide +kernel)⟩
theorem lw_p10 : lw_okq (⟨"CueStack$Playback", "beginFade", "(IIII)V"⟩, 9) := ⟨⟨by decide +kernel, by decide +kernel⟩, List.mem_of_getElem? (i := 125) (by decide +kernel), List.mem_of_getElem? (i := 774) (by decide +kernel), List.mem_of_getElem? (i := 775) (by decide +kernel)⟩
theorem lw_p11 : lw_okq (⟨"CueStack$Input", "readSign", "(C)Z"⟩, 5) := ⟨⟨by decide +kernel, by decide +kernel⟩, List.mem_of_getElem? (i := 192) (by decide +kernel), List.mem_of_getElem? (i := 938) (by decide +kernel), List.mem_of_getElem? (i := 939) (by decide +kernel)⟩
theorem lw_p12 : lw_okq (⟨"CueStack$Input", "readNumber", "(I)Z"⟩, 5) := ⟨⟨by decide +kernel, by decide +kernel⟩, List.mem_of_getElem? (i := 192) (by decide +kernel), List.mem_of_getElem? (i := 942) (by decide +kernel), List.mem_of_getElem? (i := 943) (by decide +kernel)⟩
theorem lw_p13 : lw_okq (⟨"CueStack$Input", "mostDigits", "(I)I"⟩, 5) := ⟨⟨by decide +kernel, by decide +kernel⟩, List.mem_of_getElem? (i := 192) (by decide +kernel), List.mem_of_getElem? (i := 946) (by decide +kernel), List.mem_of_getElem? (i := 947) (by decide +kernel)⟩
theorem lw_p14 : lw_okq (⟨"CueStack", "performEntry", "()Z"⟩, 7) := ⟨⟨by decide +kernel, by decide +kernel⟩, List.mem_of_getElem? (i := 26) (by decide +kernel), List.mem_of_getElem? (i := 956) (by decide +kernel), List.mem_of_getElem? (i := 957) (by decide +kernel)⟩
theorem lw_p15 : lw_okq (⟨"CueStack", "performAdd", "(I)Z"⟩, 7) := ⟨⟨by decide +kernel, by decide +kernel⟩, List.mem_of_getElem? (i := 26) (by decide +kernel), List.mem_of_getElem? (i := 960) (by decide +kernel), List.mem_of_getElem? (i := 961) (by decide +kernel)⟩
def lw_privs_1 : List (MethodName × Nat) := [(⟨"CueStack", "isFreeNumber", "(I)Z"⟩, 7), (⟨"java/lang/Throwable", "fillInStackTrace", "(I)Ljava/lang/Throwable;"⟩, 6), (⟨"CueStack$CueList", "needsHold", "(III)Z"⟩, 7), (⟨"CueStack$CueList", "refusal", "(III)I"⟩, 7), (⟨"CueStack", "keepIfRefused", "(I)Z"⟩, 7), (⟨"CueStack$CueList", "deleteCue", "(I)I"⟩, 7), (⟨"CueStack$CueList", "deleteInstruction", "(II)V"⟩, 7), (⟨"CueStack$CueList", "putInstruction", "(IIII)V"⟩, 7), (⟨"CueStack$CueList", "changedFrom", "(III)I"⟩, 7), (⟨"CueStack$CueList", "levelWithoutInstruction", "(II)I"⟩, 7), (⟨"CueStack$Playback", "beginFade", "(IIII)V"⟩, 9), (⟨"CueStack$Input", "readSign", "(C)Z"⟩, 5), (⟨"CueStack$Input", "readNumber", "(I)Z"⟩, 5), (⟨"CueStack$Input", "mostDigits", "(I)I"⟩, 5), (⟨"CueStack", "performEntry", "()Z"⟩, 7), (⟨"CueStack", "performAdd", "(I)Z"⟩, 7)]
theorem lw_r1 : ∀ q ∈ lw_privs_1, lw_okq q := List.forall_mem_cons.mpr ⟨lw_p0, List.forall_mem_cons.mpr ⟨lw_p1, List.forall_mem_cons.mpr ⟨lw_p2, List.forall_mem_cons.mpr ⟨lw_p3, List.forall_mem_cons.mpr ⟨lw_p4, List.forall_mem_cons.mpr ⟨lw_p5, List.forall_mem_cons.mpr ⟨lw_p6, List.forall_mem_cons.mpr ⟨lw_p7, List.forall_mem_cons.mpr ⟨lw_p8, List.forall_mem_cons.mpr ⟨lw_p9, List.forall_mem_cons.mpr ⟨lw_p10, List.forall_mem_cons.mpr ⟨lw_p11, List.forall_mem_cons.mpr ⟨lw_p12, List.forall_mem_cons.mpr ⟨lw_p13, List.forall_mem_cons.mpr ⟨lw_p14, List.forall_mem_cons.mpr ⟨lw_p15, fun _ h => absurd h List.not_mem_nil⟩⟩⟩⟩⟩⟩⟩⟩⟩⟩⟩⟩⟩⟩⟩⟩
theorem lw_p16 : lw_okq (⟨"CueStack", "performRemove", "(I)Z"⟩, 7) := ⟨⟨by decide +kernel, by decide +kernel⟩, List.mem_of_getElem? (i := 26) (by decide +kernel), List.mem_of_getElem? (i := 964) (by decide +kernel), List.mem_of_getElem? (i := 965) (by decide +kernel)⟩
theorem lw_p17 : lw_okq (⟨"CueStack", "performGive", "(III)Z"⟩, 7) := ⟨⟨by decide +kernel, by decide +kernel⟩, List.mem_of_getElem? (i := 26) (by decide +kernel), List.mem_of_getElem? (i := 968) (by decide +kernel), List.mem_of_getElem? (i := 969) (by decide +kernel)⟩
theorem lw_p18 : lw_okq (⟨"CueStack", "performGo", "()Z"⟩, 7) := ⟨⟨by decide +kernel, by decide +kernel⟩, List.mem_of_getElem? (i := 26) (by decide +kernel), List.mem_of_getElem? (i := 972) (by decide +kernel), List.mem_of_getElem? (i := 973) (by decide +kernel)⟩
theorem lw_p19 : lw_okq (⟨"CueStack", "performJump", "(I)Z"⟩, 7) := ⟨⟨by decide +kernel, by decide +kernel⟩, List.mem_of_getElem? (i := 26) (by decide +kernel), List.mem_of_getElem? (i := 976) (by decide +kernel), List.mem_of_getElem? (i := 977) (by decide +kernel)⟩
theorem lw_p20 : lw_okq (⟨"CueStack", "performPass", "(I)Z"⟩, 7) := ⟨⟨by decide +kernel, by decide +kernel⟩, List.mem_of_getElem? (i := 26) (by decide +kernel), List.mem_of_getElem? (i := 980) (by decide +kernel), List.mem_of_getElem? (i := 981) (by decide +kernel)⟩
theorem lw_p21 : lw_okq (⟨"CueStackModel", "begin", "()V"⟩, 17) := ⟨⟨by decide +kernel, by decide +kernel⟩, List.mem_of_getElem? (i := 1018) (by decide +kernel), List.mem_of_getElem? (i := 1024) (by decide +kernel), List.mem_of_getElem? (i := 1025) (by decide +kernel)⟩
theorem lw_p22 : lw_okq (⟨"CueStackModel", "keepState", "()V"⟩, 17) := ⟨⟨by decide +kernel, by decide +kernel⟩, List.mem_of_getElem? (i := 1018) (by decide +kernel), List.mem_of_getElem? (i := 1092) (by decide +kernel), List.mem_of_getElem? (i := 1093) (by decide +kernel)⟩
theorem lw_p23 : lw_okq (⟨"CueStackModel", "doAdd", "(I)I"⟩, 17) := ⟨⟨by decide +kernel, by decide +kernel⟩, List.mem_of_getElem? (i := 1018) (by decide +kernel), List.mem_of_getElem? (i := 1097) (by decide +kernel), List.mem_of_getElem? (i := 1098) (by decide +kernel)⟩
theorem lw_p24 : lw_okq (⟨"CueStackModel", "isCue", "(I)Z"⟩, 17) := ⟨⟨by decide +kernel, by decide +kernel⟩, List.mem_of_getElem? (i := 1018) (by decide +kernel), List.mem_of_getElem? (i := 1104) (by decide +kernel), List.mem_of_getElem? (i := 1105) (by decide +kernel)⟩
theorem lw_p25 : lw_okq (⟨"CueStackModel", "placeOf", "(I)I"⟩, 17) := ⟨⟨by decide +kernel, by decide +kernel⟩, List.mem_of_getElem? (i := 1018) (by decide +kernel), List.mem_of_getElem? (i := 1108) (by decide +kernel), List.mem_of_getElem? (i := 1109) (by decide +kernel)⟩
theorem lw_p26 : lw_okq (⟨"CueStackModel", "change", "()V"⟩, 17) := ⟨⟨by decide +kernel, by decide +kernel⟩, List.mem_of_getElem? (i := 1018) (by decide +kernel), List.mem_of_getElem? (i := 1115) (by decide +kernel), List.mem_of_getElem? (i := 1116) (by decide +kernel)⟩
theorem lw_p27 : lw_okq (⟨"CueStackModel", "changes", "()V"⟩, 17) := ⟨⟨by decide +kernel, by decide +kernel⟩, List.mem_of_getElem? (i := 1018) (by decide +kernel), List.mem_of_getElem? (i := 1127) (by decide +kernel), List.mem_of_getElem? (i := 1128) (by decide +kernel)⟩
theorem lw_p28 : lw_okq (⟨"CueStackModel", "keepLevels", "()V"⟩, 17) := ⟨⟨by decide +kernel, by decide +kernel⟩, List.mem_of_getElem? (i := 1018) (by decide +kernel), List.mem_of_getElem? (i := 1135) (by decide +kernel), List.mem_of_getElem? (i := 1136) (by decide +kernel)⟩
theorem lw_p29 : lw_okq (⟨"CueStackModel", "levelIn", "(II)I"⟩, 17) := ⟨⟨by decide +kernel, by decide +kernel⟩, List.mem_of_getElem? (i := 1018) (by decide +kernel), List.mem_of_getElem? (i := 1139) (by decide +kernel), List.mem_of_getElem? (i := 1140) (by decide +kernel)⟩
theorem lw_p30 : lw_okq (⟨"CueStackModel", "given", "(II)I"⟩, 17) := ⟨⟨by decide +kernel, by decide +kernel⟩, List.mem_of_getElem? (i := 1018) (by decide +kernel), List.mem_of_getElem? (i := 1143) (by decide +kernel), List.mem_of_getElem? (i := 1144) (by decide +kernel)⟩
theorem lw_p31 : lw_okq (⟨"CueStackModel", "isBlock", "(I)Z"⟩, 17) := ⟨⟨by decide +kernel, by decide +kernel⟩, List.mem_of_getElem? (i := 1018) (by decide +kernel), List.mem_of_getElem? (i := 1147) (by decide +kernel), List.mem_of_getElem? (i := 1148) (by decide +kernel)⟩
def lw_privs_2 : List (MethodName × Nat) := [(⟨"CueStack", "performRemove", "(I)Z"⟩, 7), (⟨"CueStack", "performGive", "(III)Z"⟩, 7), (⟨"CueStack", "performGo", "()Z"⟩, 7), (⟨"CueStack", "performJump", "(I)Z"⟩, 7), (⟨"CueStack", "performPass", "(I)Z"⟩, 7), (⟨"CueStackModel", "begin", "()V"⟩, 17), (⟨"CueStackModel", "keepState", "()V"⟩, 17), (⟨"CueStackModel", "doAdd", "(I)I"⟩, 17), (⟨"CueStackModel", "isCue", "(I)Z"⟩, 17), (⟨"CueStackModel", "placeOf", "(I)I"⟩, 17), (⟨"CueStackModel", "change", "()V"⟩, 17), (⟨"CueStackModel", "changes", "()V"⟩, 17), (⟨"CueStackModel", "keepLevels", "()V"⟩, 17), (⟨"CueStackModel", "levelIn", "(II)I"⟩, 17), (⟨"CueStackModel", "given", "(II)I"⟩, 17), (⟨"CueStackModel", "isBlock", "(I)Z"⟩, 17)]
theorem lw_r2 : ∀ q ∈ lw_privs_2, lw_okq q := List.forall_mem_cons.mpr ⟨lw_p16, List.forall_mem_cons.mpr ⟨lw_p17, List.forall_mem_cons.mpr ⟨lw_p18, List.forall_mem_cons.mpr ⟨lw_p19, List.forall_mem_cons.mpr ⟨lw_p20, List.forall_mem_cons.mpr ⟨lw_p21, List.forall_mem_cons.mpr ⟨lw_p22, List.forall_mem_cons.mpr ⟨lw_p23, List.forall_mem_cons.mpr ⟨lw_p24, List.forall_mem_cons.mpr ⟨lw_p25, List.forall_mem_cons.mpr ⟨lw_p26, List.forall_mem_cons.mpr ⟨lw_p27, List.forall_mem_cons.mpr ⟨lw_p28, List.forall_mem_cons.mpr ⟨lw_p29, List.forall_mem_cons.mpr ⟨lw_p30, List.forall_mem_cons.mpr ⟨lw_p31, fun _ h => absurd h List.not_mem_nil⟩⟩⟩⟩⟩⟩⟩⟩⟩⟩⟩⟩⟩⟩⟩⟩
theorem lw_p32 : lw_okq (⟨"CueStackModel", "partAt", "(IIZ)I"⟩, 17) := ⟨⟨by decide +kernel, by decide +kernel⟩, List.mem_of_getElem? (i := 1018) (by decide +kernel), List.mem_of_getElem? (i := 1162) (by decide +kernel), List.mem_of_getElem? (i := 1163) (by decide +kernel)⟩
theorem lw_p33 : lw_okq (⟨"CueStackModel", "countOf", "(I)I"⟩, 17) := ⟨⟨by decide +kernel, by decide +kernel⟩, List.mem_of_getElem? (i := 1018) (by decide +kernel), List.mem_of_getElem? (i := 1174) (by decide +kernel), List.mem_of_getElem? (i := 1175) (by decide +kernel)⟩
theorem lw_p34 : lw_okq (⟨"CueStackModel", "moves", "(II)Z"⟩, 17) := ⟨⟨by decide +kernel, by decide +kernel⟩, List.mem_of_getElem? (i := 1018) (by decide +kernel), List.mem_of_getElem? (i := 1178) (by decide +kernel), List.mem_of_getElem? (i := 1179) (by decide +kernel)⟩
theorem lw_p35 : lw_okq (⟨"CueStackModel", "lengthOf", "(II)I"⟩, 17) := ⟨⟨by decide +kernel, by decide +kernel⟩, List.mem_of_getElem? (i := 1018) (by decide +kernel), List.mem_of_getElem? (i := 1182) (by decide +kernel), List.mem_of_getElem? (i := 1183) (by decide +kernel)⟩
theorem lw_p36 : lw_okq (⟨"CueStackModel", "partOf", "(II)I"⟩, 17) := ⟨⟨by decide +kernel, by decide +kernel⟩, List.mem_of_getElem? (i := 1018) (by decide +kernel), List.mem_of_getElem? (i := 1186) (by decide +kernel), List.mem_of_getElem? (i := 1187) (by decide +kernel)⟩
theorem lw_p37 : lw_okq (⟨"CueStackModel", "doGive", "(IIIIZ)I"⟩, 17) := ⟨⟨by decide +kernel, by decide +kernel⟩, List.mem_of_getElem? (i := 1018) (by decide +kernel), List.mem_of_getElem? (i := 1202) (by decide +kernel), List.mem_of_getElem? (i := 1203) (by decide +kernel)⟩
theorem lw_p38 : lw_okq (⟨"CueStackModel", "giveHeld", "(IIIIZ)I"⟩, 17) := ⟨⟨by decide +kernel, by decide +kernel⟩, List.mem_of_getElem? (i := 1018) (by decide +kernel), List.mem_of_getElem? (i := 1206) (by decide +kernel), List.mem_of_getElem? (i := 1207) (by decide +kernel)⟩
theorem lw_p39 : lw_okq (⟨"CueStackModel", "wouldHoldProtected", "(III)Z"⟩, 17) := ⟨⟨by decide +kernel, by decide +kernel⟩, List.mem_of_getElem? (i := 1018) (by decide +kernel), List.mem_of_getElem? (i := 1210) (by decide +kernel), List.mem_of_getElem? (i := 1211) (by decide +kernel)⟩
theorem lw_p40 : lw_okq (⟨"CueStackModel", "give", "(IIII)V"⟩, 17) := ⟨⟨by decide +kernel, by decide +kernel⟩, List.mem_of_getElem? (i := 1018) (by decide +kernel), List.mem_of_getElem? (i := 1214) (by decide +kernel), List.mem_of_getElem? (i := 1215) (by decide +kernel)⟩
theorem lw_p41 : lw_okq (⟨"CueStackModel", "hold", "(II)I"⟩, 17) := ⟨⟨by decide +kernel, by decide +kernel⟩, List.mem_of_getElem? (i := 1018) (by decide +kernel), List.mem_of_getElem? (i := 1218) (by decide +kernel), List.mem_of_getElem? (i := 1219) (by decide +kernel)⟩
theorem lw_p42 : lw_okq (⟨"CueStackModel", "refuse", "(I)I"⟩, 17) := ⟨⟨by decide +kernel, by decide +kernel⟩, List.mem_of_getElem? (i := 1018) (by decide +kernel), List.mem_of_getElem? (i := 1222) (by decide +kernel), List.mem_of_getElem? (i := 1223) (by decide +kernel)⟩
theorem lw_p43 : lw_okq (⟨"CueStackModel", "changed", "(I)I"⟩, 17) := ⟨⟨by decide +kernel, by decide +kernel⟩, List.mem_of_getElem? (i := 1018) (by decide +kernel), List.mem_of_getElem? (i := 1226) (by decide +kernel), List.mem_of_getElem? (i := 1227) (by decide +kernel)⟩
theorem lw_p44 : lw_okq (⟨"CueStackModel", "takeHeld", "(IIZ)I"⟩, 17) := ⟨⟨by decide +kernel, by decide +kernel⟩, List.mem_of_getElem? (i := 1018) (by decide +kernel), List.mem_of_getElem? (i := 1238) (by decide +kernel), List.mem_of_getElem? (i := 1239) (by decide +kernel)⟩
theorem lw_p45 : lw_okq (⟨"CueStackModel", "takeAway", "(I)V"⟩, 17) := ⟨⟨by decide +kernel, by decide +kernel⟩, List.mem_of_getElem? (i := 1018) (by decide +kernel), List.mem_of_getElem? (i := 1242) (by decide +kernel), List.mem_of_getElem? (i := 1243) (by decide +kernel)⟩
theorem lw_p46 : lw_okq (⟨"CueStackModel", "doRemove", "(IZ)I"⟩, 17) := ⟨⟨by decide +kernel, by decide +kernel⟩, List.mem_of_getElem? (i := 1018) (by decide +kernel), List.mem_of_getElem? (i := 1250) (by decide +kernel), List.mem_of_getElem? (i := 1251) (by decide +kernel)⟩
theorem lw_p47 : lw_okq (⟨"CueStackModel", "steps", "(Z)I"⟩, 17) := ⟨⟨by decide +kernel, by decide +kernel⟩, List.mem_of_getElem? (i := 1018) (by decide +kernel), List.mem_of_getElem? (i := 1287) (by decide +kernel), List.mem_of_getElem? (i := 1288) (by decide +kernel)⟩
def lw_privs_3 : List (MethodName × Nat) := [(⟨"CueStackModel", "partAt", "(IIZ)I"⟩, 17), (⟨"CueStackModel", "countOf", "(I)I"⟩, 17), (⟨"CueStackModel", "moves", "(II)Z"⟩, 17), (⟨"CueStackModel", "lengthOf", "(II)I"⟩, 17), (⟨"CueStackModel", "partOf", "(II)I"⟩, 17), (⟨"CueStackModel", "doGive", "(IIIIZ)I"⟩, 17), (⟨"CueStackModel", "giveHeld", "(IIIIZ)I"⟩, 17), (⟨"CueStackModel", "wouldHoldProtected", "(III)Z"⟩, 17), (⟨"CueStackModel", "give", "(IIII)V"⟩, 17), (⟨"CueStackModel", "hold", "(II)I"⟩, 17), (⟨"CueStackModel", "refuse", "(I)I"⟩, 17), (⟨"CueStackModel", "changed", "(I)I"⟩, 17), (⟨"CueStackModel", "takeHeld", "(IIZ)I"⟩, 17), (⟨"CueStackModel", "takeAway", "(I)V"⟩, 17), (⟨"CueStackModel", "doRemove", "(IZ)I"⟩, 17), (⟨"CueStackModel", "steps", "(Z)I"⟩, 17)]
theorem lw_r3 : ∀ q ∈ lw_privs_3, lw_okq q := List.forall_mem_cons.mpr ⟨lw_p32, List.forall_mem_cons.mpr ⟨lw_p33, List.forall_mem_cons.mpr ⟨lw_p34, List.forall_mem_cons.mpr ⟨lw_p35, List.forall_mem_cons.mpr ⟨lw_p36, List.forall_mem_cons.mpr ⟨lw_p37, List.forall_mem_cons.mpr ⟨lw_p38, List.forall_mem_cons.mpr ⟨lw_p39, List.forall_mem_cons.mpr ⟨lw_p40, List.forall_mem_cons.mpr ⟨lw_p41, List.forall_mem_cons.mpr ⟨lw_p42, List.forall_mem_cons.mpr ⟨lw_p43, List.forall_mem_cons.mpr ⟨lw_p44, List.forall_mem_cons.mpr ⟨lw_p45, List.forall_mem_cons.mpr ⟨lw_p46, List.forall_mem_cons.mpr ⟨lw_p47, fun _ h => absurd h List.not_mem_nil⟩⟩⟩⟩⟩⟩⟩⟩⟩⟩⟩⟩⟩⟩⟩⟩
theorem lw_p48 : lw_okq (⟨"CueStackModel", "doGo", "(Z)I"⟩, 17) := ⟨⟨by decide +kernel, by decide +kernel⟩, List.mem_of_getElem? (i := 1018) (by decide +kernel), List.mem_of_getElem? (i := 1291) (by decide +kernel), List.mem_of_getElem? (i := 1292) (by decide +kernel)⟩
theorem lw_p49 : lw_okq (⟨"CueStackModel", "cueAhead", "(I)I"⟩, 17) := ⟨⟨by decide +kernel, by decide +kernel⟩, List.mem_of_getElem? (i := 1018) (by decide +kernel), List.mem_of_getElem? (i := 1295) (by decide +kernel), List.mem_of_getElem? (i := 1296) (by decide +kernel)⟩
theorem lw_p50 : lw_okq (⟨"CueStackModel", "nextCue", "(I)I"⟩, 17) := ⟨⟨by decide +kernel, by decide +kernel⟩, List.mem_of_getElem? (i := 1018) (by decide +kernel), List.mem_of_getElem? (i := 1299) (by decide +kernel), List.mem_of_getElem? (i := 1300) (by decide +kernel)⟩
theorem lw_p51 : lw_okq (⟨"CueStackModel", "goes", "(I)I"⟩, 17) := ⟨⟨by decide +kernel, by decide +kernel⟩, List.mem_of_getElem? (i := 1018) (by decide +kernel), List.mem_of_getElem? (i := 1303) (by decide +kernel), List.mem_of_getElem? (i := 1304) (by decide +kernel)⟩
theorem lw_p52 : lw_okq (⟨"CueStackModel", "nowOf", "(I)I"⟩, 17) := ⟨⟨by decide +kernel, by decide +kernel⟩, List.mem_of_getElem? (i := 1018) (by decide +kernel), List.mem_of_getElem? (i := 1310) (by decide +kernel), List.mem_of_getElem? (i := 1311) (by decide +kernel)⟩
theorem lw_p53 : lw_okq (⟨"CueStackModel", "doPass", "(I)I"⟩, 17) := ⟨⟨by decide +kernel, by decide +kernel⟩, List.mem_of_getElem? (i := 1018) (by decide +kernel), List.mem_of_getElem? (i := 1326) (by decide +kernel), List.mem_of_getElem? (i := 1327) (by decide +kernel)⟩
theorem lw_p54 : lw_okq (⟨"CueStackModel", "follows", "()Z"⟩, 17) := ⟨⟨by decide +kernel, by decide +kernel⟩, List.mem_of_getElem? (i := 1018) (by decide +kernel), List.mem_of_getElem? (i := 1331) (by decide +kernel), List.mem_of_getElem? (i := 1332) (by decide +kernel)⟩
theorem lw_p55 : lw_okq (⟨"CueStackModel", "fading", "()I"⟩, 17) := ⟨⟨by decide +kernel, by decide +kernel⟩, List.mem_of_getElem? (i := 1018) (by decide +kernel), List.mem_of_getElem? (i := 1347) (by decide +kernel), List.mem_of_getElem? (i := 1348) (by decide +kernel)⟩
theorem lw_p56 : lw_okq (⟨"CueStackModel", "isFading", "(I)Z"⟩, 17) := ⟨⟨by decide +kernel, by decide +kernel⟩, List.mem_of_getElem? (i := 1018) (by decide +kernel), List.mem_of_getElem? (i := 1351) (by decide +kernel), List.mem_of_getElem? (i := 1352) (by decide +kernel)⟩
theorem lw_p57 : lw_okq (⟨"CueStackModel", "overChannels", "(I)I"⟩, 17) := ⟨⟨by decide +kernel, by decide +kernel⟩, List.mem_of_getElem? (i := 1018) (by decide +kernel), List.mem_of_getElem? (i := 1363) (by decide +kernel), List.mem_of_getElem? (i := 1364) (by decide +kernel)⟩
theorem lw_p58 : lw_okq (⟨"CueStackModel", "overCues", "(I)I"⟩, 17) := ⟨⟨by decide +kernel, by decide +kernel⟩, List.mem_of_getElem? (i := 1018) (by decide +kernel), List.mem_of_getElem? (i := 1367) (by decide +kernel), List.mem_of_getElem? (i := 1368) (by decide +kernel)⟩
theorem lw_p59 : lw_okq (⟨"CueStackModel", "readEntry", "()V"⟩, 17) := ⟨⟨by decide +kernel, by decide +kernel⟩, List.mem_of_getElem? (i := 1018) (by decide +kernel), List.mem_of_getElem? (i := 1384) (by decide +kernel), List.mem_of_getElem? (i := 1385) (by decide +kernel)⟩
theorem lw_p60 : lw_okq (⟨"CueStackModel", "number", "(I)I"⟩, 17) := ⟨⟨by decide +kernel, by decide +kernel⟩, List.mem_of_getElem? (i := 1018) (by decide +kernel), List.mem_of_getElem? (i := 1471) (by decide +kernel), List.mem_of_getElem? (i := 1472) (by decide +kernel)⟩
theorem lw_p61 : lw_okq (⟨"CueStackModel", "isHere", "(CC)Z"⟩, 17) := ⟨⟨by decide +kernel, by decide +kernel⟩, List.mem_of_getElem? (i := 1018) (by decide +kernel), List.mem_of_getElem? (i := 1475) (by decide +kernel), List.mem_of_getElem? (i := 1476) (by decide +kernel)⟩
theorem lw_p62 : lw_okq (⟨"CueStackModel", "behind", "(CI)I"⟩, 17) := ⟨⟨by decide +kernel, by decide +kernel⟩, List.mem_of_getElem? (i := 1018) (by decide +kernel), List.mem_of_getElem? (i := 1479) (by decide +kernel), List.mem_of_getElem? (i := 1480) (by decide +kernel)⟩
theorem lw_p63 : lw_okq (⟨"CueStackModel", "sign", "(C)V"⟩, 17) := ⟨⟨by decide +kernel, by decide +kernel⟩, List.mem_of_getElem? (i := 1018) (by decide +kernel), List.mem_of_getElem? (i := 1483) (by decide +kernel), List.mem_of_getElem? (i := 1484) (by decide +kernel)⟩
def lw_privs_4 : List (MethodName × Nat) := [(⟨"CueStackModel", "doGo", "(Z)I"⟩, 17), (⟨"CueStackModel", "cueAhead", "(I)I"⟩, 17), (⟨"CueStackModel", "nextCue", "(I)I"⟩, 17), (⟨"CueStackModel", "goes", "(I)I"⟩, 17), (⟨"CueStackModel", "nowOf", "(I)I"⟩, 17), (⟨"CueStackModel", "doPass", "(I)I"⟩, 17), (⟨"CueStackModel", "follows", "()Z"⟩, 17), (⟨"CueStackModel", "fading", "()I"⟩, 17), (⟨"CueStackModel", "isFading", "(I)Z"⟩, 17), (⟨"CueStackModel", "overChannels", "(I)I"⟩, 17), (⟨"CueStackModel", "overCues", "(I)I"⟩, 17), (⟨"CueStackModel", "readEntry", "()V"⟩, 17), (⟨"CueStackModel", "number", "(I)I"⟩, 17), (⟨"CueStackModel", "isHere", "(CC)Z"⟩, 17), (⟨"CueStackModel", "behind", "(CI)I"⟩, 17), (⟨"CueStackModel", "sign", "(C)V"⟩, 17)]
theorem lw_r4 : ∀ q ∈ lw_privs_4, lw_okq q := List.forall_mem_cons.mpr ⟨lw_p48, List.forall_mem_cons.mpr ⟨lw_p49, List.forall_mem_cons.mpr ⟨lw_p50, List.forall_mem_cons.mpr ⟨lw_p51, List.forall_mem_cons.mpr ⟨lw_p52, List.forall_mem_cons.mpr ⟨lw_p53, List.forall_mem_cons.mpr ⟨lw_p54, List.forall_mem_cons.mpr ⟨lw_p55, List.forall_mem_cons.mpr ⟨lw_p56, List.forall_mem_cons.mpr ⟨lw_p57, List.forall_mem_cons.mpr ⟨lw_p58, List.forall_mem_cons.mpr ⟨lw_p59, List.forall_mem_cons.mpr ⟨lw_p60, List.forall_mem_cons.mpr ⟨lw_p61, List.forall_mem_cons.mpr ⟨lw_p62, List.forall_mem_cons.mpr ⟨lw_p63, fun _ h => absurd h List.not_mem_nil⟩⟩⟩⟩⟩⟩⟩⟩⟩⟩⟩⟩⟩⟩⟩⟩
theorem lw_p64 : lw_okq (⟨"CueStackModel", "fails", "(I)Z"⟩, 17) := ⟨⟨by decide +kernel, by decide +kernel⟩, List.mem_of_getElem? (i := 1018) (by decide +kernel), List.mem_of_getElem? (i := 1487) (by decide +kernel), List.mem_of_getElem? (i := 1488) (by decide +kernel)⟩
theorem lw_p65 : lw_okq (⟨"CueStackModel", "isTold", "(I)Z"⟩, 17) := ⟨⟨by decide +kernel, by decide +kernel⟩, List.mem_of_getElem? (i := 1018) (by decide +kernel), List.mem_of_getElem? (i := 1491) (by decide +kernel), List.mem_of_getElem? (i := 1492) (by decide +kernel)⟩
def lw_privs_5 : List (MethodName × Nat) := [(⟨"CueStackModel", "fails", "(I)Z"⟩, 17), (⟨"CueStackModel", "isTold", "(I)Z"⟩, 17)]
theorem lw_r5 : ∀ q ∈ lw_privs_5, lw_okq q := List.forall_mem_cons.mpr ⟨lw_p64, List.forall_mem_cons.mpr ⟨lw_p65, fun _ h => absurd h List.not_mem_nil⟩⟩
def lw_privs : List (MethodName × Nat) := lw_privs_1 ++ (lw_privs_2 ++ (lw_privs_3 ++ (lw_privs_4 ++ (lw_privs_5))))
def lw_tbl : List Cond := k2_sels lw_privs ++ tables_1
theorem lw_privs_ok : ∀ q ∈ lw_privs, lw_okq q := by
  show ∀ q ∈ lw_privs_1 ++ (lw_privs_2 ++ (lw_privs_3 ++ (lw_privs_4 ++ (lw_privs_5)))), lw_okq q
  exact List.forall_mem_append.mpr ⟨lw_r1, List.forall_mem_append.mpr ⟨lw_r2, List.forall_mem_append.mpr ⟨lw_r3, List.forall_mem_append.mpr ⟨lw_r4, lw_r5⟩⟩⟩⟩
/-- the streams that the claim lets the run draw from -/
abbrev lw_cs : List Choice := [Jvm.Choice.named "NaN.bits"]
theorem lw_bits : nanBits ∈ lw_cs := by first | decide | exact List.mem_cons_self | simp [lw_cs, nanBits]
-- ===== end of PART A; then your names; then what follows =====
/-! ===== BEGIN words of one list among another's, by their places ===== -/
theorem goodIn_r {big : List Cond} (ws : List Cond) (ps : List Nat) (hp : ws = ps.filterMap (fun i => big[i]?)) (h : ws.all goodWord = true) : GoodIn big ws := by
  intro w hw
  have h1 := List.all_eq_true.mp h w hw
  rw [hp] at hw
  obtain ⟨i, -, hi⟩ := List.mem_filterMap.mp hw
  have hm : w ∈ big := by first | exact List.mem_of_getElem? hi | exact List.getElem?_mem hi
  exact ⟨hm, good_of_word h1⟩
theorem goodIn_app {big a b : List Cond} (ha : GoodIn big a) (hb : GoodIn big b) : GoodIn big (a ++ b) := fun w h => (List.mem_append.mp h).elim (ha w) (hb w)
theorem goodIn_ca {big a b : List Cond} {c : Cond} (ha : GoodIn big (c :: a)) (hb : GoodIn big b) : GoodIn big (c :: (a ++ b)) := fun w h => (List.mem_cons.mp h).elim (fun e => ha w (List.mem_cons.mpr (Or.inl e))) (fun h => (List.mem_append.mp h).elim (fun h => ha w (List.mem_cons.mpr (Or.inr h))) (hb w))
theorem goodIn_sub {big ws : List Cond} (hm : ∀ w ∈ ws, w ∈ big) (h : ws.all goodWord = true) : GoodIn big ws := fun w hw => ⟨hm w hw, good_of_word (List.all_eq_true.mp h w hw)⟩
/-! ===== END ===== -/

/-! ===== BEGIN exceptions that leave a method, and their catching by the caller (launches without stack traces) ===== -/
section VXA
/-! The laws vx_back, vx_callV, vx_callS, vx_callSW, vx_throw0, vx_throwS follow proofs of the library, with one case more: JvmDerived/Free/Laws.lean (Back.of_free), Shelf42/LK1.lean (callV, callS), Shelf/KitTraced.lean (throwNew0V, throwNewS). -/
/-- where a method has thrown q: the class by its name, the cell, what was written, the world -/
def vx_T (XC : String → State → State → Prop) (st : State) (q : Addr) (t : State) (mc ms : Nat) (free : Addr → Prop) : Prop :=
  ∃ (E : String) (ce : Cell) (L : List Loc), XC E st t ∧ t.heap[q]? = some ce ∧ ce.vm = .none ∧ st.vm.findClass E = some ce.cls ∧ st.WarmedH t.vm ∧ st.sameButNew ({ t with vm := st.vm } : State) L mc ms ∧ ∀ z ∈ L, free z.base
def vx_Q (Qc : Array Value → State → Outcome → State → Prop) (XC : String → State → State → Prop) (mc ms : Nat) (free : Addr → Prop) : Array Value → State → Outcome → State → Prop := fun a st o t =>
  (Qc a st o t ∧ ∃ L, FrameEnd st o t L mc ms ∧ ∀ q ∈ L, free q.base) ∨ ∃ q, o = .threw q ∧ vx_T XC st q t mc ms free
/-- a callee that returns or throws -/
def vx_Met (l : Launch) (y : MethodName) (ws : List Cond) (rm : Room) (Pc : Array Value → State → Prop) (Qc : Array Value → State → Outcome → State → Prop) (XC : String → State → State → Prop) (mc ms : Nat) (free : Addr → Prop) : Prop :=
  MetFree l y (headSpec ws rm) Pc (fun _ _ _ _ _ => True) (vx_Q Qc XC mc ms free)
def vx_Post (XC : String → State → State → Prop) (mc ms : Nat) (free : Addr → Prop) : Pt → Array Value → Addr → Pt → Prop := fun A a q B =>
  ∃ (g : JFrame) (mk : MethodId) (t : State) (L : List Loc) (E : String) (ce : Cell), B.U.heap = t.heap ∧ B.U.vm = t.vm ∧ XC E (A.U.calling g mk a) t ∧ t.heap[q]? = some ce ∧ ce.vm = .none ∧ A.U.vm.findClass E = some ce.cls ∧ B.locs = A.locs ++ L ∧ (∀ z ∈ L, free z.base) ∧ B.cells = A.cells + mc ∧ B.slots = A.slots + ms
def vx_Back (l : Launch) (R : Room) (p : Program) (e : Env) (below : List Frame) (s : State) (sargs : Array Value) (y : MethodName) (len W9 : Nat)
    (Pre : Pt → Array Value → Prop) (Post : Pt → Array Value → Option Value → Pt → Prop) (PostX : Pt → Array Value → Addr → Pt → Prop) : Prop :=
  ∀ (m : MethodId) (meth : Method) (c : Code) (A : Pt) (g : JFrame) (ig : Instr) (mk : MethodId) (a : Array Value),
    Stand p l e R s m sargs below meth c A.U A.locs A.cells A.slots → g.method = m → g.locals.size = c.maxLocals → decode c.code g.pc = .ok (ig, len) →
    2 * g.monitorRoom + (g.stack.map fun v => v.category).sum ≤ W9 → A.U.methodNamed? y = some mk → Pre A a →
    (∃ (v : Option Value) (B : Pt), Stand p l e R s m sargs below meth c B.U B.locs B.cells B.slots ∧ Post A a v B ∧
      Steps p.tables e below (doInvoke e (A.U.setTop g) [] mk a).1 (B.U.setTop { g with pc := g.pc + len, stack := v.toList ++ g.stack })) ∨
    (∃ (q : Addr) (B : Pt), Stand p l e R s m sargs below meth c B.U B.locs B.cells B.slots ∧ PostX A a q B ∧
      Steps p.tables e below (doInvoke e (A.U.setTop g) [] mk a).1 ((B.U.setTop g).pushFrame (.throwing q)))
section Payer
variable {l : Launch} {R : Room} {p : Program} {e : Env} {below : List Frame} {s : State} {sargs : Array Value} {y : MethodName} {len W9 : Nat}
theorem vx_back {ws : List Cond} {rm : Room} {Pc : Array Value → State → Prop} {Qc : Array Value → State → Outcome → State → Prop} {XC : String → State → State → Prop} {mc ms : Nat} {free : Addr → Prop} {bytes : ByteArray} {maxL : Nat} {ret : Option FieldType}
    (hM : vx_Met l y ws rm Pc Qc XC mc ms free) (hblind : FrameBlind Pc) (hrc : rm.cells = mc) (hrs : rm.slots = ms)
    (hframes : rm.frames + 1 ≤ R.frames) (hlocals : W9 + (maxL + 11) + rm.locals ≤ R.locals)
    (hws : ∀ w ∈ ws, ∀ a' U, s.WarmedH U.vm → w.before a' U = true) (hcode : Cond.code y bytes maxL ret ∈ ws) (hinit : ∀ a' U, s.WarmedH U.vm → (Cond.initialized y.cls).before a' U = true) :
    vx_Back l R p e below s sargs y len W9 (PreOf R mc ms Pc) (PostOf Qc mc ms free) (vx_Post XC mc ms free) := by
  intro m meth c A g ig mk a X hg hsize hdg hW hn hp
  have h1 : (headSpec ws rm).pre.before a A.U = true := atoms_intro fun w hw => hws w hw _ _ X.warmed
  have h2 : (Cond.code y bytes maxL ret).before a A.U = true := hws _ hcode _ _ X.warmed
  have h3 : (Cond.initialized y.cls).before a A.U = true := hinit _ _ X.warmed
  have h4 : A.cells + (headSpec ws rm).room.cells ≤ R.cells := by rw [show (headSpec ws rm).room.cells = mc from hrc]; exact hp.1
  have h5 : A.slots + (headSpec ws rm).room.slots ≤ R.slots := by rw [show (headSpec ws rm).room.slots = ms from hrs]; exact hp.2.1
  have hPc : Pc a (A.U.calling g mk a) := hblind _ _ _ _ hp.2.2
  obtain ⟨U, Ls, c0, s0⟩ := A
  dsimp only [Pt.U, Pt.locs, Pt.cells, Pt.slots] at h1 h2 h3 h4 h5 X hn hPc ⊢
  obtain ⟨methY, cY, hmY, hcY, -, hlY, -, -, -, -⟩ := Cond.code_spec hn h2
  obtain ⟨kY, hkY, -⟩ := className_of_methodNamed hn
  have hinitY : kY.init = .initialized := Cond.initialized_spec (findClass_of_methodNamed hn) hkY h3
  have h : At U g.method c below := by rw [hg]; exact X.here
  have hlocals9 : W9 + (maxL + 11) + (headSpec ws rm).room.locals ≤ R.locals := hlocals
  have happ : (headSpec ws rm).appliesLoose y e.platform (U.calling g mk a) = true :=
    Spec.appliesLoose_calling (g := g) h hdg hn hkY hinitY
      (X.room_calling (g := g) (R' := (headSpec ws rm).room) hsize hmY hcY hframes (by rw [hlY]; omega) h4 h5) h1
  obtain ⟨mid, hmid⟩ := h.above
  have hfr : (U.setTop g).frames = (.java g :: mid) ++ below := by rw [State.frames_setTop' g h.top, hmid]; rfl
  obtain ⟨o, s₂, hsteps, -, hend, hq⟩ := Steps.callFree hM p X.admits X.cas X.clock (acts := []) hfr happ hPc trivial
  have hq' : vx_Q Qc XC mc ms free a (U.calling g mk a) o s₂ := hq
  rw [State.frames_setTop' g h.top] at hend
  obtain ⟨g₀, hg0⟩ := Option.isSome_iff_exists.mp h.top
  obtain ⟨r, hr⟩ := State.topJava?_eq_some.mp hg0
  have hr' : (({ U with heap := s₂.heap, slotsUsed := s₂.slotsUsed } : State).setVm s₂.vm).frames = .java g₀ :: r := hr
  rcases hq' with ⟨hqc, L, hfe, hL⟩ | ⟨q, rfl, E, ce, L, hx, hce, hcv, hcl, hW₂, hsm, hL⟩
  · obtain ⟨⟨v, rfl⟩, hW₂, e2, q2, q3, q4, q5, q6⟩ := id hfe
    have e3 : s₂ = ({ (U.calling g mk a).setFrames s₂.frames with heap := s₂.heap, slotsUsed := s₂.slotsUsed } : State).setVm s₂.vm := by
      have : s₂ = ({ s₂ with vm := (U.calling g mk a).vm } : State).setVm s₂.vm := rfl
      rw [e2] at this
      exact this
    obtain ⟨c₂, i₂, len₂, hc₂, hd₂, hf₂⟩ := hend
    have hW' : U.WarmedH s₂.vm := hW₂
    have hcc : c₂ = c := by
      have h1 : s₂.code? g.method = U.code? g.method := by
        rw [State.code?_eq, State.code?_eq, hW'.alike.method?]
      exact Option.some.inj (hc₂.symm.trans (h1.trans h.code))
    subst hcc
    have hlen : len₂ = len := by rw [hdg] at hd₂; cases hd₂; rfl
    subst hlen
    have hs₂ : s₂ = (({ U with heap := s₂.heap, slotsUsed := s₂.slotsUsed } : State).setVm s₂.vm).setTop { g with pc := g.pc + len₂, stack := v.toList ++ g.stack } := by
      refine e3.trans ?_
      rw [hf₂, State.calling_eq h.top, State.setFrames_setFrames, State.setTop_of_frames _ hr', hr]
      rfl
    have hsame : U.sameButNew ({ U with heap := s₂.heap, slotsUsed := s₂.slotsUsed } : State) L mc ms := by
      refine ⟨?_, q2, q3, q4, q5, q6⟩
      obtain ⟨t, ht, -⟩ := State.frames_cons hr
      show ({ U with heap := s₂.heap, slotsUsed := s₂.slotsUsed } : State) = { U.setFrames U.frames with heap := s₂.heap, slotsUsed := s₂.slotsUsed }
      rw [State.setFrames_self ht]
    subst hg
    refine Or.inl ⟨v, ⟨(({ U with heap := s₂.heap, slotsUsed := s₂.slotsUsed } : State).setVm s₂.vm), Ls ++ L, c0 + mc, s0 + ms⟩,
      ⟨X.admits, X.cas, X.clock, X.frames, X.room, X.hears, X.method, X.code, (X.here.setHeapUsed s₂.heap s₂.slotsUsed).setVm hW'.alike, X.tail, State.WarmedH.trans X.warmed hW', X.limits, X.bytes, X.same.trans (hsame.setVm s.vm)⟩,
      ⟨g, mk, s₂, L, rfl, rfl, hqc, rfl, hL, rfl, rfl⟩, ?_⟩
    show Steps p.tables e below _ ((({ U with heap := s₂.heap, slotsUsed := s₂.slotsUsed } : State).setVm s₂.vm).setTop { g with pc := g.pc + len₂, stack := v.toList ++ g.stack })
    rw [← hs₂]
    exact hsteps
  · obtain ⟨e2, q2, q3, q4, q5, q6⟩ := id hsm
    have e3 : s₂ = ({ (U.calling g mk a).setFrames s₂.frames with heap := s₂.heap, slotsUsed := s₂.slotsUsed } : State).setVm s₂.vm := by
      have : s₂ = ({ s₂ with vm := (U.calling g mk a).vm } : State).setVm s₂.vm := rfl
      rw [e2] at this
      exact this
    have hf₂ : s₂.frames = .throwing q :: .java g :: U.frames.tail := hend
    have hW' : U.WarmedH s₂.vm := hW₂
    have hs₂ : s₂ = ((({ U with heap := s₂.heap, slotsUsed := s₂.slotsUsed } : State).setVm s₂.vm).setTop g).pushFrame (.throwing q) := by
      refine e3.trans ?_
      rw [hf₂, State.calling_eq h.top, State.setFrames_setFrames, State.pushFrame, State.frames_setTop _ hr', State.setTop_of_frames _ hr', State.setFrames_setFrames, hr]
      rfl
    have hsame : U.sameButNew ({ U with heap := s₂.heap, slotsUsed := s₂.slotsUsed } : State) L mc ms := by
      refine ⟨?_, q2, q3, q4, q5, q6⟩
      obtain ⟨t, ht, -⟩ := State.frames_cons hr
      show ({ U with heap := s₂.heap, slotsUsed := s₂.slotsUsed } : State) = { U.setFrames U.frames with heap := s₂.heap, slotsUsed := s₂.slotsUsed }
      rw [State.setFrames_self ht]
    subst hg
    refine Or.inr ⟨q, ⟨(({ U with heap := s₂.heap, slotsUsed := s₂.slotsUsed } : State).setVm s₂.vm), Ls ++ L, c0 + mc, s0 + ms⟩,
      ⟨X.admits, X.cas, X.clock, X.frames, X.room, X.hears, X.method, X.code, (X.here.setHeapUsed s₂.heap s₂.slotsUsed).setVm hW'.alike, X.tail, State.WarmedH.trans X.warmed hW', X.limits, X.bytes, X.same.trans (hsame.setVm s.vm)⟩,
      ⟨g, mk, s₂, L, E, ce, rfl, rfl, hx, hce, hcv, hcl, rfl, hL, rfl, rfl⟩, ?_⟩
    show Steps p.tables e below _ (((({ U with heap := s₂.heap, slotsUsed := s₂.slotsUsed } : State).setVm s₂.vm).setTop g).pushFrame (.throwing q))
    rw [← hs₂]
    exact hsteps
end Payer
section Calls
variable {p : Program} {l : Launch} {e : Env} {R : Room} {s : State} {m : MethodId} {args : Array Value} {below : List Frame} {meth : Method} {c : Code} {T : State} {locs : List Loc} {cells slots : Nat}
theorem vx_callV (X : Stand p l e R s m args below meth c T locs cells slots) (hexec : p.tables.exec = Jvm.exec) {own C : String} {index : Nat} {y : MethodName} {bytes : ByteArray} {maxL : Nat} {ret : Option FieldType}
    (hown : s.vm.findClass own = some m.cls) (hlink : (Cond.methodLink own index y).before args s = true) (hinst : (Cond.instanceMethod y).before args s = true) (hsel : (Cond.selects C y y).before args s = true)
    (hcode : (Cond.code y bytes maxL ret).before args s = true) (hy : y.cls ≠ "java/lang/invoke/MethodHandle" ∧ y.cls ≠ "java/lang/invoke/VarHandle")
    {W9 : Nat} {Pre : Pt → Array Value → Prop} {Post : Pt → Array Value → Option Value → Pt → Prop} {PostX : Pt → Array Value → Addr → Pt → Prop} (hK : vx_Back l R p e below s args y 3 W9 Pre Post PostX)
    {b : Addr} {cellB : Cell} (hcell : T.heap[b]? = some cellB) (hobj : cellB.vm.isStatics = false) (hcls : s.vm.findClass C = some cellB.cls)
    {g : JFrame} (hg : g.method = m) (hsize : g.locals.size = c.maxLocals) {argsL rest : List Value} (hlen : ∀ sig, parseMethodDescriptor y.desc = some sig → argsL.length = sig.parameters.length)
    (hstack : g.stack = argsL.reverse ++ .ref b :: rest) (hW : 2 * g.monitorRoom + (rest.map fun v => v.category).sum ≤ W9) (hdg : decode c.code g.pc = .ok (.invokevirtual index, 3))
    (hpre : ∀ vm₁, s.WarmedH vm₁ → Pre ⟨T.setVm vm₁, locs, cells, slots⟩ (Value.ref b :: argsL).toArray) :
    (∃ (v : Option Value) (vm₁ : Vm) (B : Pt), s.WarmedH vm₁ ∧ Stand p l e R s m args below meth c B.U B.locs B.cells B.slots ∧ Post ⟨T.setVm vm₁, locs, cells, slots⟩ (Value.ref b :: argsL).toArray v B ∧
      ∀ target, Steps p.tables e below (B.U.setTop { g with pc := g.pc + 3, stack := v.toList ++ rest }) target → Steps p.tables e below (T.setTop g) target) ∨
    (∃ (q : Addr) (vm₁ : Vm) (B : Pt), s.WarmedH vm₁ ∧ Stand p l e R s m args below meth c B.U B.locs B.cells B.slots ∧ PostX ⟨T.setVm vm₁, locs, cells, slots⟩ (Value.ref b :: argsL).toArray q B ∧
      Steps p.tables e below (T.setTop g) ((B.U.setTop { g with stack := rest }).pushFrame (.throwing q))) := by
  obtain ⟨mk, methM, hnamed, hmethM, hstM, habM⟩ := Cond.instanceMethod_spec hinst
  obtain ⟨methM', cM, hmethM', -, -, -, -, -, -, hsigM⟩ := Cond.code_spec hnamed hcode
  cases hmethM.symm.trans hmethM'
  obtain ⟨c2, r2, m2, q1, q2, q3, q4, kP, hkP, hkPi⟩ := Cond.selects_spec hsel
  cases hcls.symm.trans q1
  cases (State.methodFound?_of_named hnamed hy).symm.trans q2
  cases hnamed.symm.trans q3
  have hselP : selectMethod e.platform s.vm cellB.cls mk = .method mk := by rw [Launch.admits_selectMethod X.admits]; exact q4
  obtain ⟨vm₁, X₁, hstep₁⟩ := X.invokevirtual hexec hown hlink hnamed hmethM hstM hkP hkPi hy (a := b) (cell := cellB) hcell
    (fun z h => by rw [h] at hobj; cases hobj) hselP hmethM habM hkP hkPi (g := g) hg (argsL := argsL) (rest := rest) (hlen _ hsigM) hstack hdg
  rcases hK m meth c ⟨T.setVm vm₁, locs, cells, slots⟩ { g with stack := rest } (.invokevirtual index) mk (Value.ref b :: argsL).toArray X₁ hg hsize hdg hW (X₁.named hnamed) (hpre vm₁ X₁.warmed) with ⟨v, B, X', hpost, hsteps⟩ | ⟨q, B, X', hpost, hsteps⟩
  · exact Or.inl ⟨v, vm₁, B, X₁.warmed, X', hpost, fun target h => hstep₁ _ fun acts => by rw [doInvoke_state]; exact hsteps.trans h⟩
  · exact Or.inr ⟨q, vm₁, B, X₁.warmed, X', hpost, hstep₁ _ fun acts => by rw [doInvoke_state]; exact hsteps⟩
theorem vx_callS (X : Stand p l e R s m args below meth c T locs cells slots) (hexec : p.tables.exec = Jvm.exec) {own : String} {index : Nat} {y : MethodName} {bytes : ByteArray} {maxL : Nat} {ret : Option FieldType}
    (hown : s.vm.findClass own = some m.cls) (hlink : (Cond.methodLink own index y).before args s = true) (hstat : (Cond.static y).before args s = true) (hinit : (Cond.initialized y.cls).before args s = true)
    (hcode : (Cond.code y bytes maxL ret).before args s = true) (hy : y.cls ≠ "java/lang/invoke/MethodHandle" ∧ y.cls ≠ "java/lang/invoke/VarHandle")
    {W9 : Nat} {Pre : Pt → Array Value → Prop} {Post : Pt → Array Value → Option Value → Pt → Prop} {PostX : Pt → Array Value → Addr → Pt → Prop} (hK : vx_Back l R p e below s args y 3 W9 Pre Post PostX)
    {g : JFrame} (hg : g.method = m) (hsize : g.locals.size = c.maxLocals) {argsL rest : List Value} (hlen : ∀ sig, parseMethodDescriptor y.desc = some sig → argsL.length = sig.parameters.length)
    (hstack : g.stack = argsL.reverse ++ rest) (hW : 2 * g.monitorRoom + (rest.map fun v => v.category).sum ≤ W9) (hdg : decode c.code g.pc = .ok (.invokestatic index, 3))
    (hpre : ∀ vm₁, s.WarmedH vm₁ → Pre ⟨T.setVm vm₁, locs, cells, slots⟩ argsL.toArray) :
    (∃ (v : Option Value) (vm₁ : Vm) (B : Pt), s.WarmedH vm₁ ∧ Stand p l e R s m args below meth c B.U B.locs B.cells B.slots ∧ Post ⟨T.setVm vm₁, locs, cells, slots⟩ argsL.toArray v B ∧
      ∀ target, Steps p.tables e below (B.U.setTop { g with pc := g.pc + 3, stack := v.toList ++ rest }) target → Steps p.tables e below (T.setTop g) target) ∨
    (∃ (q : Addr) (vm₁ : Vm) (B : Pt), s.WarmedH vm₁ ∧ Stand p l e R s m args below meth c B.U B.locs B.cells B.slots ∧ PostX ⟨T.setVm vm₁, locs, cells, slots⟩ argsL.toArray q B ∧
      Steps p.tables e below (T.setTop g) ((B.U.setTop { g with stack := rest }).pushFrame (.throwing q))) := by
  obtain ⟨mk, hnamed⟩ := Cond.code_named hcode
  obtain ⟨methM, cM, hmethM, -, -, -, -, -, -, hsigM⟩ := Cond.code_spec hnamed hcode
  have hstatic : methM.isStatic = true := Cond.static_spec hnamed hmethM hstat
  obtain ⟨kP, hkP, -⟩ := className_of_methodNamed hnamed
  have hinitP : kP.init = .initialized := Cond.initialized_spec (findClass_of_methodNamed hnamed) hkP hinit
  obtain ⟨vm₁, X₁, hstep₁⟩ := X.invokestatic hexec hown hlink hnamed hmethM hstatic hkP hinitP hy (g := g) hg (argsL := argsL) (rest := rest) (hlen _ hsigM) hstack hdg
  rcases hK m meth c ⟨T.setVm vm₁, locs, cells, slots⟩ { g with stack := rest } (.invokestatic index) mk argsL.toArray X₁ hg hsize hdg hW (X₁.named hnamed) (hpre vm₁ X₁.warmed) with ⟨v, B, X', hpost, hsteps⟩ | ⟨q, B, X', hpost, hsteps⟩
  · exact Or.inl ⟨v, vm₁, B, X₁.warmed, X', hpost, fun target h => hstep₁ _ fun acts => by rw [doInvoke_state]; exact hsteps.trans h⟩
  · exact Or.inr ⟨q, vm₁, B, X₁.warmed, X', hpost, hstep₁ _ fun acts => by rw [doInvoke_state]; exact hsteps⟩
end Calls
theorem vx_cls {s : State} {T : State} {vm₁ : Vm} {E : String} {k : ClassId} (hW : s.WarmedH vm₁) (h : (T.setVm vm₁).vm.findClass E = some k) : s.vm.findClass E = some k := by
  have h1 : vm₁.findClass E = some k := h
  rw [hW.alike.findClass] at h1
  exact h1
/-- the method's frame g, with q thrown over it -/
def vx_W (p : Program) (l : Launch) (e : Env) (R : Room) (s : State) (m : MethodId) (args : Array Value) (below : List Frame) (meth : Method) (c : Code) (H : Heap) (locs : List Loc) (cells slots : Nat) (Q : State → Prop) (g : JFrame) (q : Addr) : Prop :=
  ∀ T : State, T.heap = H → Stand p l e R s m args below meth c T locs cells slots → ∃ t, Steps p.tables e below ((T.setTop g).pushFrame (.throwing q)) t ∧ Q t
def vx_Run (p : Program) (l : Launch) (e : Env) (R : Room) (s : State) (m : MethodId) (args : Array Value) (below : List Frame) (meth : Method) (c : Code) (H : Heap) (locs : List Loc) (cells slots mc ms : Nat) (g : JFrame) (rest : List Value) (Qa : State → Outcome → State → Prop) (XC : String → State → State → Prop) (free : Addr → Prop) : Prop :=
  ∀ T : State, T.heap = H → Stand p l e R s m args below meth c T locs cells slots →
    (∃ (v : Option Value) (st₀ t T' : State) (L : List Loc), st₀.heap = H ∧ Stand p l e R s m args below meth c T' (locs ++ L) (cells + mc) (slots + ms) ∧ (∀ q ∈ L, free q.base) ∧ T'.heap = t.heap ∧ T'.vm = t.vm ∧ Qa st₀ (.returned v) t ∧
      Goes p e below T g T' { g with pc := g.pc + 3, stack := v.toList ++ rest }) ∨
    (∃ (q : Addr) (st₀ t T' : State) (L : List Loc) (E : String) (ce : Cell), st₀.heap = H ∧ Stand p l e R s m args below meth c T' (locs ++ L) (cells + mc) (slots + ms) ∧ (∀ z ∈ L, free z.base) ∧ T'.heap = t.heap ∧ T'.vm = t.vm ∧ XC E st₀ t ∧ t.heap[q]? = some ce ∧ ce.vm = .none ∧ s.vm.findClass E = some ce.cls ∧
      Steps p.tables e below (T.setTop g) ((T'.setTop { g with stack := rest }).pushFrame (.throwing q)))
def vx_X {S : Type} (px : S → Prop) (B : String → S → State → Prop) (A : Nat → Prop) : String → State → State → Prop := fun E st t => ∃ u : S, px u ∧ B E u t ∧ va_F A st t
section Runs
variable {p : Program} {l : Launch} {e : Env} {R : Room} {s : State} {m : MethodId} {args : Array Value} {below : List Frame} {meth : Method} {c : Code} {H : Heap} {locs : List Loc} {cells slots : Nat}
variable {y : MethodName} {bytes cc : ByteArray} {maxL nL mc ms n index : Nat} {ret : Option FieldType} {ws : List Cond} {rm : Room} {Pc : Array Value → State → Prop} {Qc : Array Value → State → Outcome → State → Prop} {XC : String → State → State → Prop} {free : Addr → Prop} {Ts : List Cond} {own C : String} {b : Addr} {As rest : List Value} {g : JFrame}
theorem vx_callBack (cb : CallB R s args own index y bytes maxL ret ws rm mc ms n) (hM : vx_Met l y ws rm Pc Qc XC mc ms free) (hbl : FrameBlind Pc) : vx_Back l R p e below s args y 3 8 (PreOf R mc ms Pc) (PostOf Qc mc ms free) (vx_Post XC mc ms free) := by
  obtain ⟨hrc, hrs, hfr, hlo, hws, hcw, -, hini, -⟩ := cb
  exact vx_back (bytes := bytes) (maxL := maxL) (ret := ret) hM hbl hrc hrs hfr hlo hws hcw (fun a' U hW => word_at hW (Or.inl (by first | rfl | simp [Cond.onTables, Cond.keeps, Cond.steady])) hini)
theorem vx_runV (S : CallFix p m c cc nL s args Ts own) (hM : vx_Met l y ws rm Pc Qc XC mc ms free) (cw : CallW R s args own C index y bytes maxL ret ws rm mc ms n) (hp : PreV s H C b Pc As)
    (hg : g.method = m) (hn : As.length = n) (hsize : g.locals.size = nL) (hstack : g.stack = As.reverse ++ .ref b :: rest) (hW : 2 * g.monitorRoom + (rest.map fun v => v.category).sum ≤ 8) (hdg : decode cc g.pc = .ok (.invokevirtual index, 3)) (hf : cells + mc ≤ R.cells ∧ slots + ms ≤ R.slots) :
    vx_Run p l e R s m args below meth c H locs cells slots mc ms g rest (Qc (Value.ref b :: As).toArray) XC free := by
  have hK : vx_Back l R p e below s args y 3 8 (PreOf R mc ms Pc) (PostOf Qc mc ms free) (vx_Post XC mc ms free) := vx_callBack cw.1 hM hp.1
  obtain ⟨⟨-, -, -, -, -, -, hcode, -, hy, hlen, hl⟩, hin, hse⟩ := cw
  obtain ⟨hx, hb, hml, ho, -⟩ := S
  obtain ⟨-, ⟨cellB, hcB, hoB, hclB⟩, hPc⟩ := hp
  intro T hT X
  rcases vx_callV X hx (C := C) (bytes := bytes) (maxL := maxL) (ret := ret) ho hl hin hse hcode hy hK (by rw [hT]; exact hcB) hoB hclB hg (hsize.trans hml.symm) (argsL := As) (rest := rest) (fun sig h => hn.trans (hlen sig h)) hstack hW (by rw [hb]; exact hdg)
    (fun vm₁ hW₁ => ⟨hf.1, hf.2, hPc (T.setVm vm₁) hT hW₁⟩) with ⟨v, vm₁, ⟨U', l2, c2, s2⟩, hW₁, X', ⟨g', mk, t, L, e1, e2, hq, h1, hL, h2, h3⟩, st⟩ | ⟨q, vm₁, ⟨U', l2, c2, s2⟩, hW₁, X', ⟨g', mk, t, L, E, ce, e1, e2, hq, hce, hcv, hcl, h1, hL, h2, h3⟩, st⟩
  · dsimp only [Pt.U, Pt.locs, Pt.cells, Pt.slots] at X' e1 e2 h1 h2 h3 st
    subst h1; subst h2; subst h3
    exact Or.inl ⟨v, (T.setVm vm₁).calling g' mk (Value.ref b :: As).toArray, t, U', L, hT, X', hL, e1, e2, hq, st⟩
  · dsimp only [Pt.U, Pt.locs, Pt.cells, Pt.slots] at X' e1 e2 h1 h2 h3 st hcl
    subst h1; subst h2; subst h3
    exact Or.inr ⟨q, (T.setVm vm₁).calling g' mk (Value.ref b :: As).toArray, t, U', L, E, ce, hT, X', hL, e1, e2, hq, hce, hcv, vx_cls hW₁ hcl, st⟩
theorem vx_runS (S : CallFix p m c cc nL s args Ts own) (hM : vx_Met l y ws rm Pc Qc XC mc ms free) (cw : CallB R s args own index y bytes maxL ret ws rm mc ms n ∧ (Cond.static y).before args s = true) (hp : PreS s H Pc As)
    (hg : g.method = m) (hn : As.length = n) (hsize : g.locals.size = nL) (hstack : g.stack = As.reverse ++ rest) (hW : 2 * g.monitorRoom + (rest.map fun v => v.category).sum ≤ 8) (hdg : decode cc g.pc = .ok (.invokestatic index, 3)) (hf : cells + mc ≤ R.cells ∧ slots + ms ≤ R.slots) :
    vx_Run p l e R s m args below meth c H locs cells slots mc ms g rest (Qc As.toArray) XC free := by
  have hK : vx_Back l R p e below s args y 3 8 (PreOf R mc ms Pc) (PostOf Qc mc ms free) (vx_Post XC mc ms free) := vx_callBack cw.1 hM hp.1
  obtain ⟨⟨-, -, -, -, -, -, hcode, hini, hy, hlen, hl⟩, hstt⟩ := cw
  obtain ⟨hx, hb, hml, ho, -⟩ := S
  intro T hT X
  rcases vx_callS X hx (bytes := bytes) (maxL := maxL) (ret := ret) ho hl hstt hini hcode hy hK hg (hsize.trans hml.symm) (argsL := As) (rest := rest) (fun sig h => hn.trans (hlen sig h)) hstack hW (by rw [hb]; exact hdg)
    (fun vm₁ hW₁ => ⟨hf.1, hf.2, hp.2 (T.setVm vm₁) hT hW₁⟩) with ⟨v, vm₁, ⟨U', l2, c2, s2⟩, hW₁, X', ⟨g', mk, t, L, e1, e2, hq, h1, hL, h2, h3⟩, st⟩ | ⟨q, vm₁, ⟨U', l2, c2, s2⟩, hW₁, X', ⟨g', mk, t, L, E, ce, e1, e2, hq, hce, hcv, hcl, h1, hL, h2, h3⟩, st⟩
  · dsimp only [Pt.U, Pt.locs, Pt.cells, Pt.slots] at X' e1 e2 h1 h2 h3 st
    subst h1; subst h2; subst h3
    exact Or.inl ⟨v, (T.setVm vm₁).calling g' mk As.toArray, t, U', L, hT, X', hL, e1, e2, hq, st⟩
  · dsimp only [Pt.U, Pt.locs, Pt.cells, Pt.slots] at X' e1 e2 h1 h2 h3 st hcl
    subst h1; subst h2; subst h3
    exact Or.inr ⟨q, (T.setVm vm₁).calling g' mk As.toArray, t, U', L, E, ce, hT, X', hL, e1, e2, hq, hce, hcv, vx_cls hW₁ hcl, st⟩
end Runs
section Rows
variable {p : Program} {l : Launch} {e : Env} {R : Room} {s : State} {m : MethodId} {args : Array Value} {below : List Frame} {meth : Method} {c : Code} {H : Heap} {locs : List Loc} {cells slots : Nat} {Q : State → Prop}
variable {mc ms : Nat} {free : Addr → Prop} {A0 A1 : Nat → Prop} {H0 : Heap} {a : Array Value} {pc : Nat} {ls : Array Slot} {st0 rest : List Value}
theorem vx_keep {st₀ t T' : State} {L : List Loc} (h0 : st₀.heap = H) (e1 : T'.heap = t.heap) (hS : va_S A0 H0 H locs) (hA : ∀ q, q < H.size → A1 q → A0 q) (hf : ∀ q, free q → A0 q) (hL : ∀ q ∈ L, free q.base) (hF : va_F A1 st₀ t) :
    H.size ≤ T'.heap.size ∧ (∀ q : Nat, q < H.size → ¬ A1 q → T'.heap[q]? = H[q]?) ∧ va_S A0 H0 T'.heap (locs ++ L) := by
  obtain ⟨hz, hk⟩ := hF
  rw [h0] at hz hk
  exact ⟨by rw [e1]; exact hz, fun q h1 h2 => by rw [e1]; exact hk q h1 h2,
    ⟨Nat.le_trans hS.1 (by rw [e1]; exact hz), fun q h1 h2 => by rw [e1, hk q (Nat.lt_of_lt_of_le h1 hS.1) (fun z => h2 (hA q (Nat.lt_of_lt_of_le h1 hS.1) z))]; exact hS.2.1 q h1 h2, fun q hq => by
      rcases List.mem_append.mp hq with h | h
      · exact hS.2.2 q h
      · exact hf _ (hL q h)⟩⟩
theorem vx_calli {S SX : Type} {post : Int32 → S → Prop} {px : SX → Prop} {B : S → State → Prop} {BX : String → SX → State → Prop} {AX : Nat → Prop} (hr : vx_Run p l e R s m args below meth c H locs cells slots mc ms (F0 m pc ls st0) rest (va_Qi post B A1 a) (vx_X px BX AX) free) (hS : va_S A0 H0 H locs) (hA : ∀ q, q < H.size → A1 q → A0 q) (hf : ∀ q, free q → A0 q) (hAX : ∀ q, q < H.size → AX q → A0 q)
    (kx : ∀ (E : String) (ce : Cell) (q9 : Addr) (u : SX) (t : State) (H1 : Heap) (locs1 : List Loc), t.heap = H1 → s.vm.Alike t.vm → px u → BX E u t → H.size ≤ H1.size → (∀ q : Nat, q < H.size → ¬ AX q → H1[q]? = H[q]?) → va_S A0 H0 H1 locs1 → H1[q9]? = some ce → ce.vm = .none → s.vm.findClass E = some ce.cls → vx_W p l e R s m args below meth c H1 locs1 (cells + mc) (slots + ms) Q (F0 m pc ls rest) q9)
    (kk : ∀ (r : Int32) (u : S) (t : State) (H1 : Heap) (locs1 : List Loc), t.heap = H1 → s.vm.Alike t.vm → post r u → B u t → H.size ≤ H1.size → (∀ q : Nat, q < H.size → ¬ A1 q → H1[q]? = H[q]?) → va_S A0 H0 H1 locs1 → W p l e R s m args below meth c H1 locs1 (cells + mc) (slots + ms) Q (F0 m (pc + 3) ls (.int r :: rest))) : W p l e R s m args below meth c H locs cells slots Q (F0 m pc ls st0) := by
  intro T hT X
  rcases hr T hT X with ⟨v, st₀, t, T', L, h0, X', hL, e1, e2, ⟨⟨r, u, hv, hp, hb⟩, hF⟩, st⟩ | ⟨q, st₀, t, T', L, E, ce, h0, X', hL, e1, e2, ⟨u, hp, hb, hF⟩, hce, hcv, hcl, st⟩
  · cases hv
    obtain ⟨k1, k2, k3⟩ := vx_keep h0 e1 hS hA hf hL hF
    obtain ⟨t2, a1, b1⟩ := kk r u t T'.heap (locs ++ L) e1.symm (by rw [← e2]; exact X'.warmed.alike) hp hb k1 k2 k3 T' rfl X'
    exact ⟨t2, st t2 a1, b1⟩
  · obtain ⟨k1, k2, k3⟩ := vx_keep h0 e1 hS hAX hf hL hF
    obtain ⟨t2, a1, b1⟩ := kx E ce q u t T'.heap (locs ++ L) e1.symm (by rw [← e2]; exact X'.warmed.alike) hp hb k1 k2 k3 (by rw [e1]; exact hce) hcv hcl T' rfl X'
    exact ⟨t2, st.trans a1, b1⟩
theorem vx_calll {S SX : Type} {post : Int64 → S → Prop} {px : SX → Prop} {B : S → State → Prop} {BX : String → SX → State → Prop} {AX : Nat → Prop} (hr : vx_Run p l e R s m args below meth c H locs cells slots mc ms (F0 m pc ls st0) rest (va_Ql post B A1 a) (vx_X px BX AX) free) (hS : va_S A0 H0 H locs) (hA : ∀ q, q < H.size → A1 q → A0 q) (hf : ∀ q, free q → A0 q) (hAX : ∀ q, q < H.size → AX q → A0 q)
    (kx : ∀ (E : String) (ce : Cell) (q9 : Addr) (u : SX) (t : State) (H1 : Heap) (locs1 : List Loc), t.heap = H1 → s.vm.Alike t.vm → px u → BX E u t → H.size ≤ H1.size → (∀ q : Nat, q < H.size → ¬ AX q → H1[q]? = H[q]?) → va_S A0 H0 H1 locs1 → H1[q9]? = some ce → ce.vm = .none → s.vm.findClass E = some ce.cls → vx_W p l e R s m args below meth c H1 locs1 (cells + mc) (slots + ms) Q (F0 m pc ls rest) q9)
    (kk : ∀ (r : Int64) (u : S) (t : State) (H1 : Heap) (locs1 : List Loc), t.heap = H1 → s.vm.Alike t.vm → post r u → B u t → H.size ≤ H1.size → (∀ q : Nat, q < H.size → ¬ A1 q → H1[q]? = H[q]?) → va_S A0 H0 H1 locs1 → W p l e R s m args below meth c H1 locs1 (cells + mc) (slots + ms) Q (F0 m (pc + 3) ls (.long r :: rest))) : W p l e R s m args below meth c H locs cells slots Q (F0 m pc ls st0) := by
  intro T hT X
  rcases hr T hT X with ⟨v, st₀, t, T', L, h0, X', hL, e1, e2, ⟨⟨r, u, hv, hp, hb⟩, hF⟩, st⟩ | ⟨q, st₀, t, T', L, E, ce, h0, X', hL, e1, e2, ⟨u, hp, hb, hF⟩, hce, hcv, hcl, st⟩
  · cases hv
    obtain ⟨k1, k2, k3⟩ := vx_keep h0 e1 hS hA hf hL hF
    obtain ⟨t2, a1, b1⟩ := kk r u t T'.heap (locs ++ L) e1.symm (by rw [← e2]; exact X'.warmed.alike) hp hb k1 k2 k3 T' rfl X'
    exact ⟨t2, st t2 a1, b1⟩
  · obtain ⟨k1, k2, k3⟩ := vx_keep h0 e1 hS hAX hf hL hF
    obtain ⟨t2, a1, b1⟩ := kx E ce q u t T'.heap (locs ++ L) e1.symm (by rw [← e2]; exact X'.warmed.alike) hp hb k1 k2 k3 (by rw [e1]; exact hce) hcv hcl T' rfl X'
    exact ⟨t2, st.trans a1, b1⟩
theorem vx_callf {S SX : Type} {post : UInt32 → S → Prop} {px : SX → Prop} {B : S → State → Prop} {BX : String → SX → State → Prop} {AX : Nat → Prop} (hr : vx_Run p l e R s m args below meth c H locs cells slots mc ms (F0 m pc ls st0) rest (va_Qf post B A1 a) (vx_X px BX AX) free) (hS : va_S A0 H0 H locs) (hA : ∀ q, q < H.size → A1 q → A0 q) (hf : ∀ q, free q → A0 q) (hAX : ∀ q, q < H.size → AX q → A0 q)
    (kx : ∀ (E : String) (ce : Cell) (q9 : Addr) (u : SX) (t : State) (H1 : Heap) (locs1 : List Loc), t.heap = H1 → s.vm.Alike t.vm → px u → BX E u t → H.size ≤ H1.size → (∀ q : Nat, q < H.size → ¬ AX q → H1[q]? = H[q]?) → va_S A0 H0 H1 locs1 → H1[q9]? = some ce → ce.vm = .none → s.vm.findClass E = some ce.cls → vx_W p l e R s m args below meth c H1 locs1 (cells + mc) (slots + ms) Q (F0 m pc ls rest) q9)
    (kk : ∀ (r : UInt32) (u : S) (t : State) (H1 : Heap) (locs1 : List Loc), t.heap = H1 → s.vm.Alike t.vm → post r u → B u t → H.size ≤ H1.size → (∀ q : Nat, q < H.size → ¬ A1 q → H1[q]? = H[q]?) → va_S A0 H0 H1 locs1 → W p l e R s m args below meth c H1 locs1 (cells + mc) (slots + ms) Q (F0 m (pc + 3) ls (.float r :: rest))) : W p l e R s m args below meth c H locs cells slots Q (F0 m pc ls st0) := by
  intro T hT X
  rcases hr T hT X with ⟨v, st₀, t, T', L, h0, X', hL, e1, e2, ⟨⟨r, u, hv, hp, hb⟩, hF⟩, st⟩ | ⟨q, st₀, t, T', L, E, ce, h0, X', hL, e1, e2, ⟨u, hp, hb, hF⟩, hce, hcv, hcl, st⟩
  · cases hv
    obtain ⟨k1, k2, k3⟩ := vx_keep h0 e1 hS hA hf hL hF
    obtain ⟨t2, a1, b1⟩ := kk r u t T'.heap (locs ++ L) e1.symm (by rw [← e2]; exact X'.warmed.alike) hp hb k1 k2 k3 T' rfl X'
    exact ⟨t2, st t2 a1, b1⟩
  · obtain ⟨k1, k2, k3⟩ := vx_keep h0 e1 hS hAX hf hL hF
    obtain ⟨t2, a1, b1⟩ := kx E ce q u t T'.heap (locs ++ L) e1.symm (by rw [← e2]; exact X'.warmed.alike) hp hb k1 k2 k3 (by rw [e1]; exact hce) hcv hcl T' rfl X'
    exact ⟨t2, st.trans a1, b1⟩
theorem vx_calld {S SX : Type} {post : UInt64 → S → Prop} {px : SX → Prop} {B : S → State → Prop} {BX : String → SX → State → Prop} {AX : Nat → Prop} (hr : vx_Run p l e R s m args below meth c H locs cells slots mc ms (F0 m pc ls st0) rest (va_Qd post B A1 a) (vx_X px BX AX) free) (hS : va_S A0 H0 H locs) (hA : ∀ q, q < H.size → A1 q → A0 q) (hf : ∀ q, free q → A0 q) (hAX : ∀ q, q < H.size → AX q → A0 q)
    (kx : ∀ (E : String) (ce : Cell) (q9 : Addr) (u : SX) (t : State) (H1 : Heap) (locs1 : List Loc), t.heap = H1 → s.vm.Alike t.vm → px u → BX E u t → H.size ≤ H1.size → (∀ q : Nat, q < H.size → ¬ AX q → H1[q]? = H[q]?) → va_S A0 H0 H1 locs1 → H1[q9]? = some ce → ce.vm = .none → s.vm.findClass E = some ce.cls → vx_W p l e R s m args below meth c H1 locs1 (cells + mc) (slots + ms) Q (F0 m pc ls rest) q9)
    (kk : ∀ (r : UInt64) (u : S) (t : State) (H1 : Heap) (locs1 : List Loc), t.heap = H1 → s.vm.Alike t.vm → post r u → B u t → H.size ≤ H1.size → (∀ q : Nat, q < H.size → ¬ A1 q → H1[q]? = H[q]?) → va_S A0 H0 H1 locs1 → W p l e R s m args below meth c H1 locs1 (cells + mc) (slots + ms) Q (F0 m (pc + 3) ls (.double r :: rest))) : W p l e R s m args below meth c H locs cells slots Q (F0 m pc ls st0) := by
  intro T hT X
  rcases hr T hT X with ⟨v, st₀, t, T', L, h0, X', hL, e1, e2, ⟨⟨r, u, hv, hp, hb⟩, hF⟩, st⟩ | ⟨q, st₀, t, T', L, E, ce, h0, X', hL, e1, e2, ⟨u, hp, hb, hF⟩, hce, hcv, hcl, st⟩
  · cases hv
    obtain ⟨k1, k2, k3⟩ := vx_keep h0 e1 hS hA hf hL hF
    obtain ⟨t2, a1, b1⟩ := kk r u t T'.heap (locs ++ L) e1.symm (by rw [← e2]; exact X'.warmed.alike) hp hb k1 k2 k3 T' rfl X'
    exact ⟨t2, st t2 a1, b1⟩
  · obtain ⟨k1, k2, k3⟩ := vx_keep h0 e1 hS hAX hf hL hF
    obtain ⟨t2, a1, b1⟩ := kx E ce q u t T'.heap (locs ++ L) e1.symm (by rw [← e2]; exact X'.warmed.alike) hp hb k1 k2 k3 (by rw [e1]; exact hce) hcv hcl T' rfl X'
    exact ⟨t2, st.trans a1, b1⟩
theorem vx_callv {S SX : Type} {post : S → Prop} {px : SX → Prop} {B : S → State → Prop} {BX : String → SX → State → Prop} {AX : Nat → Prop} (hr : vx_Run p l e R s m args below meth c H locs cells slots mc ms (F0 m pc ls st0) rest (va_Qv post B A1 a) (vx_X px BX AX) free) (hS : va_S A0 H0 H locs) (hA : ∀ q, q < H.size → A1 q → A0 q) (hf : ∀ q, free q → A0 q) (hAX : ∀ q, q < H.size → AX q → A0 q)
    (kx : ∀ (E : String) (ce : Cell) (q9 : Addr) (u : SX) (t : State) (H1 : Heap) (locs1 : List Loc), t.heap = H1 → s.vm.Alike t.vm → px u → BX E u t → H.size ≤ H1.size → (∀ q : Nat, q < H.size → ¬ AX q → H1[q]? = H[q]?) → va_S A0 H0 H1 locs1 → H1[q9]? = some ce → ce.vm = .none → s.vm.findClass E = some ce.cls → vx_W p l e R s m args below meth c H1 locs1 (cells + mc) (slots + ms) Q (F0 m pc ls rest) q9)
    (kk : ∀ (u : S) (t : State) (H1 : Heap) (locs1 : List Loc), t.heap = H1 → s.vm.Alike t.vm → post u → B u t → H.size ≤ H1.size → (∀ q : Nat, q < H.size → ¬ A1 q → H1[q]? = H[q]?) → va_S A0 H0 H1 locs1 → W p l e R s m args below meth c H1 locs1 (cells + mc) (slots + ms) Q (F0 m (pc + 3) ls (rest))) : W p l e R s m args below meth c H locs cells slots Q (F0 m pc ls st0) := by
  intro T hT X
  rcases hr T hT X with ⟨v, st₀, t, T', L, h0, X', hL, e1, e2, ⟨⟨u, hv, hp, hb⟩, hF⟩, st⟩ | ⟨q, st₀, t, T', L, E, ce, h0, X', hL, e1, e2, ⟨u, hp, hb, hF⟩, hce, hcv, hcl, st⟩
  · cases hv
    obtain ⟨k1, k2, k3⟩ := vx_keep h0 e1 hS hA hf hL hF
    obtain ⟨t2, a1, b1⟩ := kk u t T'.heap (locs ++ L) e1.symm (by rw [← e2]; exact X'.warmed.alike) hp hb k1 k2 k3 T' rfl X'
    exact ⟨t2, st t2 a1, b1⟩
  · obtain ⟨k1, k2, k3⟩ := vx_keep h0 e1 hS hAX hf hL hF
    obtain ⟨t2, a1, b1⟩ := kx E ce q u t T'.heap (locs ++ L) e1.symm (by rw [← e2]; exact X'.warmed.alike) hp hb k1 k2 k3 (by rw [e1]; exact hce) hcv hcl T' rfl X'
    exact ⟨t2, st.trans a1, b1⟩
/-- caught by the row x of this method's table; the rows ahead don't take it -/
theorem vx_catch {own name : String} {E : String} {ce : Cell} {q : Addr} (hown : s.vm.findClass own = some m.cls) (pre : List ExceptionTableEntry) (x : ExceptionTableEntry) (suf : List ExceptionTableEntry) (hsplit : c.exceptionTable.toList = pre ++ x :: suf)
    (hpass : ∀ z ∈ pre, covers z pc = false ∨ (z.catchType ≠ 0 ∧ ∃ nm : String, (Cond.classLink own z.catchType nm).before args s = true ∧ va_Nc E nm s)) (hx : covers x pc = true) (h0 : x.catchType ≠ 0)
    (hlink : (Cond.classLink own x.catchType name).before args s = true) (hcast : (Cond.castable E name).before args s = true) (hcell : H[q]? = some ce) (hv : ce.vm = .none) (hcl : s.vm.findClass E = some ce.cls)
    (kk : W p l e R s m args below meth c H locs cells slots Q (F0 m x.handlerPc ls [.ref q])) : vx_W p l e R s m args below meth c H locs cells slots Q (F0 m pc ls rest) q := by
  intro T hT X
  have hpl : e.platform.magicAccessors = ({} : Platform).magicAccessors := by rw [X.admits.platform]
  obtain ⟨c3, c4, hc3, hc4, hasg⟩ := Cond.castable_spec hcast
  cases Option.some.inj (hc3.symm.trans hcl)
  obtain ⟨c5, hc5, hcl5⟩ := Cond.classLink_spec hown hlink e.platform hpl
  cases Option.some.inj (hc4.symm.trans hc5)
  obtain ⟨vm', X', st⟩ := X.thenCaughtThrough q (g := F0 m pc ls rest) rfl (Steps.refl _) (by rw [hT]; exact hcell) (by rw [hv]; rfl) (by obtain ⟨k9, h9, -⟩ := Vm.findClass_spec hcl; exact ⟨k9, h9⟩) pre x suf hsplit
    (fun z hz => by
      rcases hpass z hz with h | ⟨hz0, nm, hl1, hn1⟩
      · exact Or.inl h
      · obtain ⟨c6, hc6, hcl6⟩ := Cond.classLink_spec hown hl1 e.platform hpl
        obtain ⟨a8, b8, h1, h2, h3⟩ := hn1
        cases Option.some.inj (h1.symm.trans hcl)
        cases Option.some.inj (h2.symm.trans hc6)
        exact Or.inr ⟨hz0, _, hcl6, h3⟩) hx (Or.inr ⟨h0, c4, hcl5, hasg⟩)
  obtain ⟨t, a1, b1⟩ := kk (T.setVm vm') hT X'
  exact ⟨t, st.trans a1, b1⟩
end Rows
section Ends
variable {p : Program} {l : Launch} {e : Env} {R : Room} {s : State} {m : MethodId} {args : Array Value} {below : List Frame} {meth : Method} {c : Code} {H : Heap} {locs : List Loc} {cells slots : Nat} {Q : State → Prop}
variable {mc ms : Nat} {free : Addr → Prop} {A0 A1 : Nat → Prop} {H0 : Heap} {a : Array Value} {ls : Array Slot} {st0 rest : List Value}
variable {Qc : Array Value → State → Outcome → State → Prop} {XC : String → State → State → Prop}
/-- what a body that may throw owes at its end -/
def vx_MQ (below : List Frame) (Qc : Array Value → State → Outcome → State → Prop) (XC : String → State → State → Prop) (a : Array Value) (s : State) (mc ms : Nat) (free : Addr → Prop) : State → Prop := fun t =>
  ∃ o, t.status = .running ∧ Ended t below o ∧ vx_Q Qc XC mc ms free a s o t
theorem vx_ret {g : JFrame} {mc ms : Nat} (k : W p l e R s m args below meth c H locs cells slots (MQ below Qc args s mc ms free) g) : W p l e R s m args below meth c H locs cells slots (vx_MQ below Qc XC args s mc ms free) g := by
  intro T hT X
  obtain ⟨t, a1, o, b1, b2, b3, b4⟩ := k T hT X
  exact ⟨t, a1, o, b1, b2, Or.inl ⟨b3, b4⟩⟩
/-- not caught here: it goes on to the caller -/
theorem vx_widen {g : JFrame} {q : Addr} {k n : Nat} (h1 : cells ≤ k) (h2 : slots ≤ n) (kk : vx_W p l e R s m args below meth c H locs k n Q g q) : vx_W p l e R s m args below meth c H locs cells slots Q g q := fun T hT X => kk T hT (stand_widen X h1 h2)
theorem vx_out {pc : Nat} {E : String} {ce : Cell} {q : Addr} {mc ms : Nat} (hout : ∀ x ∈ c.exceptionTable.toList, covers x pc = false) (hlocks : meth.locks = false) (hcell : H[q]? = some ce) (hv : ce.vm = .none) (hcl : s.vm.findClass E = some ce.cls)
    (hx : ∀ t : State, t.heap = H → s.vm.Alike t.vm → XC E s t) (hf : ∀ z ∈ locs, free z.base) (hc : cells ≤ mc) (hs : slots ≤ ms) :
    vx_W p l e R s m args below meth c H locs cells slots (vx_MQ below Qc XC args s mc ms free) (F0 m pc ls rest) q := by
  intro T hT X
  obtain ⟨st1, hrun, hend, hW, hsm⟩ := X.leaveThrown q (g := F0 m pc ls rest) rfl rfl rfl hout hlocks
  have hcell9 : (T.setFrames (.throwing q :: below)).heap[q]? = some ce := by
    show T.heap[q]? = some ce
    rw [hT]; exact hcell
  exact ⟨_, st1, .threw q, hrun, hend, Or.inr ⟨q, rfl, E, ce, locs, hx _ hT hW.alike, hcell9, hv, hcl, hW, hsm.mono hc hs, hf⟩⟩
theorem vx_frame {U : State} {k n : Nat} (h : s.sameButNew ({ U with vm := s.vm } : State) locs k n) : s.heap.size ≤ U.heap.size ∧ ∀ q : Nat, q < s.heap.size → (∀ z ∈ locs, z.base ≠ q) → U.heap[q]? = s.heap[q]? := by
  obtain ⟨-, h2, -, -, -, h6⟩ := h
  refine ⟨h2, fun q hq hz => ?_⟩
  obtain ⟨c9, e1, e2, e3, e4⟩ := h6 q _ (Array.getElem?_eq_getElem hq)
  have hs : c9.slots = (s.heap[q]).slots := Array.ext_getElem? fun i => e4 i fun hm => hz _ hm rfl
  have h9 : c9 = s.heap[q] := by
    rw [hs] at e2
    exact e2
  have e5 : U.heap[q]? = some c9 := e1
  rw [e5, h9, Array.getElem?_eq_getElem hq]
/-- the words of a throw but the four that speak of the heap -/
def vx_no (w : Cond) : Bool := decide (w ≠ .isRef (.static Bundle.tN "UNASSIGNED_STACK" Bundle.steD)) && decide (w ≠ .isRef (.static Bundle.tN "SUPPRESSED_SENTINEL" Bundle.listD)) && decide (w ≠ .laysStatic Bundle.tN "UNASSIGNED_STACK" Bundle.steD) && decide (w ≠ .laysStatic Bundle.tN "SUPPRESSED_SENTINEL" Bundle.listD)
def vx_at0 (own : String) (ic : Nat) (X : String) (names : List String) : List Cond := (Bundle.ownAtoms0 own ic X names).filter vx_no
def vx_atS (own : String) (ic : Nat) (X : String) (names : List String) : List Cond := (Bundle.ownAtoms own ic X names).filter vx_no
/-- a word that the tables alone decide, or a good one -/
def vx_ot (w : Cond) : Bool := w.onTables || goodWord w
theorem vx_ot_at {args a' : Array Value} {s U : State} {w : Cond} (hW : s.WarmedH U.vm) (hvm : s.vm = U.vm) (hg : vx_ot w = true) (h : w.before args s = true) : w.before a' U = true := by
  simp only [vx_ot, Bool.or_eq_true] at hg
  rcases hg with hg | hg
  · exact va_tabs hg hvm h
  · exact word_at hW (good_of_word hg) h
/-- a list's words: the good ones out of the method's own list, the others by premises of their own -/
theorem vx_hat {args : Array Value} {s : State} {L B : List Cond} (h1 : ∀ w ∈ L.filter goodWord, w.before args s = true) (h2 : ∀ w ∈ L.filter (fun w => !goodWord w), w ∈ B) (h3 : ∀ w ∈ B, w.before args s = true) : ∀ w ∈ L, w.before args s = true := by
  intro w hw
  by_cases g : goodWord w = true
  · exact h1 w (List.mem_filter.mpr ⟨hw, g⟩)
  · refine h3 w (h2 w (List.mem_filter.mpr ⟨hw, ?_⟩))
    show (!goodWord w) = true
    cases hgw : goodWord w
    · rfl
    · exact absurd hgw g
theorem vx_c {args : Array Value} {s : State} {w : Cond} {B : List Cond} (h : w.before args s = true) (t : ∀ w ∈ B, w.before args s = true) : ∀ w' ∈ w :: B, w'.before args s = true := fun w' h' => (List.mem_cons.mp h').elim (fun e => by rw [e]; exact h) (t w')
theorem vx_n {args : Array Value} {s : State} : ∀ w ∈ ([] : List Cond), w.before args s = true := fun _ h => nomatch h
theorem vx_own {args : Array Value} {s : State} {L : List Cond} (h1 : ∀ w ∈ L.filter vx_no, w.before args s = true)
    (hU : (Cond.isRef (.static Bundle.tN "UNASSIGNED_STACK" Bundle.steD)).before args s = true) (hN : (Cond.isRef (.static Bundle.tN "SUPPRESSED_SENTINEL" Bundle.listD)).before args s = true)
    (lU : (Cond.laysStatic Bundle.tN "UNASSIGNED_STACK" Bundle.steD).before args s = true) (lN : (Cond.laysStatic Bundle.tN "SUPPRESSED_SENTINEL" Bundle.listD).before args s = true) : ∀ w ∈ L, w.before args s = true := by
  intro w hw
  by_cases e1 : w = .isRef (.static Bundle.tN "UNASSIGNED_STACK" Bundle.steD)
  · rw [e1]; exact hU
  · by_cases e2 : w = .isRef (.static Bundle.tN "SUPPRESSED_SENTINEL" Bundle.listD)
    · rw [e2]; exact hN
    · by_cases e3 : w = .laysStatic Bundle.tN "UNASSIGNED_STACK" Bundle.steD
      · rw [e3]; exact lU
      · by_cases e4 : w = .laysStatic Bundle.tN "SUPPRESSED_SENTINEL" Bundle.listD
        · rw [e4]; exact lN
        · exact h1 w (List.mem_filter.mpr ⟨hw, by unfold vx_no; rw [decide_eq_true e1, decide_eq_true e2, decide_eq_true e3, decide_eq_true e4]; rfl⟩)
/-- where a static field lies, its class's statics cell in H -/
def vx_L (C n d : String) (A : Nat → Prop) (U : State) (H : Heap) : Prop := ∃ (c : ClassId) (k : Class) (i : Nat) (f : Field) (a : Nat) (cell : Cell), U.vm.findClass C = some c ∧ U.fieldFound? C n d = some (c, k, i, f) ∧ f.isStatic = true ∧ k.statics = some a ∧ H[a]? = some cell ∧ cell.vm.isStatics = true ∧ cell.cls = c ∧ f.slot < cell.slots.size ∧ k.staticTypes[f.slot]? = some f.type ∧ ¬ A a
theorem vx_L.moved {C n d : String} {A : Nat → Prop} {u U : State} {H : Heap} (hvm : u.vm.Alike U.vm) (h : vx_L C n d A u H) : vx_L C n d A U H := by
  obtain ⟨c, k, i, f, a, cell, h1, h2, h3, h4, h5, h6, h7, h8, h9, h10⟩ := h
  obtain ⟨k', hi', he⟩ := State.fieldFound?_setVm hvm h2
  exact ⟨c, k', i, f, a, cell, by rw [hvm.findClass]; exact h1, hi', h3, by rw [he]; exact h4, h5, h6, h7, h8, by rw [he]; exact h9, h10⟩
theorem vx_L.kept {C n d : String} {A : Nat → Prop} {U : State} {H H1 : Heap} (h : vx_L C n d A U H) (hq : ∀ a : Nat, a < H.size → ¬ A a → H1[a]? = H[a]?) : vx_L C n d A U H1 := by
  obtain ⟨c, k, i, f, a, cell, h1, h2, h3, h4, h5, h6, h7, h8, h9, h10⟩ := h
  exact ⟨c, k, i, f, a, cell, h1, h2, h3, h4, by rw [hq a (Array.getElem?_eq_some_iff.mp h5).1 h10]; exact h5, h6, h7, h8, h9, h10⟩
theorem vx_L.narrow {C n d : String} {A B : Nat → Prop} {U : State} {H : Heap} (h : vx_L C n d A U H) (hAB : ∀ q, B q → A q) : vx_L C n d B U H := by
  obtain ⟨c, k, i, f, a, cell, h1, h2, h3, h4, h5, h6, h7, h8, h9, h10⟩ := h
  exact ⟨c, k, i, f, a, cell, h1, h2, h3, h4, h5, h6, h7, h8, h9, fun z => h10 (hAB _ z)⟩
theorem vx_L.word {C n d : String} {A : Nat → Prop} {s : State} {args : Array Value} (h : vx_L C n d A s s.heap) : (Cond.laysStatic C n d).before args s = true := by
  obtain ⟨c, k, i, f, a, cell, h1, h2, h3, h4, h5, h6, h7, h8, h9, -⟩ := h
  show (Cond.laysStatic C n d).holds args s none s [] = true
  exact Cond.laysStatic_of h1 h2 h3 h4 h5 h6 h7 h8 h9
/-- .. and what it holds: null or some reference -/
def vx_Zq (C n d : String) (A : Nat → Prop) (U : State) (H : Heap) : Prop := va_Zq C n d A U H ∧ vx_L C n d A U H
theorem vx_Zq.moved {C n d : String} {A : Nat → Prop} {u U : State} {H : Heap} (hvm : u.vm.Alike U.vm) (h : vx_Zq C n d A u H) : vx_Zq C n d A U H := ⟨va_Zq.moved hvm h.1, vx_L.moved hvm h.2⟩
theorem vx_Zq.kept {C n d : String} {A : Nat → Prop} {U : State} {H H1 : Heap} (h : vx_Zq C n d A U H) (hq : ∀ a : Nat, a < H.size → ¬ A a → H1[a]? = H[a]?) : vx_Zq C n d A U H1 := ⟨va_Zq.kept h.1 hq, vx_L.kept h.2 hq⟩
theorem vx_Zq.narrow {C n d : String} {A B : Nat → Prop} {U : State} {H : Heap} (h : vx_Zq C n d A U H) (hAB : ∀ q, B q → A q) : vx_Zq C n d B U H := ⟨va_Zq.narrow h.1 hAB, vx_L.narrow h.2 hAB⟩
theorem vx_Zqof {args : Array Value} {s : State} {C n d : String} {A : Nat → Prop} (hl : (Cond.laysStatic C n d).before args s = true) (hini : (Cond.initialized C).before args s = true) (h : (Cond.isRef (.static C n d)).before args s = true) (hA : ∀ a : Nat, a < s.heap.size → ¬ A a) : vx_Zq C n d A s s.heap := by
  refine ⟨va_Zqof hl hini h hA, ?_⟩
  obtain ⟨c, k, i, f, a, cell, h1, h2, h3, h4, h5, h6, h7, h8, h9⟩ := Cond.laysStatic_spec hl
  exact ⟨c, k, i, f, a, cell, h1, h2, h3, h4, h5, h6, h7, h8, h9, hA a (Array.getElem?_eq_some_iff.mp h5).1⟩
theorem vx_isRef {C n d : String} {v : Value} {A : Nat → Prop} {s : State} {args : Array Value} (h : va_Z C n d v A s s.heap) (hv : v.isRef = true) : (Cond.isRef (.static C n d)).before args s = true := by
  obtain ⟨cf, kf, fi, f, a, cell, h1, h2, h3, h4, h5, h6, h7, -⟩ := h
  have he : (Term.static C n d).eval args s none [] s = some v := by
    simp [Term.eval, State.fieldNamed?, h1, h2, h4, h5, h6, h7]
  simp only [Cond.before, Cond.holds, Cond.value, he]
  cases v <;> simp_all [Value.isRef]
theorem vx_isRefq {C n d : String} {A : Nat → Prop} {s : State} {args : Array Value} (h : va_Zq C n d A s s.heap) : (Cond.isRef (.static C n d)).before args s = true := by
  rcases h with h | ⟨t, h⟩
  · exact vx_isRef h rfl
  · exact vx_isRef h rfl
/-- the same frame, seen from here: as if the method were called anew in this heap -/
theorem vx_rebase {T : State} (X : Stand p l e R s m args below meth c T locs cells slots) {R' : Room} (hf : R'.frames ≤ R.frames) (hl : R'.locals ≤ R.locals) (hc : cells + R'.cells ≤ R.cells) (hs : slots + R'.slots ≤ R.slots) :
    Stand p l e R' ((T.setVm s.vm).setFrames (.invoking m args :: below)) m args below meth c T [] 0 0 := by
  have htop : (T.setVm s.vm).topJava?.isSome := X.here.top
  have hF : ((T.setVm s.vm).setFrames (.invoking m args :: below)).frames = .invoking m args :: below := State.frames_setFrames _ (State.cur_lt_of_top htop)
  obtain ⟨g₀, hg0⟩ := Option.isSome_iff_exists.mp htop
  obtain ⟨r, hr⟩ := State.topJava?_eq_some.mp hg0
  have hl9 : e.platform.stackLimits (T.setVm s.vm).me = e.platform.stackLimits s.me := X.limits
  have hb9 : (T.setVm s.vm).me.stackBytes = s.me.stackBytes := X.bytes
  refine ⟨X.admits, X.cas, X.clock, hF, ?_, X.hears, X.method, X.code, X.here, X.tail, X.warmed, ?_, ?_, ?_⟩
  · have h := X.room
    have hU : ((T.setVm s.vm).setFrames (.invoking m args :: below)).localsInUse = s.localsInUse := by
      rw [State.localsInUse_invoking hF (meth := meth) (c := c) X.method X.code, State.localsInUse_invoking X.frames X.method X.code]
    simp only [State.hasRoom, Bool.and_eq_true, decide_eq_true_eq] at h ⊢
    obtain ⟨⟨⟨⟨h1, h2, h3, h4, h5, h6⟩, h7⟩, h8⟩, h9⟩ := h
    rw [X.frames, List.length_cons] at h2 h3
    have q1 := X.heapSize
    have q2 := X.used
    simp only [hF, hU, List.length_cons, State.stackLimits_setFrames, State.stackBytes_setFrames, hl9, hb9]
    refine ⟨⟨⟨⟨by omega, by omega, by omega, by omega, by omega, h6⟩, ?_⟩, ?_⟩, X.book⟩
    · show T.heap.size + R'.cells ≤ e.platform.maxCells
      omega
    · show T.slotsUsed + R'.slots ≤ e.platform.maxSlots
      omega
  · rw [State.stackLimits_setFrames]; rfl
  · rw [State.stackBytes_setFrames]; rfl
  · refine ⟨?_, Nat.le_refl _, Nat.le_refl _, ?_, ?_, fun a c9 h9 => ⟨c9, h9, rfl, rfl, fun _ _ => rfl⟩⟩
    · obtain ⟨t, ht, -⟩ := State.frames_cons hr
      show T.setVm s.vm = { ((T.setVm s.vm).setFrames (.invoking m args :: below)).setFrames (T.setVm s.vm).frames with heap := T.heap, slotsUsed := T.slotsUsed }
      rw [State.setFrames_setFrames, State.setFrames_self ht]
      rfl
    · show T.slotsUsed = T.slotsUsed + ((T.heap.toList.drop T.heap.size).map (·.slots.size)).sum
      rw [List.drop_eq_nil_of_le (Nat.le_of_eq Array.length_toList)]
      rfl
    · show ((T.heap.toList.drop T.heap.size).map (·.slots.size)).sum ≤ 0
      rw [List.drop_eq_nil_of_le (Nat.le_of_eq Array.length_toList)]
      exact Nat.le_refl _
/-- 'throw new E()': new; dup; invokespecial; athrow -/
theorem vx_throw0 {cc : ByteArray} {pc : Nat} (hexec : p.tables.exec = Jvm.exec) (hb : c.code = cc) (hl : l.stackTraces = false) {own cls : String} {names : List String} {ik ic mc ms : Nat} {A : Nat → Prop}
    (hown : s.vm.findClass own = some m.cls) (hcls : Bundle.fit cls = true) (hnames : ∀ n ∈ names, Bundle.fit n = true)
    (hk : (Cond.classLink own ik cls).before args s = true) (hini : (Cond.initialized cls).before args s = true) (hat : ∀ w ∈ vx_at0 own ic cls names, w.before args s = true)
    (hgood : ∀ w ∈ Cond.classLink own ik cls :: Cond.initialized cls :: vx_at0 own ic cls names, vx_ot w = true)
    (hU : vx_Zq Bundle.tN "UNASSIGNED_STACK" Bundle.steD A s s.heap) (hN : vx_Zq Bundle.tN "SUPPRESSED_SENTINEL" Bundle.listD A s s.heap) (hS : va_S A s.heap H locs) (hsize : ls.size = c.maxLocals)
    (d0 : decode cc pc = .ok (.new ik, 3)) (d3 : decode cc (pc + 3) = .ok (.dup, 1)) (d4 : decode cc (pc + 4) = .ok (.invokespecial ic, 3)) (d7 : decode cc (pc + 7) = .ok (.athrow, 1))
    (hout : ∀ x ∈ c.exceptionTable.toList, covers x (pc + 7) = false)
    (hRframes : names.length + 3 < R.frames) (hRlocals : (rest.map fun v => v.category).sum + (13 * (names.length + 1) + 42) ≤ R.locals) (hRcells : cells + 1 ≤ R.cells) (hRslots : slots + 6 ≤ R.slots) (hlocks : meth.locks = false)
    (hx : ∀ t : State, s.vm.Alike t.vm → H.size ≤ t.heap.size → (∀ q : Nat, q < H.size → t.heap[q]? = H[q]?) → XC cls s t)
    (hf : ∀ z ∈ locs, free z.base) (hc : cells + 1 ≤ mc) (hs : slots + 6 ≤ ms) :
    W p l e R s m args below meth c H locs cells slots (vx_MQ below Qc XC args s mc ms free) (F0 m pc ls rest) := by
  intro T hT X
  have htr : e.platform.stackTraces = false := (show e.platform.stackTraces = l.stackTraces by rw [X.admits.platform]).trans hl
  have Y := vx_rebase X (R' := { frames := R.frames, locals := R.locals, cells := 1, slots := 6 }) (Nat.le_refl _) (Nat.le_refl _) hRcells hRslots
  obtain ⟨s', hA⟩ : ∃ z, z = (T.setVm s.vm).setFrames (.invoking m args :: below) := ⟨_, rfl⟩
  rw [← hA] at Y
  have hvm : s'.vm = s.vm := by rw [hA]; rfl
  have hhp : s'.heap = H := by rw [hA]; exact hT
  have hW0 : s.WarmedH s'.vm := by rw [hvm]; exact State.WarmedH.refl s
  have hat' : ∀ w ∈ vx_at0 own ic cls names, w.before args s' = true := fun w hw => vx_ot_at hW0 hvm.symm (hgood w (List.mem_cons_of_mem _ (List.mem_cons_of_mem _ hw))) (hat w hw)
  have hk' : (Cond.classLink own ik cls).before args s' = true := vx_ot_at hW0 hvm.symm (hgood _ List.mem_cons_self) hk
  have hini' : (Cond.initialized cls).before args s' = true := vx_ot_at hW0 hvm.symm (hgood _ (List.mem_cons_of_mem _ List.mem_cons_self)) hini
  have hU' : vx_Zq Bundle.tN "UNASSIGNED_STACK" Bundle.steD A s' s'.heap := by rw [hhp]; exact vx_Zq.moved hW0.alike (hU.kept hS.2.1)
  have hN' : vx_Zq Bundle.tN "SUPPRESSED_SENTINEL" Bundle.listD A s' s'.heap := by rw [hhp]; exact vx_Zq.moved hW0.alike (hN.kept hS.2.1)
  have h : ∀ w ∈ Bundle.ownAtoms0 own ic cls names, w.before args s' = true := vx_own hat' (vx_isRefq hU'.1) (vx_isRefq hN'.1) hU'.2.word hN'.2.word
  have hown' : s'.vm.findClass own = some m.cls := by rw [hvm]; exact hown
  have hins : (Cond.instantiable cls 6).before args s' = true := h _ (by simp [Bundle.ownAtoms0])
  obtain ⟨vm₁, cX, kX, hfX, hkX, -, -, X₁, st1⟩ := Y.newCold hexec (own := own) (C := cls) (index := ik) (n := 6) hown' hk' hins hini'
    (g := F0 m pc ls rest) rfl (by rw [hb]; exact d0) (Nat.le_refl _) (Nat.le_refl _)
  generalize hT1 : (T.setVm vm₁).pushCell { cls := cX, slots := kX.instanceTypes.map defaultValue, vm := .none } = T1 at X₁ st1
  have hcat : (Value.ref T.heap.size).category = 1 := rfl
  have hcellA : T1.heap[T.heap.size]? = some (freshCell cX kX) := by rw [← hT1]; exact State.heap_pushCell_size _ _
  have d3' : decode c.code (pc + 3) = .ok (.dup, 1) := by rw [hb]; exact d3
  obtain ⟨U, hsteps, hrun, hend, hW, hsame, ce, hce, hO⟩ := X₁.ctorThrow0 hexec htr (own := own) (cls := cls) (names := names) (ic := ic) hown' hcls hnames h (fun x hx => nomatch hx) hfX hkX hcellA (by rw [hhp, hT]; exact Nat.le_refl _)
    (g := { method := m, pc := pc + 4, locals := ls, stack := .ref T.heap.size :: .ref T.heap.size :: rest, locked := none }) rfl hsize rfl rfl (rest := rest) rfl
    (by rw [hb]; exact d4) (by rw [hb]; exact d7) hout hRframes (by simp only [List.map_cons, List.sum_cons, hcat]; omega) hlocks
  obtain ⟨f1, f2⟩ := vx_frame hsame
  rw [hhp] at f1 f2
  have hWs : s.WarmedH U.vm := State.WarmedH.trans hW0 hW
  have hcl : s.vm.findClass cls = some ce.cls := by
    have h9 := hO.cls
    rw [hvm] at h9
    exact h9
  have hall : s.sameButNew ({ U with vm := s.vm } : State) locs mc ms := by
    subst hA
    obtain ⟨e1, e2⟩ := hsame
    rw [State.setFrames_setFrames] at e1
    have h2 : (T.setVm s.vm).sameButNew ({ U with vm := s.vm } : State) [] (0 + 1) (0 + 6) := ⟨e1, e2⟩
    have h3 := X.same.trans h2
    rw [List.append_nil] at h3
    exact h3.mono hc hs
  refine ⟨U, ?_, .threw T.heap.size, hrun, hend, Or.inr ⟨T.heap.size, rfl, cls, ce, locs, hx U hWs.alike f1 (fun q hq => f2 q hq (fun z hz => nomatch hz)), hce, hO.vm, hcl, hWs, hall, hf⟩⟩
  refine st1 _ ?_
  show Steps p.tables e below (T1.setTop { method := m, pc := pc + 3, locals := ls, stack := .ref T.heap.size :: rest, locked := none }) _
  jvm_step X₁.here [X₁.here.top, hexec, d3', Value.category]
  exact hsteps
/-- 'throw new E("text")': new; dup; ldc; invokespecial; athrow -/
theorem vx_throwS {cc : ByteArray} {pc : Nat} (hexec : p.tables.exec = Jvm.exec) (hb : c.code = cc) (hl : l.stackTraces = false) {own cls text : String} {names : List String} {ik is ic mc ms sa : Nat} {A : Nat → Prop}
    (hown : s.vm.findClass own = some m.cls) (hcls : Bundle.fit cls = true) (hnames : ∀ n ∈ names, Bundle.fit n = true)
    (hk : (Cond.classLink own ik cls).before args s = true) (hini : (Cond.initialized cls).before args s = true) (hstr : vk_R own is text sa s) (hat : ∀ w ∈ vx_atS own ic cls names, w.before args s = true)
    (hgood : ∀ w ∈ Cond.classLink own ik cls :: Cond.initialized cls :: vx_atS own ic cls names, vx_ot w = true)
    (hU : vx_Zq Bundle.tN "UNASSIGNED_STACK" Bundle.steD A s s.heap) (hN : vx_Zq Bundle.tN "SUPPRESSED_SENTINEL" Bundle.listD A s s.heap) (hS : va_S A s.heap H locs) (hsize : ls.size = c.maxLocals)
    (d0 : decode cc pc = .ok (.new ik, 3)) (d3 : decode cc (pc + 3) = .ok (.dup, 1)) (d4 : decode cc (pc + 4) = .ok (.ldc is, 2)) (d6 : decode cc (pc + 6) = .ok (.invokespecial ic, 3)) (d9 : decode cc (pc + 9) = .ok (.athrow, 1))
    (hout : ∀ x ∈ c.exceptionTable.toList, covers x (pc + 9) = false)
    (hRframes : names.length + 3 < R.frames) (hRlocals : (rest.map fun v => v.category).sum + (13 * (names.length + 1) + 43) ≤ R.locals) (hRcells : cells + 1 ≤ R.cells) (hRslots : slots + 6 ≤ R.slots) (hlocks : meth.locks = false)
    (hx : ∀ t : State, s.vm.Alike t.vm → H.size ≤ t.heap.size → (∀ q : Nat, q < H.size → t.heap[q]? = H[q]?) → XC cls s t)
    (hf : ∀ z ∈ locs, free z.base) (hc : cells + 1 ≤ mc) (hs : slots + 6 ≤ ms) :
    W p l e R s m args below meth c H locs cells slots (vx_MQ below Qc XC args s mc ms free) (F0 m pc ls rest) := by
  intro T hT X
  have htr : e.platform.stackTraces = false := (show e.platform.stackTraces = l.stackTraces by rw [X.admits.platform]).trans hl
  have Y := vx_rebase X (R' := { frames := R.frames, locals := R.locals, cells := 1, slots := 6 }) (Nat.le_refl _) (Nat.le_refl _) hRcells hRslots
  obtain ⟨s', hA⟩ : ∃ z, z = (T.setVm s.vm).setFrames (.invoking m args :: below) := ⟨_, rfl⟩
  rw [← hA] at Y
  have hvm : s'.vm = s.vm := by rw [hA]; rfl
  have hhp : s'.heap = H := by rw [hA]; exact hT
  have hW0 : s.WarmedH s'.vm := by rw [hvm]; exact State.WarmedH.refl s
  have hat' : ∀ w ∈ vx_atS own ic cls names, w.before args s' = true := fun w hw => vx_ot_at hW0 hvm.symm (hgood w (List.mem_cons_of_mem _ (List.mem_cons_of_mem _ hw))) (hat w hw)
  have hk' : (Cond.classLink own ik cls).before args s' = true := vx_ot_at hW0 hvm.symm (hgood _ List.mem_cons_self) hk
  have hini' : (Cond.initialized cls).before args s' = true := vx_ot_at hW0 hvm.symm (hgood _ (List.mem_cons_of_mem _ List.mem_cons_self)) hini
  have hU' : vx_Zq Bundle.tN "UNASSIGNED_STACK" Bundle.steD A s' s'.heap := by rw [hhp]; exact vx_Zq.moved hW0.alike (hU.kept hS.2.1)
  have hN' : vx_Zq Bundle.tN "SUPPRESSED_SENTINEL" Bundle.listD A s' s'.heap := by rw [hhp]; exact vx_Zq.moved hW0.alike (hN.kept hS.2.1)
  have h : ∀ w ∈ Bundle.ownAtoms own ic cls names, w.before args s' = true := vx_own hat' (vx_isRefq hU'.1) (vx_isRefq hN'.1) hU'.2.word hN'.2.word
  have hown' : s'.vm.findClass own = some m.cls := by rw [hvm]; exact hown
  have hins : (Cond.instantiable cls 6).before args s' = true := h _ (by simp [Bundle.ownAtoms])
  obtain ⟨vm₁, cX, kX, hfX, hkX, -, -, X₁, st1⟩ := Y.newCold hexec (own := own) (C := cls) (index := ik) (n := 6) hown' hk' hins hini'
    (g := F0 m pc ls rest) rfl (by rw [hb]; exact d0) (Nat.le_refl _) (Nat.le_refl _)
  generalize hT1 : (T.setVm vm₁).pushCell { cls := cX, slots := kX.instanceTypes.map defaultValue, vm := .none } = T1 at X₁ st1
  have hcat : (Value.ref T.heap.size).category = 1 := rfl
  have hcellA : T1.heap[T.heap.size]? = some (freshCell cX kX) := by rw [← hT1]; exact State.heap_pushCell_size _ _
  have d3' : decode c.code (pc + 3) = .ok (.dup, 1) := by rw [hb]; exact d3
  have d4' : decode c.code (pc + 4) = .ok (.ldc is, 2) := by rw [hb]; exact d4
  have hstr' : vk_R own is text sa s' := vk_R.warm hW0 hstr
  obtain ⟨U, hsteps, hrun, hend, hW, hsame, ce, hce, hO⟩ := X₁.ctorThrowS hexec htr (own := own) (cls := cls) (names := names) (ic := ic) hown' hcls hnames h (fun x hx => nomatch hx) hfX hkX hcellA (by rw [hhp, hT]; exact Nat.le_refl _) (msg := .ref sa) rfl
    (g := { method := m, pc := pc + 6, locals := ls, stack := .ref sa :: .ref T.heap.size :: .ref T.heap.size :: rest, locked := none }) rfl hsize rfl rfl (rest := rest) rfl
    (by rw [hb]; exact d6) (by rw [hb]; exact d9) hout hRframes (by simp only [List.map_cons, List.sum_cons, hcat]; omega) hlocks
  obtain ⟨f1, f2⟩ := vx_frame hsame
  rw [hhp] at f1 f2
  have hWs : s.WarmedH U.vm := State.WarmedH.trans hW0 hW
  have hcl : s.vm.findClass cls = some ce.cls := by
    have h9 := hO.cls
    rw [hvm] at h9
    exact h9
  have hall : s.sameButNew ({ U with vm := s.vm } : State) locs mc ms := by
    subst hA
    obtain ⟨e1, e2⟩ := hsame
    rw [State.setFrames_setFrames] at e1
    have h2 : (T.setVm s.vm).sameButNew ({ U with vm := s.vm } : State) [] (0 + 1) (0 + 6) := ⟨e1, e2⟩
    have h3 := X.same.trans h2
    rw [List.append_nil] at h3
    exact h3.mono hc hs
  refine ⟨U, ?_, .threw T.heap.size, hrun, hend, Or.inr ⟨T.heap.size, rfl, cls, ce, locs, hx U hWs.alike f1 (fun q hq => f2 q hq (fun z hz => nomatch hz)), hce, hO.vm, hcl, hWs, hall, hf⟩⟩
  refine st1 _ ?_
  show Steps p.tables e below (T1.setTop { method := m, pc := pc + 3, locals := ls, stack := .ref T.heap.size :: rest, locked := none }) _
  jvm_step X₁.here [X₁.here.top, hexec, d3', Value.category]
  exact X₁.ldcString hexec (own := own) (text := text) (index := is) (a := sa) hown' hstr'.1 hstr'.2
    (g := { method := m, pc := pc + 4, locals := ls, stack := .ref T.heap.size :: .ref T.heap.size :: rest, locked := none }) rfl d4' _ hsteps
/-- 'throw new E("text")', the text by a wide index -/
theorem vx_throwSW {cc : ByteArray} {pc : Nat} (hexec : p.tables.exec = Jvm.exec) (hb : c.code = cc) (hl : l.stackTraces = false) {own cls text : String} {names : List String} {ik is ic mc ms sa : Nat} {A : Nat → Prop}
    (hown : s.vm.findClass own = some m.cls) (hcls : Bundle.fit cls = true) (hnames : ∀ n ∈ names, Bundle.fit n = true)
    (hk : (Cond.classLink own ik cls).before args s = true) (hini : (Cond.initialized cls).before args s = true) (hstr : vk_R own is text sa s) (hat : ∀ w ∈ vx_atS own ic cls names, w.before args s = true)
    (hgood : ∀ w ∈ Cond.classLink own ik cls :: Cond.initialized cls :: vx_atS own ic cls names, vx_ot w = true)
    (hU : vx_Zq Bundle.tN "UNASSIGNED_STACK" Bundle.steD A s s.heap) (hN : vx_Zq Bundle.tN "SUPPRESSED_SENTINEL" Bundle.listD A s s.heap) (hS : va_S A s.heap H locs) (hsize : ls.size = c.maxLocals)
    (d0 : decode cc pc = .ok (.new ik, 3)) (d3 : decode cc (pc + 3) = .ok (.dup, 1)) (d4 : decode cc (pc + 4) = .ok (.ldc_w is, 3)) (d7 : decode cc (pc + 7) = .ok (.invokespecial ic, 3)) (d10 : decode cc (pc + 10) = .ok (.athrow, 1))
    (hout : ∀ x ∈ c.exceptionTable.toList, covers x (pc + 10) = false)
    (hRframes : names.length + 3 < R.frames) (hRlocals : (rest.map fun v => v.category).sum + (13 * (names.length + 1) + 43) ≤ R.locals) (hRcells : cells + 1 ≤ R.cells) (hRslots : slots + 6 ≤ R.slots) (hlocks : meth.locks = false)
    (hx : ∀ t : State, s.vm.Alike t.vm → H.size ≤ t.heap.size → (∀ q : Nat, q < H.size → t.heap[q]? = H[q]?) → XC cls s t)
    (hf : ∀ z ∈ locs, free z.base) (hc : cells + 1 ≤ mc) (hs : slots + 6 ≤ ms) :
    W p l e R s m args below meth c H locs cells slots (vx_MQ below Qc XC args s mc ms free) (F0 m pc ls rest) := by
  intro T hT X
  have htr : e.platform.stackTraces = false := (show e.platform.stackTraces = l.stackTraces by rw [X.admits.platform]).trans hl
  have Y := vx_rebase X (R' := { frames := R.frames, locals := R.locals, cells := 1, slots := 6 }) (Nat.le_refl _) (Nat.le_refl _) hRcells hRslots
  obtain ⟨s', hA⟩ : ∃ z, z = (T.setVm s.vm).setFrames (.invoking m args :: below) := ⟨_, rfl⟩
  rw [← hA] at Y
  have hvm : s'.vm = s.vm := by rw [hA]; rfl
  have hhp : s'.heap = H := by rw [hA]; exact hT
  have hW0 : s.WarmedH s'.vm := by rw [hvm]; exact State.WarmedH.refl s
  have hat' : ∀ w ∈ vx_atS own ic cls names, w.before args s' = true := fun w hw => vx_ot_at hW0 hvm.symm (hgood w (List.mem_cons_of_mem _ (List.mem_cons_of_mem _ hw))) (hat w hw)
  have hk' : (Cond.classLink own ik cls).before args s' = true := vx_ot_at hW0 hvm.symm (hgood _ List.mem_cons_self) hk
  have hini' : (Cond.initialized cls).before args s' = true := vx_ot_at hW0 hvm.symm (hgood _ (List.mem_cons_of_mem _ List.mem_cons_self)) hini
  have hU' : vx_Zq Bundle.tN "UNASSIGNED_STACK" Bundle.steD A s' s'.heap := by rw [hhp]; exact vx_Zq.moved hW0.alike (hU.kept hS.2.1)
  have hN' : vx_Zq Bundle.tN "SUPPRESSED_SENTINEL" Bundle.listD A s' s'.heap := by rw [hhp]; exact vx_Zq.moved hW0.alike (hN.kept hS.2.1)
  have h : ∀ w ∈ Bundle.ownAtoms own ic cls names, w.before args s' = true := vx_own hat' (vx_isRefq hU'.1) (vx_isRefq hN'.1) hU'.2.word hN'.2.word
  have hown' : s'.vm.findClass own = some m.cls := by rw [hvm]; exact hown
  have hins : (Cond.instantiable cls 6).before args s' = true := h _ (by simp [Bundle.ownAtoms])
  obtain ⟨vm₁, cX, kX, hfX, hkX, -, -, X₁, st1⟩ := Y.newCold hexec (own := own) (C := cls) (index := ik) (n := 6) hown' hk' hins hini'
    (g := F0 m pc ls rest) rfl (by rw [hb]; exact d0) (Nat.le_refl _) (Nat.le_refl _)
  generalize hT1 : (T.setVm vm₁).pushCell { cls := cX, slots := kX.instanceTypes.map defaultValue, vm := .none } = T1 at X₁ st1
  have hcat : (Value.ref T.heap.size).category = 1 := rfl
  have hcellA : T1.heap[T.heap.size]? = some (freshCell cX kX) := by rw [← hT1]; exact State.heap_pushCell_size _ _
  have d3' : decode c.code (pc + 3) = .ok (.dup, 1) := by rw [hb]; exact d3
  have d4' : decode c.code (pc + 4) = .ok (.ldc_w is, 3) := by rw [hb]; exact d4
  have hstr' : vk_R own is text sa s' := vk_R.warm hW0 hstr
  obtain ⟨U, hsteps, hrun, hend, hW, hsame, ce, hce, hO⟩ := X₁.ctorThrowS hexec htr (own := own) (cls := cls) (names := names) (ic := ic) hown' hcls hnames h (fun x hx => nomatch hx) hfX hkX hcellA (by rw [hhp, hT]; exact Nat.le_refl _) (msg := .ref sa) rfl
    (g := { method := m, pc := pc + 7, locals := ls, stack := .ref sa :: .ref T.heap.size :: .ref T.heap.size :: rest, locked := none }) rfl hsize rfl rfl (rest := rest) rfl
    (by rw [hb]; exact d7) (by rw [hb]; exact d10) hout hRframes (by simp only [List.map_cons, List.sum_cons, hcat]; omega) hlocks
  obtain ⟨f1, f2⟩ := vx_frame hsame
  rw [hhp] at f1 f2
  have hWs : s.WarmedH U.vm := State.WarmedH.trans hW0 hW
  have hcl : s.vm.findClass cls = some ce.cls := by
    have h9 := hO.cls
    rw [hvm] at h9
    exact h9
  have hall : s.sameButNew ({ U with vm := s.vm } : State) locs mc ms := by
    subst hA
    obtain ⟨e1, e2⟩ := hsame
    rw [State.setFrames_setFrames] at e1
    have h2 : (T.setVm s.vm).sameButNew ({ U with vm := s.vm } : State) [] (0 + 1) (0 + 6) := ⟨e1, e2⟩
    have h3 := X.same.trans h2
    rw [List.append_nil] at h3
    exact h3.mono hc hs
  refine ⟨U, ?_, .threw T.heap.size, hrun, hend, Or.inr ⟨T.heap.size, rfl, cls, ce, locs, hx U hWs.alike f1 (fun q hq => f2 q hq (fun z hz => nomatch hz)), hce, hO.vm, hcl, hWs, hall, hf⟩⟩
  refine st1 _ ?_
  show Steps p.tables e below (T1.setTop { method := m, pc := pc + 3, locals := ls, stack := .ref T.heap.size :: rest, locked := none }) _
  jvm_step X₁.here [X₁.here.top, hexec, d3', Value.category]
  exact X₁.ldcStringW hexec (own := own) (text := text) (index := is) (a := sa) hown' hstr'.1 hstr'.2
    (g := { method := m, pc := pc + 4, locals := ls, stack := .ref T.heap.size :: .ref T.heap.size :: rest, locked := none }) rfl d4' _ hsteps
end Ends
section Bodies
variable {l : Launch}
theorem vx_ofW {y : MethodName} {ws ws' : List Cond} {rm : Room} {Pc : Array Value → State → Prop} {Qc : Array Value → State → Outcome → State → Prop} {XC : String → State → State → Prop} {mc ms : Nat} {free : Addr → Prop} {cc : ByteArray} {maxL : Nat} {ret : Option FieldType}
    (hy : plainName y.cls = true) (hw : ws = Cond.code y cc maxL ret :: ws')
    (body : ∀ p e s m args below meth c s₁, BodyLoose p l y (headSpec ws rm) cc maxL ret e s m args below meth c s₁ → c.maxLocals = maxL → (∀ x ∈ c.exceptionTable.toList, False) → Pc args s →
      W p l e (headSpec ws rm).room s m args below meth c s.heap [] 0 0 (vx_MQ below Qc XC args s mc ms free) (entryFrame m args maxL)) : vx_Met l y ws rm Pc Qc XC mc ms free := by
  refine MetFree.of_bodyS (code := cc) (maxLocals := maxL) (ret := ret) hy ?_ ?_
  · intro args s m h hn
    obtain ⟨meth, c, h1, h2, h3, h4, h5, h6, -, -⟩ := Cond.code_spec hn (atoms_spec (ws := ws) h _ (by rw [hw]; exact List.mem_cons_self))
    exact ⟨meth, c, h1, h2, h3, h4, h5, h6⟩
  · intro p e s m args below meth c s₁ B hml hP _
    have hh0 : s₁.heap = s.heap := by rw [B.state]; rfl
    have ht : ∀ x ∈ c.exceptionTable.toList, False := by
      obtain ⟨meth9, c9, h1, h2, -, -, -, -, h7, -⟩ := Cond.code_spec B.named (atoms_spec (ws := ws) B.pre _ (by rw [hw]; exact List.mem_cons_self))
      cases Option.some.inj (h1.symm.trans B.method)
      cases Option.some.inj (h2.symm.trans (Stand.of_body B).code)
      intro x hx
      rw [Array.isEmpty_iff.mp h7] at hx
      cases hx
    obtain ⟨t, a1, o, b1, b2, b3⟩ := body p e s m args below meth c s₁ B hml ht hP s₁ hh0 (Stand.of_body B)
    exact ⟨t, o, a1, b1, b2, b3⟩
/-- the table of a body with handlers -/
theorem vx_table {p : Program} {x y : MethodName} {S : Spec} {cc bytes : ByteArray} {maxL maxL' : Nat} {ret ret' : Option FieldType} {e : Env} {s s₁ : State} {m : MethodId} {args : Array Value} {below : List Frame} {meth : Method} {c : Code} {hh : List (Nat × Nat × Nat × Nat)}
    (B : BodyLoose p l y S cc maxL ret e s m args below meth c s₁) (h : (Cond.codeWith y bytes maxL' ret' hh).before args s = true) : c.exceptionTable.toList = tableOf hh := by
  obtain ⟨m9, meth9, c9, hn9, h1, h2, -, -, h6, -⟩ := Cond.codeWith_spec h
  cases Option.some.inj (hn9.symm.trans B.named)
  cases Option.some.inj (h1.symm.trans B.method)
  cases Option.some.inj (h2.symm.trans (Stand.of_body B).code)
  rw [← h6, table_eq]
end Bodies
end VXA
/-! ===== END ===== -/
/-! ===== BEGIN a static call of a method with an exception table ===== -/
section VXS
variable {p : Program} {l : Launch} {e : Env} {R : Room} {s : State} {m : MethodId} {args : Array Value} {below : List Frame} {meth : Method} {c : Code} {T : State} {H : Heap} {locs : List Loc} {cells slots : Nat}
abbrev vx_CSW (R : Room) (s : State) (args : Array Value) (own : String) (index : Nat) (y : MethodName) (bytes : ByteArray) (maxL : Nat) (ret : Option FieldType) (hh : List (Nat × Nat × Nat × Nat)) (ws : List Cond) (rm : Room) (mc ms n : Nat) : Prop :=
  (rm.cells = mc ∧ rm.slots = ms ∧ rm.frames + 1 ≤ R.frames ∧ 8 + (maxL + 11) + rm.locals ≤ R.locals ∧ (∀ w ∈ ws, ∀ (a' : Array Value) (U : State), s.WarmedH U.vm → w.before a' U = true) ∧ Cond.codeWith y bytes maxL ret hh ∈ ws) ∧
  (Cond.codeWith y bytes maxL ret hh).before args s = true ∧ (Cond.initialized y.cls).before args s = true ∧ (y.cls ≠ "java/lang/invoke/MethodHandle" ∧ y.cls ≠ "java/lang/invoke/VarHandle") ∧
  (∀ sig, parseMethodDescriptor y.desc = some sig → n = sig.parameters.length) ∧ (Cond.methodLink own index y).before args s = true ∧ (Cond.static y).before args s = true
theorem vx_cwSW {own : String} {index maxL mc ms : Nat} {y : MethodName} {bytes : ByteArray} {ret : Option FieldType} {hh : List (Nat × Nat × Nat × Nat)} {Ts ws ws' : List Cond} {rm : Room} (n : Nat) (ht : ∀ w ∈ Ts, w.before args s = true) (hT : GoodIn Ts (va_wsS own index y ws)) (hw : ws = Cond.codeWith y bytes maxL ret hh :: ws') (hrc : rm.cells = mc) (hrs : rm.slots = ms)
    (hd : y.cls ≠ "java/lang/invoke/MethodHandle" ∧ y.cls ≠ "java/lang/invoke/VarHandle" ∧ (parseMethodDescriptor y.desc).map (fun d => d.parameters.length) = some n) (hR : rm.frames + 1 ≤ R.frames ∧ 8 + (maxL + 11) + rm.locals ≤ R.locals) :
    vx_CSW R s args own index y bytes maxL ret hh ws rm mc ms n := by
  have ok : ∀ w ∈ va_wsS own index y ws, w.before args s = true := fun w h => ht w (hT w h).1
  have hG : GoodIn Ts ws := fun w h => hT w (by unfold va_wsS; exact List.mem_append_right _ h)
  have hc : Cond.codeWith y bytes maxL ret hh ∈ ws := by rw [hw]; exact List.mem_cons_self
  refine ⟨⟨hrc, hrs, hR.1, hR.2, pay_in ht hG, hc⟩, ht _ (hG _ hc).1, ok _ (by simp [va_wsS]), ⟨hd.1, hd.2.1⟩, fun sig h => ?_, ok _ (by simp [va_wsS]), ok _ (by simp [va_wsS])⟩
  have h2 := hd.2.2
  rw [h] at h2
  exact (Option.some.inj h2).symm
theorem vx_callSW (X : Stand p l e R s m args below meth c T locs cells slots) (hexec : p.tables.exec = Jvm.exec) {own : String} {index : Nat} {y : MethodName} {bytes : ByteArray} {maxL : Nat} {ret : Option FieldType} {hh : List (Nat × Nat × Nat × Nat)}
    (hown : s.vm.findClass own = some m.cls) (hlink : (Cond.methodLink own index y).before args s = true) (hstat : (Cond.static y).before args s = true) (hinit : (Cond.initialized y.cls).before args s = true)
    (hcode : (Cond.codeWith y bytes maxL ret hh).before args s = true) (hy : y.cls ≠ "java/lang/invoke/MethodHandle" ∧ y.cls ≠ "java/lang/invoke/VarHandle")
    {W9 : Nat} {Pre : Pt → Array Value → Prop} {Post : Pt → Array Value → Option Value → Pt → Prop} (hK : Back l R p e below s args y 3 W9 Pre Post)
    {g : JFrame} (hg : g.method = m) (hsize : g.locals.size = c.maxLocals) {argsL rest : List Value} (hlen : ∀ sig, parseMethodDescriptor y.desc = some sig → argsL.length = sig.parameters.length)
    (hstack : g.stack = argsL.reverse ++ rest) (hW : 2 * g.monitorRoom + (rest.map fun v => v.category).sum ≤ W9) (hdg : decode c.code g.pc = .ok (.invokestatic index, 3))
    (hpre : ∀ vm₁, s.WarmedH vm₁ → Pre ⟨T.setVm vm₁, locs, cells, slots⟩ argsL.toArray) :
    ∃ (v : Option Value) (vm₁ : Vm) (B : Pt), s.WarmedH vm₁ ∧ Stand p l e R s m args below meth c B.U B.locs B.cells B.slots ∧ Post ⟨T.setVm vm₁, locs, cells, slots⟩ argsL.toArray v B ∧
      ∀ target, Steps p.tables e below (B.U.setTop { g with pc := g.pc + 3, stack := v.toList ++ rest }) target → Steps p.tables e below (T.setTop g) target := by
  obtain ⟨mk, methM, cM, hnamed, hmethM, -, -, -, -, -, -, hsigM⟩ := Cond.codeWith_spec hcode
  have hstatic : methM.isStatic = true := Cond.static_spec hnamed hmethM hstat
  obtain ⟨kP, hkP, -⟩ := className_of_methodNamed hnamed
  have hinitP : kP.init = .initialized := Cond.initialized_spec (findClass_of_methodNamed hnamed) hkP hinit
  obtain ⟨vm₁, X₁, hstep₁⟩ := X.invokestatic hexec hown hlink hnamed hmethM hstatic hkP hinitP hy (g := g) hg (argsL := argsL) (rest := rest) (hlen _ hsigM) hstack hdg
  obtain ⟨v, B, X', hpost, hsteps⟩ := hK m meth c ⟨T.setVm vm₁, locs, cells, slots⟩ { g with stack := rest } (.invokestatic index) mk argsL.toArray X₁ hg hsize hdg hW (X₁.named hnamed) (hpre vm₁ X₁.warmed)
  exact ⟨v, vm₁, B, X₁.warmed, X', hpost, fun target h => hstep₁ _ fun acts => by rw [doInvoke_state]; exact hsteps.trans h⟩
theorem vx_runSW {y : MethodName} {bytes cc : ByteArray} {maxL nL mc ms n index : Nat} {ret : Option FieldType} {hh : List (Nat × Nat × Nat × Nat)} {ws : List Cond} {rm : Room} {Pc : Array Value → State → Prop} {Qc : Array Value → State → Outcome → State → Prop} {free : Addr → Prop} {Ts : List Cond} {own : String} {As rest : List Value} {g : JFrame}
    (S : CallFix p m c cc nL s args Ts own) (hM : Met l y ws rm Pc Qc mc ms free) (cw : vx_CSW R s args own index y bytes maxL ret hh ws rm mc ms n) (hp : PreS s H Pc As)
    (hg : g.method = m) (hn : As.length = n) (hsize : g.locals.size = nL) (hstack : g.stack = As.reverse ++ rest) (hW : 2 * g.monitorRoom + (rest.map fun v => v.category).sum ≤ 8) (hdg : decode cc g.pc = .ok (.invokestatic index, 3)) (hf : cells + mc ≤ R.cells ∧ slots + ms ≤ R.slots) :
    va_Run p l e R s m args below meth c H locs cells slots mc ms g rest (Qc As.toArray) (free) := by
  obtain ⟨⟨hrc, hrs, hfr, hlo, hws, hcw⟩, hcode, hini, hy, hlen, hl, hstt⟩ := cw
  have hK : Back l R p e below s args y 3 8 (PreOf R mc ms Pc) (PostOf Qc mc ms free) := va_backW (hh := hh) (bytes := bytes) (maxL := maxL) (ret := ret) hM hp.1 hrc hrs hfr hlo hws hcw (fun a' U hW => word_at hW (Or.inl (by first | rfl | simp [Cond.onTables, Cond.keeps, Cond.steady])) hini)
  obtain ⟨hx, hb, hml, ho, -⟩ := S
  intro T hT X
  obtain ⟨v, vm₁, ⟨U', l2, c2, s2⟩, hW₁, X', ⟨g', mk, t, L, e1, e2, hq, h1, hL, h2, h3⟩, st⟩ := vx_callSW X hx (hh := hh) (bytes := bytes) (maxL := maxL) (ret := ret) ho hl hstt hini hcode hy hK hg (hsize.trans hml.symm) (argsL := As) (rest := rest) (fun sig h => hn.trans (hlen sig h)) hstack hW (by rw [hb]; exact hdg)
    (fun vm₁ hW₁ => ⟨hf.1, hf.2, hp.2 (T.setVm vm₁) hT hW₁⟩)
  dsimp only [Pt.U, Pt.locs, Pt.cells, Pt.slots] at X' e1 e2 h1 h2 h3 st
  subst h1; subst h2; subst h3
  exact ⟨v, (T.setVm vm₁).calling g' mk As.toArray, t, U', L, hT, X', hL, e1, e2, hq, st⟩
/-- not caught here, past rows that name other classes: it goes on to the caller -/
theorem vx_outP {p : Program} {l : Launch} {e : Env} {R : Room} {s : State} {m : MethodId} {args : Array Value} {below : List Frame} {meth : Method} {c : Code} {H : Heap} {locs : List Loc} {cells slots : Nat} {free : Addr → Prop} {ls : Array Slot} {rest : List Value} {Qc : Array Value → State → Outcome → State → Prop} {XC : String → State → State → Prop}
    {pc : Nat} {own E : String} {ce : Cell} {q : Addr} {mc ms : Nat} (hown : s.vm.findClass own = some m.cls) (hlocks : meth.locks = false)
    (hpass : ∀ z ∈ c.exceptionTable.toList, covers z pc = false ∨ (z.catchType ≠ 0 ∧ ∃ nm : String, (Cond.classLink own z.catchType nm).before args s = true ∧ va_Nc E nm s)) (hcell : H[q]? = some ce) (hv : ce.vm = .none) (hcl : s.vm.findClass E = some ce.cls)
    (hx : ∀ t : State, t.heap = H → s.vm.Alike t.vm → XC E s t) (hf : ∀ z ∈ locs, free z.base) (hc : cells ≤ mc) (hs : slots ≤ ms) :
    vx_W p l e R s m args below meth c H locs cells slots (vx_MQ below Qc XC args s mc ms free) (F0 m pc ls rest) q := by
  intro T hT X
  have hpl : e.platform.magicAccessors = ({} : Platform).magicAccessors := by rw [X.admits.platform]
  obtain ⟨vm', hW', X', st⟩ := X.outThrough hlocks q (g := F0 m pc ls rest) rfl rfl rfl (cell := ce) (by rw [hT]; exact hcell) (by rw [hv]; rfl)
    (by obtain ⟨k9, h9, -⟩ := Vm.findClass_spec hcl; exact ⟨k9, h9⟩) (fun z hz => by
      rcases hpass z hz with h | ⟨hz0, nm, hl1, hn1⟩
      · exact Or.inl h
      · obtain ⟨c6, hc6, hcl6⟩ := Cond.classLink_spec hown hl1 e.platform hpl
        obtain ⟨a8, b8, h1, h2, h3⟩ := hn1
        cases Option.some.inj (h1.symm.trans hcl)
        cases Option.some.inj (h2.symm.trans hc6)
        exact Or.inr ⟨hz0, _, hcl6, h3⟩)
  obtain ⟨g₀, hfr⟩ := X'.frames_eq
  have hcell9 : ((T.setVm vm').setFrames (.throwing q :: below)).heap[q]? = some ce := by
    show T.heap[q]? = some ce
    rw [hT]; exact hcell
  have hend : Ended ((T.setVm vm').setFrames (.throwing q :: below)) below (.threw q) := State.frames_setFrames _ (State.cur_lt_of_frames hfr)
  refine ⟨(T.setVm vm').setFrames (.throwing q :: below), ?_, .threw q, X'.here.running, hend, Or.inr ⟨q, rfl, E, ce, locs, hx _ hT (X'.ends _).1.alike, hcell9, hv, hcl, (X'.ends _).1, (X'.ends _).2.mono hc hs, hf⟩⟩
  rw [X.pushThrowing_eq]
  exact st
/-- a thing of a world lies in the heap -/
theorem vx_lt {D : va_G} {cl : List vw_C} {ws : va_W} {H1 : Heap} (h : va_P D cl ws H1) {k : Nat} {q : Nat × va_E} (hk : ws[k]? = some q) : q.1 < H1.size := (h k q hk).lt
end VXS
/-! ===== END ===== -/
/-! ===== BEGIN methods with a table of their own: called by a name, returning or throwing ===== -/
section VXH
/-! vx_backW, vx_callVX, vx_callSX, vx_callVW, vx_runVW, vx_runVX, vx_runSX, vx_ofWH follow the same proofs as their sisters above (Free/Laws.lean, Shelf42/LK1.lean); vx_outP calls Shelf42/NT130.lean (outThrough). -/
section
variable {l : Launch} {R : Room} {p : Program} {e : Env} {below : List Frame} {s : State} {sargs : Array Value} {y : MethodName} {len W9 : Nat}
theorem vx_backW {ws : List Cond} {rm : Room} {Pc : Array Value → State → Prop} {Qc : Array Value → State → Outcome → State → Prop} {XC : String → State → State → Prop} {mc ms : Nat} {free : Addr → Prop} {bytes : ByteArray} {maxL : Nat} {ret : Option FieldType} {hh : List (Nat × Nat × Nat × Nat)}
    (hM : vx_Met l y ws rm Pc Qc XC mc ms free) (hblind : FrameBlind Pc) (hrc : rm.cells = mc) (hrs : rm.slots = ms)
    (hframes : rm.frames + 1 ≤ R.frames) (hlocals : W9 + (maxL + 11) + rm.locals ≤ R.locals)
    (hws : ∀ w ∈ ws, ∀ a' U, s.WarmedH U.vm → w.before a' U = true) (hcode : Cond.codeWith y bytes maxL ret hh ∈ ws) (hinit : ∀ a' U, s.WarmedH U.vm → (Cond.initialized y.cls).before a' U = true) :
    vx_Back l R p e below s sargs y len W9 (PreOf R mc ms Pc) (PostOf Qc mc ms free) (vx_Post XC mc ms free) := by
  intro m meth c A g ig mk a X hg hsize hdg hW hn hp
  have h1 : (headSpec ws rm).pre.before a A.U = true := atoms_intro fun w hw => hws w hw _ _ X.warmed
  have h2 : (Cond.codeWith y bytes maxL ret hh).before a A.U = true := hws _ hcode _ _ X.warmed
  have h3 : (Cond.initialized y.cls).before a A.U = true := hinit _ _ X.warmed
  have h4 : A.cells + (headSpec ws rm).room.cells ≤ R.cells := by rw [show (headSpec ws rm).room.cells = mc from hrc]; exact hp.1
  have h5 : A.slots + (headSpec ws rm).room.slots ≤ R.slots := by rw [show (headSpec ws rm).room.slots = ms from hrs]; exact hp.2.1
  have hPc : Pc a (A.U.calling g mk a) := hblind _ _ _ _ hp.2.2
  obtain ⟨U, Ls, c0, s0⟩ := A
  dsimp only [Pt.U, Pt.locs, Pt.cells, Pt.slots] at h1 h2 h3 h4 h5 X hn hPc ⊢
  obtain ⟨m9, methY, cY, hn9, hmY, hcY, -, hlY, -⟩ := Cond.codeWith_spec h2
  cases Option.some.inj (hn9.symm.trans hn)
  obtain ⟨kY, hkY, -⟩ := className_of_methodNamed hn
  have hinitY : kY.init = .initialized := Cond.initialized_spec (findClass_of_methodNamed hn) hkY h3
  have h : At U g.method c below := by rw [hg]; exact X.here
  have hlocals9 : W9 + (maxL + 11) + (headSpec ws rm).room.locals ≤ R.locals := hlocals
  have happ : (headSpec ws rm).appliesLoose y e.platform (U.calling g mk a) = true :=
    Spec.appliesLoose_calling (g := g) h hdg hn hkY hinitY
      (X.room_calling (g := g) (R' := (headSpec ws rm).room) hsize hmY hcY hframes (by rw [hlY]; omega) h4 h5) h1
  obtain ⟨mid, hmid⟩ := h.above
  have hfr : (U.setTop g).frames = (.java g :: mid) ++ below := by rw [State.frames_setTop' g h.top, hmid]; rfl
  obtain ⟨o, s₂, hsteps, -, hend, hq⟩ := Steps.callFree hM p X.admits X.cas X.clock (acts := []) hfr happ hPc trivial
  have hq' : vx_Q Qc XC mc ms free a (U.calling g mk a) o s₂ := hq
  rw [State.frames_setTop' g h.top] at hend
  obtain ⟨g₀, hg0⟩ := Option.isSome_iff_exists.mp h.top
  obtain ⟨r, hr⟩ := State.topJava?_eq_some.mp hg0
  have hr' : (({ U with heap := s₂.heap, slotsUsed := s₂.slotsUsed } : State).setVm s₂.vm).frames = .java g₀ :: r := hr
  rcases hq' with ⟨hqc, L, hfe, hL⟩ | ⟨q, rfl, E, ce, L, hx, hce, hcv, hcl, hW₂, hsm, hL⟩
  · obtain ⟨⟨v, rfl⟩, hW₂, e2, q2, q3, q4, q5, q6⟩ := id hfe
    have e3 : s₂ = ({ (U.calling g mk a).setFrames s₂.frames with heap := s₂.heap, slotsUsed := s₂.slotsUsed } : State).setVm s₂.vm := by
      have : s₂ = ({ s₂ with vm := (U.calling g mk a).vm } : State).setVm s₂.vm := rfl
      rw [e2] at this
      exact this
    obtain ⟨c₂, i₂, len₂, hc₂, hd₂, hf₂⟩ := hend
    have hW' : U.WarmedH s₂.vm := hW₂
    have hcc : c₂ = c := by
      have h1 : s₂.code? g.method = U.code? g.method := by
        rw [State.code?_eq, State.code?_eq, hW'.alike.method?]
      exact Option.some.inj (hc₂.symm.trans (h1.trans h.code))
    subst hcc
    have hlen : len₂ = len := by rw [hdg] at hd₂; cases hd₂; rfl
    subst hlen
    have hs₂ : s₂ = (({ U with heap := s₂.heap, slotsUsed := s₂.slotsUsed } : State).setVm s₂.vm).setTop { g with pc := g.pc + len₂, stack := v.toList ++ g.stack } := by
      refine e3.trans ?_
      rw [hf₂, State.calling_eq h.top, State.setFrames_setFrames, State.setTop_of_frames _ hr', hr]
      rfl
    have hsame : U.sameButNew ({ U with heap := s₂.heap, slotsUsed := s₂.slotsUsed } : State) L mc ms := by
      refine ⟨?_, q2, q3, q4, q5, q6⟩
      obtain ⟨t, ht, -⟩ := State.frames_cons hr
      show ({ U with heap := s₂.heap, slotsUsed := s₂.slotsUsed } : State) = { U.setFrames U.frames with heap := s₂.heap, slotsUsed := s₂.slotsUsed }
      rw [State.setFrames_self ht]
    subst hg
    refine Or.inl ⟨v, ⟨(({ U with heap := s₂.heap, slotsUsed := s₂.slotsUsed } : State).setVm s₂.vm), Ls ++ L, c0 + mc, s0 + ms⟩,
      ⟨X.admits, X.cas, X.clock, X.frames, X.room, X.hears, X.method, X.code, (X.here.setHeapUsed s₂.heap s₂.slotsUsed).setVm hW'.alike, X.tail, State.WarmedH.trans X.warmed hW', X.limits, X.bytes, X.same.trans (hsame.setVm s.vm)⟩,
      ⟨g, mk, s₂, L, rfl, rfl, hqc, rfl, hL, rfl, rfl⟩, ?_⟩
    show Steps p.tables e below _ ((({ U with heap := s₂.heap, slotsUsed := s₂.slotsUsed } : State).setVm s₂.vm).setTop { g with pc := g.pc + len₂, stack := v.toList ++ g.stack })
    rw [← hs₂]
    exact hsteps
  · obtain ⟨e2, q2, q3, q4, q5, q6⟩ := id hsm
    have e3 : s₂ = ({ (U.calling g mk a).setFrames s₂.frames with heap := s₂.heap, slotsUsed := s₂.slotsUsed } : State).setVm s₂.vm := by
      have : s₂ = ({ s₂ with vm := (U.calling g mk a).vm } : State).setVm s₂.vm := rfl
      rw [e2] at this
      exact this
    have hf₂ : s₂.frames = .throwing q :: .java g :: U.frames.tail := hend
    have hW' : U.WarmedH s₂.vm := hW₂
    have hs₂ : s₂ = ((({ U with heap := s₂.heap, slotsUsed := s₂.slotsUsed } : State).setVm s₂.vm).setTop g).pushFrame (.throwing q) := by
      refine e3.trans ?_
      rw [hf₂, State.calling_eq h.top, State.setFrames_setFrames, State.pushFrame, State.frames_setTop _ hr', State.setTop_of_frames _ hr', State.setFrames_setFrames, hr]
      rfl
    have hsame : U.sameButNew ({ U with heap := s₂.heap, slotsUsed := s₂.slotsUsed } : State) L mc ms := by
      refine ⟨?_, q2, q3, q4, q5, q6⟩
      obtain ⟨t, ht, -⟩ := State.frames_cons hr
      show ({ U with heap := s₂.heap, slotsUsed := s₂.slotsUsed } : State) = { U.setFrames U.frames with heap := s₂.heap, slotsUsed := s₂.slotsUsed }
      rw [State.setFrames_self ht]
    subst hg
    refine Or.inr ⟨q, ⟨(({ U with heap := s₂.heap, slotsUsed := s₂.slotsUsed } : State).setVm s₂.vm), Ls ++ L, c0 + mc, s0 + ms⟩,
      ⟨X.admits, X.cas, X.clock, X.frames, X.room, X.hears, X.method, X.code, (X.here.setHeapUsed s₂.heap s₂.slotsUsed).setVm hW'.alike, X.tail, State.WarmedH.trans X.warmed hW', X.limits, X.bytes, X.same.trans (hsame.setVm s.vm)⟩,
      ⟨g, mk, s₂, L, E, ce, rfl, rfl, hx, hce, hcv, hcl, rfl, hL, rfl, rfl⟩, ?_⟩
    show Steps p.tables e below _ (((({ U with heap := s₂.heap, slotsUsed := s₂.slotsUsed } : State).setVm s₂.vm).setTop g).pushFrame (.throwing q))
    rw [← hs₂]
    exact hsteps
end
variable {p : Program} {l : Launch} {e : Env} {R : Room} {s : State} {m : MethodId} {args : Array Value} {below : List Frame} {meth : Method} {c : Code} {T : State} {H : Heap} {locs : List Loc} {cells slots : Nat}
theorem vx_callVX (X : Stand p l e R s m args below meth c T locs cells slots) (hexec : p.tables.exec = Jvm.exec) {own C : String} {index : Nat} {y : MethodName} {bytes : ByteArray} {maxL : Nat} {ret : Option FieldType} {hh : List (Nat × Nat × Nat × Nat)}
    (hown : s.vm.findClass own = some m.cls) (hlink : (Cond.methodLink own index y).before args s = true) (hinst : (Cond.instanceMethod y).before args s = true) (hsel : (Cond.selects C y y).before args s = true)
    (hcode : (Cond.codeWith y bytes maxL ret hh).before args s = true) (hy : y.cls ≠ "java/lang/invoke/MethodHandle" ∧ y.cls ≠ "java/lang/invoke/VarHandle")
    {W9 : Nat} {Pre : Pt → Array Value → Prop} {Post : Pt → Array Value → Option Value → Pt → Prop} {PostX : Pt → Array Value → Addr → Pt → Prop} (hK : vx_Back l R p e below s args y 3 W9 Pre Post PostX)
    {b : Addr} {cellB : Cell} (hcell : T.heap[b]? = some cellB) (hobj : cellB.vm.isStatics = false) (hcls : s.vm.findClass C = some cellB.cls)
    {g : JFrame} (hg : g.method = m) (hsize : g.locals.size = c.maxLocals) {argsL rest : List Value} (hlen : ∀ sig, parseMethodDescriptor y.desc = some sig → argsL.length = sig.parameters.length)
    (hstack : g.stack = argsL.reverse ++ .ref b :: rest) (hW : 2 * g.monitorRoom + (rest.map fun v => v.category).sum ≤ W9) (hdg : decode c.code g.pc = .ok (.invokevirtual index, 3))
    (hpre : ∀ vm₁, s.WarmedH vm₁ → Pre ⟨T.setVm vm₁, locs, cells, slots⟩ (Value.ref b :: argsL).toArray) :
    (∃ (v : Option Value) (vm₁ : Vm) (B : Pt), s.WarmedH vm₁ ∧ Stand p l e R s m args below meth c B.U B.locs B.cells B.slots ∧ Post ⟨T.setVm vm₁, locs, cells, slots⟩ (Value.ref b :: argsL).toArray v B ∧
      ∀ target, Steps p.tables e below (B.U.setTop { g with pc := g.pc + 3, stack := v.toList ++ rest }) target → Steps p.tables e below (T.setTop g) target) ∨
    (∃ (q : Addr) (vm₁ : Vm) (B : Pt), s.WarmedH vm₁ ∧ Stand p l e R s m args below meth c B.U B.locs B.cells B.slots ∧ PostX ⟨T.setVm vm₁, locs, cells, slots⟩ (Value.ref b :: argsL).toArray q B ∧
      Steps p.tables e below (T.setTop g) ((B.U.setTop { g with stack := rest }).pushFrame (.throwing q))) := by
  obtain ⟨mk, methM, hnamed, hmethM, hstM, habM⟩ := Cond.instanceMethod_spec hinst
  obtain ⟨m8, methM', cM, hn8, hmethM', -, -, -, -, -, -, hsigM⟩ := Cond.codeWith_spec hcode
  cases Option.some.inj (hn8.symm.trans hnamed)
  cases hmethM.symm.trans hmethM'
  obtain ⟨c2, r2, m2, q1, q2, q3, q4, kP, hkP, hkPi⟩ := Cond.selects_spec hsel
  cases hcls.symm.trans q1
  cases (State.methodFound?_of_named hnamed hy).symm.trans q2
  cases hnamed.symm.trans q3
  have hselP : selectMethod e.platform s.vm cellB.cls mk = .method mk := by rw [Launch.admits_selectMethod X.admits]; exact q4
  obtain ⟨vm₁, X₁, hstep₁⟩ := X.invokevirtual hexec hown hlink hnamed hmethM hstM hkP hkPi hy (a := b) (cell := cellB) hcell
    (fun z h => by rw [h] at hobj; cases hobj) hselP hmethM habM hkP hkPi (g := g) hg (argsL := argsL) (rest := rest) (hlen _ hsigM) hstack hdg
  rcases hK m meth c ⟨T.setVm vm₁, locs, cells, slots⟩ { g with stack := rest } (.invokevirtual index) mk (Value.ref b :: argsL).toArray X₁ hg hsize hdg hW (X₁.named hnamed) (hpre vm₁ X₁.warmed) with ⟨v, B, X', hpost, hsteps⟩ | ⟨q, B, X', hpost, hsteps⟩
  · exact Or.inl ⟨v, vm₁, B, X₁.warmed, X', hpost, fun target h => hstep₁ _ fun acts => by rw [doInvoke_state]; exact hsteps.trans h⟩
  · exact Or.inr ⟨q, vm₁, B, X₁.warmed, X', hpost, hstep₁ _ fun acts => by rw [doInvoke_state]; exact hsteps⟩
theorem vx_callSX (X : Stand p l e R s m args below meth c T locs cells slots) (hexec : p.tables.exec = Jvm.exec) {own : String} {index : Nat} {y : MethodName} {bytes : ByteArray} {maxL : Nat} {ret : Option FieldType} {hh : List (Nat × Nat × Nat × Nat)}
    (hown : s.vm.findClass own = some m.cls) (hlink : (Cond.methodLink own index y).before args s = true) (hstat : (Cond.static y).before args s = true) (hinit : (Cond.initialized y.cls).before args s = true)
    (hcode : (Cond.codeWith y bytes maxL ret hh).before args s = true) (hy : y.cls ≠ "java/lang/invoke/MethodHandle" ∧ y.cls ≠ "java/lang/invoke/VarHandle")
    {W9 : Nat} {Pre : Pt → Array Value → Prop} {Post : Pt → Array Value → Option Value → Pt → Prop} {PostX : Pt → Array Value → Addr → Pt → Prop} (hK : vx_Back l R p e below s args y 3 W9 Pre Post PostX)
    {g : JFrame} (hg : g.method = m) (hsize : g.locals.size = c.maxLocals) {argsL rest : List Value} (hlen : ∀ sig, parseMethodDescriptor y.desc = some sig → argsL.length = sig.parameters.length)
    (hstack : g.stack = argsL.reverse ++ rest) (hW : 2 * g.monitorRoom + (rest.map fun v => v.category).sum ≤ W9) (hdg : decode c.code g.pc = .ok (.invokestatic index, 3))
    (hpre : ∀ vm₁, s.WarmedH vm₁ → Pre ⟨T.setVm vm₁, locs, cells, slots⟩ argsL.toArray) :
    (∃ (v : Option Value) (vm₁ : Vm) (B : Pt), s.WarmedH vm₁ ∧ Stand p l e R s m args below meth c B.U B.locs B.cells B.slots ∧ Post ⟨T.setVm vm₁, locs, cells, slots⟩ argsL.toArray v B ∧
      ∀ target, Steps p.tables e below (B.U.setTop { g with pc := g.pc + 3, stack := v.toList ++ rest }) target → Steps p.tables e below (T.setTop g) target) ∨
    (∃ (q : Addr) (vm₁ : Vm) (B : Pt), s.WarmedH vm₁ ∧ Stand p l e R s m args below meth c B.U B.locs B.cells B.slots ∧ PostX ⟨T.setVm vm₁, locs, cells, slots⟩ argsL.toArray q B ∧
      Steps p.tables e below (T.setTop g) ((B.U.setTop { g with stack := rest }).pushFrame (.throwing q))) := by
  obtain ⟨mk, methM, cM, hnamed, hmethM, -, -, -, -, -, -, hsigM⟩ := Cond.codeWith_spec hcode
  have hstatic : methM.isStatic = true := Cond.static_spec hnamed hmethM hstat
  obtain ⟨kP, hkP, -⟩ := className_of_methodNamed hnamed
  have hinitP : kP.init = .initialized := Cond.initialized_spec (findClass_of_methodNamed hnamed) hkP hinit
  obtain ⟨vm₁, X₁, hstep₁⟩ := X.invokestatic hexec hown hlink hnamed hmethM hstatic hkP hinitP hy (g := g) hg (argsL := argsL) (rest := rest) (hlen _ hsigM) hstack hdg
  rcases hK m meth c ⟨T.setVm vm₁, locs, cells, slots⟩ { g with stack := rest } (.invokestatic index) mk argsL.toArray X₁ hg hsize hdg hW (X₁.named hnamed) (hpre vm₁ X₁.warmed) with ⟨v, B, X', hpost, hsteps⟩ | ⟨q, B, X', hpost, hsteps⟩
  · exact Or.inl ⟨v, vm₁, B, X₁.warmed, X', hpost, fun target h => hstep₁ _ fun acts => by rw [doInvoke_state]; exact hsteps.trans h⟩
  · exact Or.inr ⟨q, vm₁, B, X₁.warmed, X', hpost, hstep₁ _ fun acts => by rw [doInvoke_state]; exact hsteps⟩
theorem vx_callVW (X : Stand p l e R s m args below meth c T locs cells slots) (hexec : p.tables.exec = Jvm.exec) {own C : String} {index : Nat} {y : MethodName} {bytes : ByteArray} {maxL : Nat} {ret : Option FieldType} {hh : List (Nat × Nat × Nat × Nat)}
    (hown : s.vm.findClass own = some m.cls) (hlink : (Cond.methodLink own index y).before args s = true) (hinst : (Cond.instanceMethod y).before args s = true) (hsel : (Cond.selects C y y).before args s = true)
    (hcode : (Cond.codeWith y bytes maxL ret hh).before args s = true) (hy : y.cls ≠ "java/lang/invoke/MethodHandle" ∧ y.cls ≠ "java/lang/invoke/VarHandle")
    {W9 : Nat} {Pre : Pt → Array Value → Prop} {Post : Pt → Array Value → Option Value → Pt → Prop} (hK : Back l R p e below s args y 3 W9 Pre Post)
    {b : Addr} {cellB : Cell} (hcell : T.heap[b]? = some cellB) (hobj : cellB.vm.isStatics = false) (hcls : s.vm.findClass C = some cellB.cls)
    {g : JFrame} (hg : g.method = m) (hsize : g.locals.size = c.maxLocals) {argsL rest : List Value} (hlen : ∀ sig, parseMethodDescriptor y.desc = some sig → argsL.length = sig.parameters.length)
    (hstack : g.stack = argsL.reverse ++ .ref b :: rest) (hW : 2 * g.monitorRoom + (rest.map fun v => v.category).sum ≤ W9) (hdg : decode c.code g.pc = .ok (.invokevirtual index, 3))
    (hpre : ∀ vm₁, s.WarmedH vm₁ → Pre ⟨T.setVm vm₁, locs, cells, slots⟩ (Value.ref b :: argsL).toArray) :
    ∃ (v : Option Value) (vm₁ : Vm) (B : Pt), s.WarmedH vm₁ ∧ Stand p l e R s m args below meth c B.U B.locs B.cells B.slots ∧ Post ⟨T.setVm vm₁, locs, cells, slots⟩ (Value.ref b :: argsL).toArray v B ∧
      ∀ target, Steps p.tables e below (B.U.setTop { g with pc := g.pc + 3, stack := v.toList ++ rest }) target → Steps p.tables e below (T.setTop g) target := by
  obtain ⟨mk, methM, hnamed, hmethM, hstM, habM⟩ := Cond.instanceMethod_spec hinst
  obtain ⟨m8, methM', cM, hn8, hmethM', -, -, -, -, -, -, hsigM⟩ := Cond.codeWith_spec hcode
  cases Option.some.inj (hn8.symm.trans hnamed)
  cases hmethM.symm.trans hmethM'
  obtain ⟨c2, r2, m2, q1, q2, q3, q4, kP, hkP, hkPi⟩ := Cond.selects_spec hsel
  cases hcls.symm.trans q1
  cases (State.methodFound?_of_named hnamed hy).symm.trans q2
  cases hnamed.symm.trans q3
  have hselP : selectMethod e.platform s.vm cellB.cls mk = .method mk := by rw [Launch.admits_selectMethod X.admits]; exact q4
  obtain ⟨vm₁, X₁, hstep₁⟩ := X.invokevirtual hexec hown hlink hnamed hmethM hstM hkP hkPi hy (a := b) (cell := cellB) hcell
    (fun z h => by rw [h] at hobj; cases hobj) hselP hmethM habM hkP hkPi (g := g) hg (argsL := argsL) (rest := rest) (hlen _ hsigM) hstack hdg
  obtain ⟨v, B, X', hpost, hsteps⟩ := hK m meth c ⟨T.setVm vm₁, locs, cells, slots⟩ { g with stack := rest } (.invokevirtual index) mk (Value.ref b :: argsL).toArray X₁ hg hsize hdg hW (X₁.named hnamed) (hpre vm₁ X₁.warmed)
  exact ⟨v, vm₁, B, X₁.warmed, X', hpost, fun target h => hstep₁ _ fun acts => by rw [doInvoke_state]; exact hsteps.trans h⟩
abbrev vx_CVW (R : Room) (s : State) (args : Array Value) (own C : String) (index : Nat) (y : MethodName) (bytes : ByteArray) (maxL : Nat) (ret : Option FieldType) (hh : List (Nat × Nat × Nat × Nat)) (ws : List Cond) (rm : Room) (mc ms n : Nat) : Prop :=
  (rm.cells = mc ∧ rm.slots = ms ∧ rm.frames + 1 ≤ R.frames ∧ 8 + (maxL + 11) + rm.locals ≤ R.locals ∧ (∀ w ∈ ws, ∀ (a' : Array Value) (U : State), s.WarmedH U.vm → w.before a' U = true) ∧ Cond.codeWith y bytes maxL ret hh ∈ ws) ∧
  (Cond.codeWith y bytes maxL ret hh).before args s = true ∧ (Cond.initialized y.cls).before args s = true ∧ (y.cls ≠ "java/lang/invoke/MethodHandle" ∧ y.cls ≠ "java/lang/invoke/VarHandle") ∧
  (∀ sig, parseMethodDescriptor y.desc = some sig → n = sig.parameters.length) ∧ (Cond.methodLink own index y).before args s = true ∧ (Cond.instanceMethod y).before args s = true ∧ (Cond.selects C y y).before args s = true
theorem vx_cwVW {own C : String} {index maxL mc ms : Nat} {y : MethodName} {bytes : ByteArray} {ret : Option FieldType} {hh : List (Nat × Nat × Nat × Nat)} {Ts ws ws' : List Cond} {rm : Room} (n : Nat) (ht : ∀ w ∈ Ts, w.before args s = true) (hT : GoodIn Ts (wsV own index C y ws)) (hw : ws = Cond.codeWith y bytes maxL ret hh :: ws') (hrc : rm.cells = mc) (hrs : rm.slots = ms)
    (hd : y.cls = C ∧ y.cls ≠ "java/lang/invoke/MethodHandle" ∧ y.cls ≠ "java/lang/invoke/VarHandle" ∧ (parseMethodDescriptor y.desc).map (fun d => d.parameters.length) = some n) (hR : rm.frames + 1 ≤ R.frames ∧ 8 + (maxL + 11) + rm.locals ≤ R.locals) :
    vx_CVW R s args own C index y bytes maxL ret hh ws rm mc ms n := by
  obtain ⟨hC, hd⟩ := hd
  subst hC
  have ok : ∀ w ∈ wsV own index y.cls y ws, w.before args s = true := fun w h => ht w (hT w h).1
  have hG : GoodIn Ts ws := fun w h => hT w (by unfold wsV; exact List.mem_append_right _ h)
  have hc : Cond.codeWith y bytes maxL ret hh ∈ ws := by rw [hw]; exact List.mem_cons_self
  refine ⟨⟨hrc, hrs, hR.1, hR.2, pay_in ht hG, hc⟩, ht _ (hG _ hc).1, ok _ (by simp [wsV]), ⟨hd.1, hd.2.1⟩, fun sig h => ?_, ok _ (by simp [wsV]), ok _ (by simp [wsV]), ok _ (by simp [wsV])⟩
  have h2 := hd.2.2
  rw [h] at h2
  exact (Option.some.inj h2).symm
theorem vx_runVW {y : MethodName} {bytes cc : ByteArray} {maxL nL mc ms n index : Nat} {ret : Option FieldType} {hh : List (Nat × Nat × Nat × Nat)} {ws : List Cond} {rm : Room} {Pc : Array Value → State → Prop} {Qc : Array Value → State → Outcome → State → Prop} {free : Addr → Prop} {Ts : List Cond} {own C : String} {b : Addr} {As rest : List Value} {g : JFrame}
    (S : CallFix p m c cc nL s args Ts own) (hM : Met l y ws rm Pc Qc mc ms free) (cw : vx_CVW R s args own C index y bytes maxL ret hh ws rm mc ms n) (hp : PreV s H C b Pc As)
    (hg : g.method = m) (hn : As.length = n) (hsize : g.locals.size = nL) (hstack : g.stack = As.reverse ++ .ref b :: rest) (hW : 2 * g.monitorRoom + (rest.map fun v => v.category).sum ≤ 8) (hdg : decode cc g.pc = .ok (.invokevirtual index, 3)) (hf : cells + mc ≤ R.cells ∧ slots + ms ≤ R.slots) :
    va_Run p l e R s m args below meth c H locs cells slots mc ms g rest (Qc (Value.ref b :: As).toArray) free := by
  obtain ⟨⟨hrc, hrs, hfr, hlo, hws, hcw⟩, hcode, hini, hy, hlen, hl, hin, hse⟩ := cw
  have hK : Back l R p e below s args y 3 8 (PreOf R mc ms Pc) (PostOf Qc mc ms free) := va_backW (hh := hh) (bytes := bytes) (maxL := maxL) (ret := ret) hM hp.1 hrc hrs hfr hlo hws hcw (fun a' U hW => word_at hW (Or.inl (by first | rfl | simp [Cond.onTables, Cond.keeps, Cond.steady])) hini)
  obtain ⟨hx, hb, hml, ho, -⟩ := S
  obtain ⟨-, ⟨cellB, hcB, hoB, hclB⟩, hPc⟩ := hp
  intro T hT X
  obtain ⟨v, vm₁, ⟨U', l2, c2, s2⟩, hW₁, X', ⟨g', mk, t, L, e1, e2, hq, h1, hL, h2, h3⟩, st⟩ := vx_callVW X hx (C := C) (hh := hh) (bytes := bytes) (maxL := maxL) (ret := ret) ho hl hin hse hcode hy hK (by rw [hT]; exact hcB) hoB hclB hg (hsize.trans hml.symm) (argsL := As) (rest := rest) (fun sig h => hn.trans (hlen sig h)) hstack hW (by rw [hb]; exact hdg)
    (fun vm₁ hW₁ => ⟨hf.1, hf.2, hPc (T.setVm vm₁) hT hW₁⟩)
  dsimp only [Pt.U, Pt.locs, Pt.cells, Pt.slots] at X' e1 e2 h1 h2 h3 st
  subst h1; subst h2; subst h3
  exact ⟨v, (T.setVm vm₁).calling g' mk (Value.ref b :: As).toArray, t, U', L, hT, X', hL, e1, e2, hq, st⟩
section
variable {y : MethodName} {bytes cc : ByteArray} {maxL nL mc ms n index : Nat} {ret : Option FieldType} {ws : List Cond} {rm : Room} {Pc : Array Value → State → Prop} {Qc : Array Value → State → Outcome → State → Prop} {XC : String → State → State → Prop} {free : Addr → Prop} {Ts : List Cond} {own C : String} {b : Addr} {As rest : List Value} {g : JFrame}
theorem vx_runVX {hh : List (Nat × Nat × Nat × Nat)} (S : CallFix p m c cc nL s args Ts own) (hM : vx_Met l y ws rm Pc Qc XC mc ms free) (cw : vx_CVW R s args own C index y bytes maxL ret hh ws rm mc ms n) (hp : PreV s H C b Pc As)
    (hg : g.method = m) (hn : As.length = n) (hsize : g.locals.size = nL) (hstack : g.stack = As.reverse ++ .ref b :: rest) (hW : 2 * g.monitorRoom + (rest.map fun v => v.category).sum ≤ 8) (hdg : decode cc g.pc = .ok (.invokevirtual index, 3)) (hf : cells + mc ≤ R.cells ∧ slots + ms ≤ R.slots) :
    vx_Run p l e R s m args below meth c H locs cells slots mc ms g rest (Qc (Value.ref b :: As).toArray) XC free := by
  obtain ⟨⟨hrc, hrs, hfr, hlo, hws, hcw⟩, hcode, hini, hy, hlen, hl, hin, hse⟩ := cw
  have hK : vx_Back l R p e below s args y 3 8 (PreOf R mc ms Pc) (PostOf Qc mc ms free) (vx_Post XC mc ms free) := vx_backW (hh := hh) (bytes := bytes) (maxL := maxL) (ret := ret) hM hp.1 hrc hrs hfr hlo hws hcw (fun a' U hW => word_at hW (Or.inl (by first | rfl | simp [Cond.onTables, Cond.keeps, Cond.steady])) hini)
  obtain ⟨hx, hb, hml, ho, -⟩ := S
  obtain ⟨-, ⟨cellB, hcB, hoB, hclB⟩, hPc⟩ := hp
  intro T hT X
  rcases vx_callVX X hx (C := C) (hh := hh) (bytes := bytes) (maxL := maxL) (ret := ret) ho hl hin hse hcode hy hK (by rw [hT]; exact hcB) hoB hclB hg (hsize.trans hml.symm) (argsL := As) (rest := rest) (fun sig h => hn.trans (hlen sig h)) hstack hW (by rw [hb]; exact hdg)
    (fun vm₁ hW₁ => ⟨hf.1, hf.2, hPc (T.setVm vm₁) hT hW₁⟩) with ⟨v, vm₁, ⟨U', l2, c2, s2⟩, hW₁, X', ⟨g', mk, t, L, e1, e2, hq, h1, hL, h2, h3⟩, st⟩ | ⟨q, vm₁, ⟨U', l2, c2, s2⟩, hW₁, X', ⟨g', mk, t, L, E, ce, e1, e2, hq, hce, hcv, hcl, h1, hL, h2, h3⟩, st⟩
  · dsimp only [Pt.U, Pt.locs, Pt.cells, Pt.slots] at X' e1 e2 h1 h2 h3 st
    subst h1; subst h2; subst h3
    exact Or.inl ⟨v, (T.setVm vm₁).calling g' mk (Value.ref b :: As).toArray, t, U', L, hT, X', hL, e1, e2, hq, st⟩
  · dsimp only [Pt.U, Pt.locs, Pt.cells, Pt.slots] at X' e1 e2 h1 h2 h3 st hcl
    subst h1; subst h2; subst h3
    exact Or.inr ⟨q, (T.setVm vm₁).calling g' mk (Value.ref b :: As).toArray, t, U', L, E, ce, hT, X', hL, e1, e2, hq, hce, hcv, vx_cls hW₁ hcl, st⟩
theorem vx_runSX {hh : List (Nat × Nat × Nat × Nat)} (S : CallFix p m c cc nL s args Ts own) (hM : vx_Met l y ws rm Pc Qc XC mc ms free) (cw : vx_CSW R s args own index y bytes maxL ret hh ws rm mc ms n) (hp : PreS s H Pc As)
    (hg : g.method = m) (hn : As.length = n) (hsize : g.locals.size = nL) (hstack : g.stack = As.reverse ++ rest) (hW : 2 * g.monitorRoom + (rest.map fun v => v.category).sum ≤ 8) (hdg : decode cc g.pc = .ok (.invokestatic index, 3)) (hf : cells + mc ≤ R.cells ∧ slots + ms ≤ R.slots) :
    vx_Run p l e R s m args below meth c H locs cells slots mc ms g rest (Qc As.toArray) XC free := by
  obtain ⟨⟨hrc, hrs, hfr, hlo, hws, hcw⟩, hcode, hini, hy, hlen, hl, hstt⟩ := cw
  have hK : vx_Back l R p e below s args y 3 8 (PreOf R mc ms Pc) (PostOf Qc mc ms free) (vx_Post XC mc ms free) := vx_backW (hh := hh) (bytes := bytes) (maxL := maxL) (ret := ret) hM hp.1 hrc hrs hfr hlo hws hcw (fun a' U hW => word_at hW (Or.inl (by first | rfl | simp [Cond.onTables, Cond.keeps, Cond.steady])) hini)
  obtain ⟨hx, hb, hml, ho, -⟩ := S
  intro T hT X
  rcases vx_callSX X hx (hh := hh) (bytes := bytes) (maxL := maxL) (ret := ret) ho hl hstt hini hcode hy hK hg (hsize.trans hml.symm) (argsL := As) (rest := rest) (fun sig h => hn.trans (hlen sig h)) hstack hW (by rw [hb]; exact hdg)
    (fun vm₁ hW₁ => ⟨hf.1, hf.2, hp.2 (T.setVm vm₁) hT hW₁⟩) with ⟨v, vm₁, ⟨U', l2, c2, s2⟩, hW₁, X', ⟨g', mk, t, L, e1, e2, hq, h1, hL, h2, h3⟩, st⟩ | ⟨q, vm₁, ⟨U', l2, c2, s2⟩, hW₁, X', ⟨g', mk, t, L, E, ce, e1, e2, hq, hce, hcv, hcl, h1, hL, h2, h3⟩, st⟩
  · dsimp only [Pt.U, Pt.locs, Pt.cells, Pt.slots] at X' e1 e2 h1 h2 h3 st
    subst h1; subst h2; subst h3
    exact Or.inl ⟨v, (T.setVm vm₁).calling g' mk As.toArray, t, U', L, hT, X', hL, e1, e2, hq, st⟩
  · dsimp only [Pt.U, Pt.locs, Pt.cells, Pt.slots] at X' e1 e2 h1 h2 h3 st hcl
    subst h1; subst h2; subst h3
    exact Or.inr ⟨q, (T.setVm vm₁).calling g' mk As.toArray, t, U', L, E, ce, hT, X', hL, e1, e2, hq, hce, hcv, vx_cls hW₁ hcl, st⟩
end
end VXH
theorem vx_ofWH {l : Launch} {y : MethodName} {ws ws' : List Cond} {rm : Room} {Pc : Array Value → State → Prop} {Qc : Array Value → State → Outcome → State → Prop} {XC : String → State → State → Prop} {mc ms : Nat} {free : Addr → Prop} {cc : ByteArray} {maxL : Nat} {ret : Option FieldType} {hh : List (Nat × Nat × Nat × Nat)}
    (hy : plainName y.cls = true) (hw : ws = Cond.codeWith y cc maxL ret hh :: ws')
    (body : ∀ p e s m args below meth c s₁, BodyLoose p l y (headSpec ws rm) cc maxL ret e s m args below meth c s₁ → c.maxLocals = maxL → Pc args s →
      W p l e (headSpec ws rm).room s m args below meth c s.heap [] 0 0 (vx_MQ below Qc XC args s mc ms free) (entryFrame m args maxL)) : vx_Met l y ws rm Pc Qc XC mc ms free := by
  refine MetFree.of_bodyS (code := cc) (maxLocals := maxL) (ret := ret) hy ?_ ?_
  · intro args s m h hn
    obtain ⟨m9, meth, c, hn9, h1, h2, h3, h4, -, h5, h6, -⟩ := Cond.codeWith_spec (atoms_spec (ws := ws) h _ (by rw [hw]; exact List.mem_cons_self))
    cases hn.symm.trans hn9
    exact ⟨meth, c, h1, h2, h3, h4, h5, h6⟩
  · intro p e s m args below meth c s₁ B hml hP _
    have hh0 : s₁.heap = s.heap := by rw [B.state]; rfl
    obtain ⟨t, a1, o, b1, b2, b3⟩ := body p e s m args below meth c s₁ B hml hP s₁ hh0 (Stand.of_body B)
    exact ⟨t, o, a1, b1, b2, b3⟩
/-! ===== END ===== -/
end
section
/-! ===== BEGIN printed: names, fields, word lists, decode rows ===== -/
def RX0 : String := "CueStack$Cue"
def TX0 : u_T := fun k => match k with
  | 0 => ("CueStack$Cue", "number", "I", false)
  | 1 => ("CueStack$Cue", "followTime", "I", false)
  | 2 => ("CueStack$Cue", "isBlock", "Z", false)
  | 3 => ("CueStack$Cue", "isProtected", "Z", false)
  | 4 => ("CueStack$Cue", "delays", "[I", true)
  | 5 => ("CueStack$Cue", "times", "[I", true)
  | 6 => ("CueStack$Cue", "told", "[I", true)
  | _ => ("CueStack$Cue", "toldParts", "[I", true)
def tyX0 : Nat → FieldType := fun k => match k with
  | 0 => .int
  | 1 => .int
  | 2 => .boolean
  | 3 => .boolean
  | 4 => .array .int
  | 5 => .array .int
  | 6 => .array .int
  | _ => .array .int
abbrev wsX00 : List Cond := u_ws RX0 TX0 8
theorem nmX0 : ∀ a, a < 8 → ∀ b, b < 8 → a ≠ b → (TX0 a).2.1 ≠ (TX0 b).2.1 := by decide +kernel
theorem tyX0_ok : ∀ k, k < 8 → parseFieldDescriptor (TX0 k).2.2.1 = some (tyX0 k) := by decide +kernel
abbrev cX0_init : ByteArray := prog_2_method_1_code
def yX0_init : MethodName := ⟨RX0, "<init>", "()V"⟩
abbrev cX0_makeNew : ByteArray := prog_2_method_2_code
def yX0_makeNew : MethodName := ⟨RX0, "makeNew", "(I)V"⟩
abbrev cX0_copyFrom : ByteArray := prog_2_method_3_code
def yX0_copyFrom : MethodName := ⟨RX0, "copyFrom", "(LCueStack$Cue;)V"⟩
abbrev cX0_partRow : ByteArray := prog_2_method_4_code
def yX0_partRow : MethodName := ⟨RX0, "partRow", "(Z)[I"⟩
abbrev cX0_isTracking : ByteArray := prog_2_method_5_code
def yX0_isTracking : MethodName := ⟨RX0, "isTracking", "(I)Z"⟩
abbrev cX0_instructionCount : ByteArray := prog_2_method_6_code
def yX0_instructionCount : MethodName := ⟨RX0, "instructionCount", "()I"⟩
abbrev cX0_partFor : ByteArray := prog_2_method_7_code
def yX0_partFor : MethodName := ⟨RX0, "partFor", "(I)I"⟩
def RX1 : String := "CueStack$CueList"
def TX1 : u_T := fun k => match k with
  | 0 => ("CueStack$CueList", "rows", "[LCueStack$Cue;", true)
  | 1 => ("CueStack$CueList", "count", "I", false)
  | 2 => ("CueStack$CueList", "homes", "[I", true)
  | 3 => ("CueStack$CueList", "listedCues", "[I", true)
  | 4 => ("CueStack$CueList", "listedChannels", "[I", true)
  | 5 => ("CueStack$CueList", "listed", "I", false)
  | _ => ("CueStack$CueList", "heldLevels", "[I", true)
def tyX1 : Nat → FieldType := fun k => match k with
  | 0 => .array (.object "CueStack$Cue")
  | 1 => .int
  | 2 => .array .int
  | 3 => .array .int
  | 4 => .array .int
  | 5 => .int
  | _ => .array .int
abbrev wsX10 : List Cond := u_ws RX1 TX1 7
theorem nmX1 : ∀ a, a < 7 → ∀ b, b < 7 → a ≠ b → (TX1 a).2.1 ≠ (TX1 b).2.1 := by decide +kernel
theorem tyX1_ok : ∀ k, k < 7 → parseFieldDescriptor (TX1 k).2.2.1 = some (tyX1 k) := by decide +kernel
abbrev cX1_init : ByteArray := prog_3_method_1_code
def yX1_init : MethodName := ⟨RX1, "<init>", "()V"⟩
abbrev cX1_makeNew : ByteArray := prog_3_method_2_code
def yX1_makeNew : MethodName := ⟨RX1, "makeNew", "()V"⟩
abbrev cX1_copyFrom : ByteArray := prog_3_method_3_code
def yX1_copyFrom : MethodName := ⟨RX1, "copyFrom", "(LCueStack$CueList;)V"⟩
abbrev cX1_indexOf : ByteArray := prog_3_method_4_code
def yX1_indexOf : MethodName := ⟨RX1, "indexOf", "(I)I"⟩
abbrev cX1_levelMeant : ByteArray := prog_3_method_5_code
def yX1_levelMeant : MethodName := ⟨RX1, "levelMeant", "(II)I"⟩
abbrev cX1_levelIn : ByteArray := prog_3_method_6_code
def yX1_levelIn : MethodName := ⟨RX1, "levelIn", "(II)I"⟩
abbrev cX1_levelBefore : ByteArray := prog_3_method_7_code
def yX1_levelBefore : MethodName := ⟨RX1, "levelBefore", "(II)I"⟩
abbrev cX1_levelFromFirst : ByteArray := prog_3_method_8_code
def yX1_levelFromFirst : MethodName := ⟨RX1, "levelFromFirst", "(II)I"⟩
abbrev cX1_sourceIndex : ByteArray := prog_3_method_9_code
def yX1_sourceIndex : MethodName := ⟨RX1, "sourceIndex", "(II)I"⟩
abbrev cX1_isMoving : ByteArray := prog_3_method_10_code
def yX1_isMoving : MethodName := ⟨RX1, "isMoving", "(II)Z"⟩
abbrev cX1_movingSet : ByteArray := prog_3_method_11_code
def yX1_movingSet : MethodName := ⟨RX1, "movingSet", "(I)I"⟩
abbrev cX1_lengthOf : ByteArray := prog_3_method_12_code
def yX1_lengthOf : MethodName := ⟨RX1, "lengthOf", "(I)I"⟩
abbrev cX1_chainFrom : ByteArray := prog_3_method_13_code
def yX1_chainFrom : MethodName := ⟨RX1, "chainFrom", "(I)I"⟩
abbrev cX1_listedLevel : ByteArray := prog_3_method_14_code
def yX1_listedLevel : MethodName := ⟨RX1, "listedLevel", "(I)I"⟩
abbrev cX1_listedPart : ByteArray := prog_3_method_15_code
def yX1_listedPart : MethodName := ⟨RX1, "listedPart", "(I)I"⟩
abbrev cX1_putInstruction : ByteArray := prog_3_method_16_code
def yX1_putInstruction : MethodName := ⟨RX1, "putInstruction", "(IIII)V"⟩
abbrev cX1_deleteInstruction : ByteArray := prog_3_method_17_code
def yX1_deleteInstruction : MethodName := ⟨RX1, "deleteInstruction", "(II)V"⟩
abbrev cX1_needsHold : ByteArray := prog_3_method_18_code
def yX1_needsHold : MethodName := ⟨RX1, "needsHold", "(III)Z"⟩
abbrev cX1_levelWithoutInstruction : ByteArray := prog_3_method_19_code
def yX1_levelWithoutInstruction : MethodName := ⟨RX1, "levelWithoutInstruction", "(II)I"⟩
abbrev cX1_refusal : ByteArray := prog_3_method_20_code
def yX1_refusal : MethodName := ⟨RX1, "refusal", "(III)I"⟩
abbrev cX1_refusalToGive : ByteArray := prog_3_method_21_code
def yX1_refusalToGive : MethodName := ⟨RX1, "refusalToGive", "(IIIZ)I"⟩
abbrev cX1_refusalToTake : ByteArray := prog_3_method_22_code
def yX1_refusalToTake : MethodName := ⟨RX1, "refusalToTake", "(IIZ)I"⟩
abbrev cX1_refusalToDrop : ByteArray := prog_3_method_23_code
def yX1_refusalToDrop : MethodName := ⟨RX1, "refusalToDrop", "(IZ)I"⟩
abbrev cX1_give : ByteArray := prog_3_method_24_code
def yX1_give : MethodName := ⟨RX1, "give", "(IIIIZ)I"⟩
abbrev cX1_take : ByteArray := prog_3_method_25_code
def yX1_take : MethodName := ⟨RX1, "take", "(IIZ)I"⟩
abbrev cX1_changedFrom : ByteArray := prog_3_method_26_code
def yX1_changedFrom : MethodName := ⟨RX1, "changedFrom", "(III)I"⟩
abbrev cX1_makeBlock : ByteArray := prog_3_method_27_code
def yX1_makeBlock : MethodName := ⟨RX1, "makeBlock", "(IZ)I"⟩
abbrev cX1_insertCue : ByteArray := prog_3_method_28_code
def yX1_insertCue : MethodName := ⟨RX1, "insertCue", "(I)V"⟩
abbrev cX1_dropCue : ByteArray := prog_3_method_29_code
def yX1_dropCue : MethodName := ⟨RX1, "dropCue", "(IZ)I"⟩
abbrev cX1_deleteCue : ByteArray := prog_3_method_30_code
def yX1_deleteCue : MethodName := ⟨RX1, "deleteCue", "(I)I"⟩
abbrev cX1_sumOfMoving : ByteArray := prog_3_method_31_code
def yX1_sumOfMoving : MethodName := ⟨RX1, "sumOfMoving", "()I"⟩
abbrev cX1_protectedCount : ByteArray := prog_3_method_32_code
def yX1_protectedCount : MethodName := ⟨RX1, "protectedCount", "()I"⟩
abbrev cX1_blockCount : ByteArray := prog_3_method_33_code
def yX1_blockCount : MethodName := ⟨RX1, "blockCount", "()I"⟩
abbrev cX1_releaseCount : ByteArray := prog_3_method_34_code
def yX1_releaseCount : MethodName := ⟨RX1, "releaseCount", "()I"⟩
def RX2 : String := "CueStack$History"
def TX2 : u_T := fun k => match k with
  | 0 => ("CueStack$History", "rows", "[LCueStack$Show;", true)
  | 1 => ("CueStack$History", "free", "I", false)
  | _ => ("CueStack$History", "remembered", "I", false)
def tyX2 : Nat → FieldType := fun k => match k with
  | 0 => .array (.object "CueStack$Show")
  | 1 => .int
  | _ => .int
abbrev wsX20 : List Cond := u_ws RX2 TX2 3
theorem nmX2 : ∀ a, a < 3 → ∀ b, b < 3 → a ≠ b → (TX2 a).2.1 ≠ (TX2 b).2.1 := by decide +kernel
theorem tyX2_ok : ∀ k, k < 3 → parseFieldDescriptor (TX2 k).2.2.1 = some (tyX2 k) := by decide +kernel
abbrev cX2_init : ByteArray := prog_4_method_1_code
def yX2_init : MethodName := ⟨RX2, "<init>", "()V"⟩
abbrev cX2_remember : ByteArray := prog_4_method_2_code
def yX2_remember : MethodName := ⟨RX2, "remember", "(LCueStack$Show;)V"⟩
abbrev cX2_prepare : ByteArray := prog_4_method_3_code
def yX2_prepare : MethodName := ⟨RX2, "prepare", "(LCueStack$Show;)V"⟩
abbrev cX2_takePrepared : ByteArray := prog_4_method_4_code
def yX2_takePrepared : MethodName := ⟨RX2, "takePrepared", "(LCueStack$Show;)V"⟩
abbrev cX2_countPrepared : ByteArray := prog_4_method_5_code
def yX2_countPrepared : MethodName := ⟨RX2, "countPrepared", "()V"⟩
abbrev cX2_takeLatest : ByteArray := prog_4_method_6_code
def yX2_takeLatest : MethodName := ⟨RX2, "takeLatest", "(LCueStack$Show;)V"⟩
abbrev cX2_forgetAll : ByteArray := prog_4_method_7_code
def yX2_forgetAll : MethodName := ⟨RX2, "forgetAll", "()V"⟩
def RX3 : String := "CueStack$Input"
def TX3 : u_T := fun k => match k with
  | 0 => ("CueStack$Input", "signs", "[C", true)
  | 1 => ("CueStack$Input", "length", "I", false)
  | 2 => ("CueStack$Input", "at", "I", false)
  | 3 => ("CueStack$Input", "kind", "C", false)
  | _ => ("CueStack$Input", "numbers", "[I", true)
def tyX3 : Nat → FieldType := fun k => match k with
  | 0 => .array .char
  | 1 => .int
  | 2 => .int
  | 3 => .char
  | _ => .array .int
abbrev wsX30 : List Cond := u_ws RX3 TX3 5
theorem nmX3 : ∀ a, a < 5 → ∀ b, b < 5 → a ≠ b → (TX3 a).2.1 ≠ (TX3 b).2.1 := by decide +kernel
theorem tyX3_ok : ∀ k, k < 5 → parseFieldDescriptor (TX3 k).2.2.1 = some (tyX3 k) := by decide +kernel
abbrev cX3_init : ByteArray := prog_5_method_1_code
def yX3_init : MethodName := ⟨RX3, "<init>", "()V"⟩
abbrev cX3_countEntries : ByteArray := prog_5_method_2_code
def yX3_countEntries : MethodName := ⟨RX3, "countEntries", "()I"⟩
abbrev cX3_readEntry : ByteArray := prog_5_method_3_code
def yX3_readEntry : MethodName := ⟨RX3, "readEntry", "()Z"⟩
abbrev cX3_numberCount : ByteArray := prog_5_method_4_code
def yX3_numberCount : MethodName := ⟨RX3, "numberCount", "(C)I"⟩
abbrev cX3_mostDigits : ByteArray := prog_5_method_5_code
def yX3_mostDigits : MethodName := ⟨RX3, "mostDigits", "(I)I"⟩
abbrev cX3_readSign : ByteArray := prog_5_method_6_code
def yX3_readSign : MethodName := ⟨RX3, "readSign", "(C)Z"⟩
abbrev cX3_readNumber : ByteArray := prog_5_method_7_code
def yX3_readNumber : MethodName := ⟨RX3, "readNumber", "(I)Z"⟩
abbrev cX3_isDigit : ByteArray := prog_5_method_8_code
def yX3_isDigit : MethodName := ⟨RX3, "isDigit", "(C)Z"⟩
def RX4 : String := "CueStack$Playback"
def TX4 : u_T := fun k => match k with
  | 0 => ("CueStack$Playback", "starts", "[I", true)
  | 1 => ("CueStack$Playback", "targets", "[I", true)
  | 2 => ("CueStack$Playback", "begins", "[I", true)
  | 3 => ("CueStack$Playback", "delays", "[I", true)
  | 4 => ("CueStack$Playback", "times", "[I", true)
  | 5 => ("CueStack$Playback", "lastNumber", "I", false)
  | 6 => ("CueStack$Playback", "lastWentAt", "I", false)
  | 7 => ("CueStack$Playback", "wentCount", "I", false)
  | _ => ("CueStack$Playback", "passed", "I", false)
def tyX4 : Nat → FieldType := fun k => match k with
  | 0 => .array .int
  | 1 => .array .int
  | 2 => .array .int
  | 3 => .array .int
  | 4 => .array .int
  | 5 => .int
  | 6 => .int
  | 7 => .int
  | _ => .int
abbrev wsX40 : List Cond := u_ws RX4 TX4 9
theorem nmX4 : ∀ a, a < 9 → ∀ b, b < 9 → a ≠ b → (TX4 a).2.1 ≠ (TX4 b).2.1 := by decide +kernel
theorem tyX4_ok : ∀ k, k < 9 → parseFieldDescriptor (TX4 k).2.2.1 = some (tyX4 k) := by decide +kernel
abbrev cX4_init : ByteArray := prog_6_method_1_code
def yX4_init : MethodName := ⟨RX4, "<init>", "()V"⟩
abbrev cX4_makeNew : ByteArray := prog_6_method_2_code
def yX4_makeNew : MethodName := ⟨RX4, "makeNew", "()V"⟩
abbrev cX4_copyFrom : ByteArray := prog_6_method_3_code
def yX4_copyFrom : MethodName := ⟨RX4, "copyFrom", "(LCueStack$Playback;)V"⟩
abbrev cX4_presentLevel : ByteArray := prog_6_method_4_code
def yX4_presentLevel : MethodName := ⟨RX4, "presentLevel", "(I)I"⟩
abbrev cX4_isFading : ByteArray := prog_6_method_5_code
def yX4_isFading : MethodName := ⟨RX4, "isFading", "(I)Z"⟩
abbrev cX4_fadingSet : ByteArray := prog_6_method_6_code
def yX4_fadingSet : MethodName := ⟨RX4, "fadingSet", "()I"⟩
abbrev cX4_sumOfPresent : ByteArray := prog_6_method_7_code
def yX4_sumOfPresent : MethodName := ⟨RX4, "sumOfPresent", "()I"⟩
abbrev cX4_sumOfTargets : ByteArray := prog_6_method_8_code
def yX4_sumOfTargets : MethodName := ⟨RX4, "sumOfTargets", "()I"⟩
abbrev cX4_nextIndex : ByteArray := prog_6_method_9_code
def yX4_nextIndex : MethodName := ⟨RX4, "nextIndex", "(LCueStack$CueList;)I"⟩
abbrev cX4_nextNumber : ByteArray := prog_6_method_10_code
def yX4_nextNumber : MethodName := ⟨RX4, "nextNumber", "(LCueStack$CueList;)I"⟩
abbrev cX4_lowerIndex : ByteArray := prog_6_method_11_code
def yX4_lowerIndex : MethodName := ⟨RX4, "lowerIndex", "(LCueStack$CueList;)I"⟩
abbrev cX4_tenthsSinceLast : ByteArray := prog_6_method_12_code
def yX4_tenthsSinceLast : MethodName := ⟨RX4, "tenthsSinceLast", "()I"⟩
abbrev cX4_tenthsToFollow : ByteArray := prog_6_method_13_code
def yX4_tenthsToFollow : MethodName := ⟨RX4, "tenthsToFollow", "(LCueStack$CueList;)I"⟩
abbrev cX4_letGo : ByteArray := prog_6_method_14_code
def yX4_letGo : MethodName := ⟨RX4, "letGo", "(LCueStack$CueList;I)I"⟩
abbrev cX4_beginFade : ByteArray := prog_6_method_15_code
def yX4_beginFade : MethodName := ⟨RX4, "beginFade", "(IIII)V"⟩
abbrev cX4_hasTimeFor : ByteArray := prog_6_method_16_code
def yX4_hasTimeFor : MethodName := ⟨RX4, "hasTimeFor", "(I)Z"⟩
abbrev cX4_letPass : ByteArray := prog_6_method_17_code
def yX4_letPass : MethodName := ⟨RX4, "letPass", "(LCueStack$CueList;I)I"⟩
def RX5 : String := "CueStack$Show"
def TX5 : u_T := fun k => match k with
  | 0 => ("CueStack$Show", "cues", "LCueStack$CueList;", true)
  | _ => ("CueStack$Show", "playback", "LCueStack$Playback;", true)
def tyX5 : Nat → FieldType := fun k => match k with
  | 0 => .object "CueStack$CueList"
  | _ => .object "CueStack$Playback"
abbrev wsX50 : List Cond := u_ws RX5 TX5 2
theorem nmX5 : ∀ a, a < 2 → ∀ b, b < 2 → a ≠ b → (TX5 a).2.1 ≠ (TX5 b).2.1 := by decide +kernel
theorem tyX5_ok : ∀ k, k < 2 → parseFieldDescriptor (TX5 k).2.2.1 = some (tyX5 k) := by decide +kernel
abbrev cX5_init : ByteArray := prog_7_method_1_code
def yX5_init : MethodName := ⟨RX5, "<init>", "()V"⟩
abbrev cX5_makeNew : ByteArray := prog_7_method_2_code
def yX5_makeNew : MethodName := ⟨RX5, "makeNew", "()V"⟩
abbrev cX5_copyFrom : ByteArray := prog_7_method_3_code
def yX5_copyFrom : MethodName := ⟨RX5, "copyFrom", "(LCueStack$Show;)V"⟩
def RX6 : String := "CueStack"
def TX6 : u_T := fun k => match k with
  | 0 => ("CueStack", "show", "LCueStack$Show;", true)
  | 1 => ("CueStack", "saved", "LCueStack$Show;", true)
  | 2 => ("CueStack", "history", "LCueStack$History;", true)
  | 3 => ("CueStack", "input", "LCueStack$Input;", true)
  | 4 => ("CueStack", "isSaved", "Z", false)
  | 5 => ("CueStack", "keptReason", "I", false)
  | _ => ("CueStack", "keptPosition", "I", false)
def tyX6 : Nat → FieldType := fun k => match k with
  | 0 => .object "CueStack$Show"
  | 1 => .object "CueStack$Show"
  | 2 => .object "CueStack$History"
  | 3 => .object "CueStack$Input"
  | 4 => .boolean
  | 5 => .int
  | _ => .int
abbrev wsX60 : List Cond := u_ws RX6 TX6 7
theorem nmX6 : ∀ a, a < 7 → ∀ b, b < 7 → a ≠ b → (TX6 a).2.1 ≠ (TX6 b).2.1 := by decide +kernel
theorem tyX6_ok : ∀ k, k < 7 → parseFieldDescriptor (TX6 k).2.2.1 = some (tyX6 k) := by decide +kernel
abbrev cX6_init : ByteArray := prog_1_method_1_code
def yX6_init : MethodName := ⟨RX6, "<init>", "()V"⟩
abbrev cX6_clear : ByteArray := prog_1_method_2_code
def yX6_clear : MethodName := ⟨RX6, "clear", "()I"⟩
abbrev cX6_addCue : ByteArray := prog_1_method_3_code
def yX6_addCue : MethodName := ⟨RX6, "addCue", "(I)I"⟩
abbrev cX6_removeCue : ByteArray := prog_1_method_4_code
def yX6_removeCue : MethodName := ⟨RX6, "removeCue", "(IZ)I"⟩
abbrev cX6_cueAt : ByteArray := prog_1_method_5_code
def yX6_cueAt : MethodName := ⟨RX6, "cueAt", "(I)I"⟩
abbrev cX6_setFollow : ByteArray := prog_1_method_6_code
def yX6_setFollow : MethodName := ⟨RX6, "setFollow", "(II)I"⟩
abbrev cX6_setBlock : ByteArray := prog_1_method_7_code
def yX6_setBlock : MethodName := ⟨RX6, "setBlock", "(IZ)I"⟩
abbrev cX6_setProtected : ByteArray := prog_1_method_8_code
def yX6_setProtected : MethodName := ⟨RX6, "setProtected", "(IZ)Z"⟩
abbrev cX6_setPart : ByteArray := prog_1_method_9_code
def yX6_setPart : MethodName := ⟨RX6, "setPart", "(IIZI)I"⟩
abbrev cX6_cue : ByteArray := prog_1_method_10_code
def yX6_cue : MethodName := ⟨RX6, "cue", "(II)I"⟩
abbrev cX6_part : ByteArray := prog_1_method_11_code
def yX6_part : MethodName := ⟨RX6, "part", "(IIZ)I"⟩
abbrev cX6_setHome : ByteArray := prog_1_method_12_code
def yX6_setHome : MethodName := ⟨RX6, "setHome", "(II)I"⟩
abbrev cX6_set : ByteArray := prog_1_method_13_code
def yX6_set : MethodName := ⟨RX6, "set", "(IIIIZ)I"⟩
abbrev cX6_release : ByteArray := prog_1_method_14_code
def yX6_release : MethodName := ⟨RX6, "release", "(IIIZ)I"⟩
abbrev cX6_unset : ByteArray := prog_1_method_15_code
def yX6_unset : MethodName := ⟨RX6, "unset", "(IIZ)I"⟩
abbrev cX6_instruction : ByteArray := prog_1_method_16_code
def yX6_instruction : MethodName := ⟨RX6, "instruction", "(II)I"⟩
abbrev cX6_level : ByteArray := prog_1_method_17_code
def yX6_level : MethodName := ⟨RX6, "level", "(II)I"⟩
abbrev cX6_levelAgain : ByteArray := prog_1_method_18_code
def yX6_levelAgain : MethodName := ⟨RX6, "levelAgain", "(II)I"⟩
abbrev cX6_source : ByteArray := prog_1_method_19_code
def yX6_source : MethodName := ⟨RX6, "source", "(II)I"⟩
abbrev cX6_sum : ByteArray := prog_1_method_20_code
def yX6_sum : MethodName := ⟨RX6, "sum", "(I)I"⟩
abbrev cX6_apart : ByteArray := prog_1_method_21_code
def yX6_apart : MethodName := ⟨RX6, "apart", "(II)I"⟩
abbrev cX6_reason : ByteArray := prog_1_method_22_code
def yX6_reason : MethodName := ⟨RX6, "reason", "()I"⟩
abbrev cX6_go : ByteArray := prog_1_method_23_code
def yX6_go : MethodName := ⟨RX6, "go", "()I"⟩
abbrev cX6_back : ByteArray := prog_1_method_24_code
def yX6_back : MethodName := ⟨RX6, "back", "()I"⟩
abbrev cX6_jump : ByteArray := prog_1_method_25_code
def yX6_jump : MethodName := ⟨RX6, "jump", "(I)I"⟩
abbrev cX6_pass : ByteArray := prog_1_method_26_code
def yX6_pass : MethodName := ⟨RX6, "pass", "(I)I"⟩
abbrev cX6_now : ByteArray := prog_1_method_27_code
def yX6_now : MethodName := ⟨RX6, "now", "(I)I"⟩
abbrev cX6_target : ByteArray := prog_1_method_28_code
def yX6_target : MethodName := ⟨RX6, "target", "(I)I"⟩
abbrev cX6_playing : ByteArray := prog_1_method_29_code
def yX6_playing : MethodName := ⟨RX6, "playing", "(I)I"⟩
abbrev cX6_chain : ByteArray := prog_1_method_30_code
def yX6_chain : MethodName := ⟨RX6, "chain", "(I)I"⟩
abbrev cX6_account : ByteArray := prog_1_method_31_code
def yX6_account : MethodName := ⟨RX6, "account", "(I)I"⟩
abbrev cX6_meanLevel : ByteArray := prog_1_method_32_code
def yX6_meanLevel : MethodName := ⟨RX6, "meanLevel", "()D"⟩
abbrev cX6_append : ByteArray := prog_1_method_33_code
def yX6_append : MethodName := ⟨RX6, "append", "(C)I"⟩
abbrev cX6_read : ByteArray := prog_1_method_34_code
def yX6_read : MethodName := ⟨RX6, "read", "()I"⟩
abbrev cX6_errorPosition : ByteArray := prog_1_method_35_code
def yX6_errorPosition : MethodName := ⟨RX6, "errorPosition", "()I"⟩
abbrev cX6_undo : ByteArray := prog_1_method_36_code
def yX6_undo : MethodName := ⟨RX6, "undo", "()I"⟩
abbrev cX6_save : ByteArray := prog_1_method_37_code
def yX6_save : MethodName := ⟨RX6, "save", "()I"⟩
abbrev cX6_restore : ByteArray := prog_1_method_38_code
def yX6_restore : MethodName := ⟨RX6, "restore", "()I"⟩
abbrev cX6_isWithin : ByteArray := prog_1_method_39_code
def yX6_isWithin : MethodName := ⟨RX6, "isWithin", "(III)Z"⟩
abbrev cX6_isChannel : ByteArray := prog_1_method_40_code
def yX6_isChannel : MethodName := ⟨RX6, "isChannel", "(I)Z"⟩
abbrev cX6_isLevel : ByteArray := prog_1_method_41_code
def yX6_isLevel : MethodName := ⟨RX6, "isLevel", "(I)Z"⟩
abbrev cX6_isPart : ByteArray := prog_1_method_42_code
def yX6_isPart : MethodName := ⟨RX6, "isPart", "(I)Z"⟩
abbrev cX6_isFreeNumber : ByteArray := prog_1_method_43_code
def yX6_isFreeNumber : MethodName := ⟨RX6, "isFreeNumber", "(I)Z"⟩
abbrev cX6_keepIfRefused : ByteArray := prog_1_method_44_code
def yX6_keepIfRefused : MethodName := ⟨RX6, "keepIfRefused", "(I)Z"⟩
abbrev cX6_performEntry : ByteArray := prog_1_method_45_code
def yX6_performEntry : MethodName := ⟨RX6, "performEntry", "()Z"⟩
abbrev cX6_performAdd : ByteArray := prog_1_method_46_code
def yX6_performAdd : MethodName := ⟨RX6, "performAdd", "(I)Z"⟩
abbrev cX6_performRemove : ByteArray := prog_1_method_47_code
def yX6_performRemove : MethodName := ⟨RX6, "performRemove", "(I)Z"⟩
abbrev cX6_performGive : ByteArray := prog_1_method_48_code
def yX6_performGive : MethodName := ⟨RX6, "performGive", "(III)Z"⟩
abbrev cX6_performGo : ByteArray := prog_1_method_49_code
def yX6_performGo : MethodName := ⟨RX6, "performGo", "()Z"⟩
abbrev cX6_performJump : ByteArray := prog_1_method_50_code
def yX6_performJump : MethodName := ⟨RX6, "performJump", "(I)Z"⟩
abbrev cX6_performPass : ByteArray := prog_1_method_51_code
def yX6_performPass : MethodName := ⟨RX6, "performPass", "(I)Z"⟩
def RX7 : String := "CueStackModel"
def TX7 : u_T := fun k => match k with
  | 0 => ("CueStackModel", "s", "[I", true)
  | 1 => ("CueStackModel", "before", "[I", true)
  | 2 => ("CueStackModel", "saved", "[I", true)
  | 3 => ("CueStackModel", "isSaved", "Z", false)
  | 4 => ("CueStackModel", "past", "[I", true)
  | 5 => ("CueStackModel", "pastMany", "I", false)
  | 6 => ("CueStackModel", "reason", "I", false)
  | 7 => ("CueStackModel", "thrown", "I", false)
  | 8 => ("CueStackModel", "levels", "[I", true)
  | 9 => ("CueStackModel", "input", "[C", true)
  | 10 => ("CueStackModel", "length", "I", false)
  | 11 => ("CueStackModel", "place", "I", false)
  | 12 => ("CueStackModel", "isWrong", "Z", false)
  | 13 => ("CueStackModel", "error", "I", false)
  | 14 => ("CueStackModel", "kinds", "[C", true)
  | 15 => ("CueStackModel", "numbers", "[I", true)
  | _ => ("CueStackModel", "entries", "I", false)
def tyX7 : Nat → FieldType := fun k => match k with
  | 0 => .array .int
  | 1 => .array .int
  | 2 => .array .int
  | 3 => .boolean
  | 4 => .array .int
  | 5 => .int
  | 6 => .int
  | 7 => .int
  | 8 => .array .int
  | 9 => .array .char
  | 10 => .int
  | 11 => .int
  | 12 => .boolean
  | 13 => .int
  | 14 => .array .char
  | 15 => .array .int
  | _ => .int
abbrev wsX70 : List Cond := u_ws RX7 TX7 17
theorem nmX7 : ∀ a, a < 17 → ∀ b, b < 17 → a ≠ b → (TX7 a).2.1 ≠ (TX7 b).2.1 := by decide +kernel
theorem tyX7_ok : ∀ k, k < 17 → parseFieldDescriptor (TX7 k).2.2.1 = some (tyX7 k) := by decide +kernel
abbrev cX7_init : ByteArray := prog_9_method_1_code
def yX7_init : MethodName := ⟨RX7, "<init>", "()V"⟩
abbrev cX7_thrown : ByteArray := prog_9_method_2_code
def yX7_thrown : MethodName := ⟨RX7, "thrown", "()I"⟩
abbrev cX7_in : ByteArray := prog_9_method_3_code
def yX7_in : MethodName := ⟨RX7, "in", "(III)Z"⟩
abbrev cX7_begin : ByteArray := prog_9_method_4_code
def yX7_begin : MethodName := ⟨RX7, "begin", "()V"⟩
abbrev cX7_keepState : ByteArray := prog_9_method_5_code
def yX7_keepState : MethodName := ⟨RX7, "keepState", "()V"⟩
abbrev cX7_change : ByteArray := prog_9_method_6_code
def yX7_change : MethodName := ⟨RX7, "change", "()V"⟩
abbrev cX7_changes : ByteArray := prog_9_method_7_code
def yX7_changes : MethodName := ⟨RX7, "changes", "()V"⟩
abbrev cX7_refuse : ByteArray := prog_9_method_8_code
def yX7_refuse : MethodName := ⟨RX7, "refuse", "(I)I"⟩
abbrev cX7_clear : ByteArray := prog_9_method_9_code
def yX7_clear : MethodName := ⟨RX7, "clear", "()I"⟩
abbrev cX7_at : ByteArray := prog_9_method_10_code
def yX7_at : MethodName := ⟨RX7, "at", "(I)I"⟩
abbrev cX7_placeOf : ByteArray := prog_9_method_11_code
def yX7_placeOf : MethodName := ⟨RX7, "placeOf", "(I)I"⟩
abbrev cX7_isCue : ByteArray := prog_9_method_12_code
def yX7_isCue : MethodName := ⟨RX7, "isCue", "(I)Z"⟩
abbrev cX7_isBlock : ByteArray := prog_9_method_13_code
def yX7_isBlock : MethodName := ⟨RX7, "isBlock", "(I)Z"⟩
abbrev cX7_isChannel : ByteArray := prog_9_method_14_code
def yX7_isChannel : MethodName := ⟨RX7, "isChannel", "(I)Z"⟩
abbrev cX7_isPart : ByteArray := prog_9_method_15_code
def yX7_isPart : MethodName := ⟨RX7, "isPart", "(I)Z"⟩
abbrev cX7_doAdd : ByteArray := prog_9_method_16_code
def yX7_doAdd : MethodName := ⟨RX7, "doAdd", "(I)I"⟩
abbrev cX7_addCue : ByteArray := prog_9_method_17_code
def yX7_addCue : MethodName := ⟨RX7, "addCue", "(I)I"⟩
abbrev cX7_cueAt : ByteArray := prog_9_method_18_code
def yX7_cueAt : MethodName := ⟨RX7, "cueAt", "(I)I"⟩
abbrev cX7_setFollow : ByteArray := prog_9_method_19_code
def yX7_setFollow : MethodName := ⟨RX7, "setFollow", "(II)I"⟩
abbrev cX7_keepLevels : ByteArray := prog_9_method_20_code
def yX7_keepLevels : MethodName := ⟨RX7, "keepLevels", "()V"⟩
abbrev cX7_setBlock : ByteArray := prog_9_method_21_code
def yX7_setBlock : MethodName := ⟨RX7, "setBlock", "(IZ)I"⟩
abbrev cX7_setProtected : ByteArray := prog_9_method_22_code
def yX7_setProtected : MethodName := ⟨RX7, "setProtected", "(IZ)Z"⟩
abbrev cX7_partAt : ByteArray := prog_9_method_23_code
def yX7_partAt : MethodName := ⟨RX7, "partAt", "(IIZ)I"⟩
abbrev cX7_setPart : ByteArray := prog_9_method_24_code
def yX7_setPart : MethodName := ⟨RX7, "setPart", "(IIZI)I"⟩
abbrev cX7_part : ByteArray := prog_9_method_25_code
def yX7_part : MethodName := ⟨RX7, "part", "(IIZ)I"⟩
abbrev cX7_given : ByteArray := prog_9_method_26_code
def yX7_given : MethodName := ⟨RX7, "given", "(II)I"⟩
abbrev cX7_give : ByteArray := prog_9_method_27_code
def yX7_give : MethodName := ⟨RX7, "give", "(IIII)V"⟩
abbrev cX7_takeAway : ByteArray := prog_9_method_28_code
def yX7_takeAway : MethodName := ⟨RX7, "takeAway", "(I)V"⟩
abbrev cX7_levelIn : ByteArray := prog_9_method_29_code
def yX7_levelIn : MethodName := ⟨RX7, "levelIn", "(II)I"⟩
abbrev cX7_moves : ByteArray := prog_9_method_30_code
def yX7_moves : MethodName := ⟨RX7, "moves", "(II)Z"⟩
abbrev cX7_partOf : ByteArray := prog_9_method_31_code
def yX7_partOf : MethodName := ⟨RX7, "partOf", "(II)I"⟩
abbrev cX7_lengthOf : ByteArray := prog_9_method_32_code
def yX7_lengthOf : MethodName := ⟨RX7, "lengthOf", "(II)I"⟩
abbrev cX7_countOf : ByteArray := prog_9_method_33_code
def yX7_countOf : MethodName := ⟨RX7, "countOf", "(I)I"⟩
abbrev cX7_cue : ByteArray := prog_9_method_34_code
def yX7_cue : MethodName := ⟨RX7, "cue", "(II)I"⟩
abbrev cX7_setHome : ByteArray := prog_9_method_35_code
def yX7_setHome : MethodName := ⟨RX7, "setHome", "(II)I"⟩
abbrev cX7_hold : ByteArray := prog_9_method_36_code
def yX7_hold : MethodName := ⟨RX7, "hold", "(II)I"⟩
abbrev cX7_changed : ByteArray := prog_9_method_37_code
def yX7_changed : MethodName := ⟨RX7, "changed", "(I)I"⟩
abbrev cX7_giveHeld : ByteArray := prog_9_method_38_code
def yX7_giveHeld : MethodName := ⟨RX7, "giveHeld", "(IIIIZ)I"⟩
abbrev cX7_wouldHoldProtected : ByteArray := prog_9_method_39_code
def yX7_wouldHoldProtected : MethodName := ⟨RX7, "wouldHoldProtected", "(III)Z"⟩
abbrev cX7_doGive : ByteArray := prog_9_method_40_code
def yX7_doGive : MethodName := ⟨RX7, "doGive", "(IIIIZ)I"⟩
abbrev cX7_set : ByteArray := prog_9_method_41_code
def yX7_set : MethodName := ⟨RX7, "set", "(IIIIZ)I"⟩
abbrev cX7_release : ByteArray := prog_9_method_42_code
def yX7_release : MethodName := ⟨RX7, "release", "(IIIZ)I"⟩
abbrev cX7_takeHeld : ByteArray := prog_9_method_43_code
def yX7_takeHeld : MethodName := ⟨RX7, "takeHeld", "(IIZ)I"⟩
abbrev cX7_unset : ByteArray := prog_9_method_44_code
def yX7_unset : MethodName := ⟨RX7, "unset", "(IIZ)I"⟩
abbrev cX7_doRemove : ByteArray := prog_9_method_45_code
def yX7_doRemove : MethodName := ⟨RX7, "doRemove", "(IZ)I"⟩
abbrev cX7_removeCue : ByteArray := prog_9_method_46_code
def yX7_removeCue : MethodName := ⟨RX7, "removeCue", "(IZ)I"⟩
abbrev cX7_instruction : ByteArray := prog_9_method_47_code
def yX7_instruction : MethodName := ⟨RX7, "instruction", "(II)I"⟩
abbrev cX7_level : ByteArray := prog_9_method_48_code
def yX7_level : MethodName := ⟨RX7, "level", "(II)I"⟩
abbrev cX7_levelAgain : ByteArray := prog_9_method_49_code
def yX7_levelAgain : MethodName := ⟨RX7, "levelAgain", "(II)I"⟩
abbrev cX7_source : ByteArray := prog_9_method_50_code
def yX7_source : MethodName := ⟨RX7, "source", "(II)I"⟩
abbrev cX7_sum : ByteArray := prog_9_method_51_code
def yX7_sum : MethodName := ⟨RX7, "sum", "(I)I"⟩
abbrev cX7_apart : ByteArray := prog_9_method_52_code
def yX7_apart : MethodName := ⟨RX7, "apart", "(II)I"⟩
abbrev cX7_reason : ByteArray := prog_9_method_53_code
def yX7_reason : MethodName := ⟨RX7, "reason", "()I"⟩
abbrev cX7_fade : ByteArray := prog_9_method_54_code
def yX7_fade : MethodName := ⟨RX7, "fade", "(I)I"⟩
abbrev cX7_nowOf : ByteArray := prog_9_method_55_code
def yX7_nowOf : MethodName := ⟨RX7, "nowOf", "(I)I"⟩
abbrev cX7_isFading : ByteArray := prog_9_method_56_code
def yX7_isFading : MethodName := ⟨RX7, "isFading", "(I)Z"⟩
abbrev cX7_goes : ByteArray := prog_9_method_57_code
def yX7_goes : MethodName := ⟨RX7, "goes", "(I)I"⟩
abbrev cX7_nextCue : ByteArray := prog_9_method_58_code
def yX7_nextCue : MethodName := ⟨RX7, "nextCue", "(I)I"⟩
abbrev cX7_cueAhead : ByteArray := prog_9_method_59_code
def yX7_cueAhead : MethodName := ⟨RX7, "cueAhead", "(I)I"⟩
abbrev cX7_doGo : ByteArray := prog_9_method_60_code
def yX7_doGo : MethodName := ⟨RX7, "doGo", "(Z)I"⟩
abbrev cX7_steps : ByteArray := prog_9_method_61_code
def yX7_steps : MethodName := ⟨RX7, "steps", "(Z)I"⟩
abbrev cX7_go : ByteArray := prog_9_method_62_code
def yX7_go : MethodName := ⟨RX7, "go", "()I"⟩
abbrev cX7_back : ByteArray := prog_9_method_63_code
def yX7_back : MethodName := ⟨RX7, "back", "()I"⟩
abbrev cX7_jump : ByteArray := prog_9_method_64_code
def yX7_jump : MethodName := ⟨RX7, "jump", "(I)I"⟩
abbrev cX7_follows : ByteArray := prog_9_method_65_code
def yX7_follows : MethodName := ⟨RX7, "follows", "()Z"⟩
abbrev cX7_doPass : ByteArray := prog_9_method_66_code
def yX7_doPass : MethodName := ⟨RX7, "doPass", "(I)I"⟩
abbrev cX7_pass : ByteArray := prog_9_method_67_code
def yX7_pass : MethodName := ⟨RX7, "pass", "(I)I"⟩
abbrev cX7_now : ByteArray := prog_9_method_68_code
def yX7_now : MethodName := ⟨RX7, "now", "(I)I"⟩
abbrev cX7_target : ByteArray := prog_9_method_69_code
def yX7_target : MethodName := ⟨RX7, "target", "(I)I"⟩
abbrev cX7_fading : ByteArray := prog_9_method_70_code
def yX7_fading : MethodName := ⟨RX7, "fading", "()I"⟩
abbrev cX7_playing : ByteArray := prog_9_method_71_code
def yX7_playing : MethodName := ⟨RX7, "playing", "(I)I"⟩
abbrev cX7_chain : ByteArray := prog_9_method_72_code
def yX7_chain : MethodName := ⟨RX7, "chain", "(I)I"⟩
abbrev cX7_overChannels : ByteArray := prog_9_method_73_code
def yX7_overChannels : MethodName := ⟨RX7, "overChannels", "(I)I"⟩
abbrev cX7_overCues : ByteArray := prog_9_method_74_code
def yX7_overCues : MethodName := ⟨RX7, "overCues", "(I)I"⟩
abbrev cX7_account : ByteArray := prog_9_method_75_code
def yX7_account : MethodName := ⟨RX7, "account", "(I)I"⟩
abbrev cX7_meanLevel : ByteArray := prog_9_method_76_code
def yX7_meanLevel : MethodName := ⟨RX7, "meanLevel", "()D"⟩
abbrev cX7_append : ByteArray := prog_9_method_77_code
def yX7_append : MethodName := ⟨RX7, "append", "(C)I"⟩
abbrev cX7_isHere : ByteArray := prog_9_method_78_code
def yX7_isHere : MethodName := ⟨RX7, "isHere", "(CC)Z"⟩
abbrev cX7_sign : ByteArray := prog_9_method_79_code
def yX7_sign : MethodName := ⟨RX7, "sign", "(C)V"⟩
abbrev cX7_number : ByteArray := prog_9_method_80_code
def yX7_number : MethodName := ⟨RX7, "number", "(I)I"⟩
abbrev cX7_behind : ByteArray := prog_9_method_81_code
def yX7_behind : MethodName := ⟨RX7, "behind", "(CI)I"⟩
abbrev cX7_readEntry : ByteArray := prog_9_method_82_code
def yX7_readEntry : MethodName := ⟨RX7, "readEntry", "()V"⟩
abbrev cX7_isTold : ByteArray := prog_9_method_83_code
def yX7_isTold : MethodName := ⟨RX7, "isTold", "(I)Z"⟩
abbrev cX7_fails : ByteArray := prog_9_method_84_code
def yX7_fails : MethodName := ⟨RX7, "fails", "(I)Z"⟩
abbrev cX7_read : ByteArray := prog_9_method_85_code
def yX7_read : MethodName := ⟨RX7, "read", "()I"⟩
abbrev cX7_errorPosition : ByteArray := prog_9_method_86_code
def yX7_errorPosition : MethodName := ⟨RX7, "errorPosition", "()I"⟩
abbrev cX7_undo : ByteArray := prog_9_method_87_code
def yX7_undo : MethodName := ⟨RX7, "undo", "()I"⟩
abbrev cX7_save : ByteArray := prog_9_method_88_code
def yX7_save : MethodName := ⟨RX7, "save", "()I"⟩
abbrev cX7_restore : ByteArray := prog_9_method_89_code
def yX7_restore : MethodName := ⟨RX7, "restore", "()I"⟩
def RJx145de : String := "java/io/Serializable"
def TJx145de : u_T := fun k => match k with
  | _ => ("", "", "", false)
def tyJx145de : Nat → FieldType := fun k => match k with
  | _ => .int
abbrev wsJx145de0 : List Cond := u_ws RJx145de TJx145de 0
theorem nmJx145de : ∀ a, a < 0 → ∀ b, b < 0 → a ≠ b → (TJx145de a).2.1 ≠ (TJx145de b).2.1 := by decide +kernel
theorem tyJx145de_ok : ∀ k, k < 0 → parseFieldDescriptor (TJx145de k).2.2.1 = some (tyJx145de k) := by decide +kernel
def RJx9f9b0 : String := "java/lang/CharSequence"
def TJx9f9b0 : u_T := fun k => match k with
  | _ => ("", "", "", false)
def tyJx9f9b0 : Nat → FieldType := fun k => match k with
  | _ => .int
abbrev wsJx9f9b00 : List Cond := u_ws RJx9f9b0 TJx9f9b0 0
theorem nmJx9f9b0 : ∀ a, a < 0 → ∀ b, b < 0 → a ≠ b → (TJx9f9b0 a).2.1 ≠ (TJx9f9b0 b).2.1 := by decide +kernel
theorem tyJx9f9b0_ok : ∀ k, k < 0 → parseFieldDescriptor (TJx9f9b0 k).2.2.1 = some (tyJx9f9b0 k) := by decide +kernel
def RJ11 : String := "java/lang/Character"
def TJ11 : u_T := fun k => match k with
  | _ => ("", "", "", false)
def tyJ11 : Nat → FieldType := fun k => match k with
  | _ => .int
abbrev wsJ110 : List Cond := u_ws RJ11 TJ11 0
theorem nmJ11 : ∀ a, a < 0 → ∀ b, b < 0 → a ≠ b → (TJ11 a).2.1 ≠ (TJ11 b).2.1 := by decide +kernel
theorem tyJ11_ok : ∀ k, k < 0 → parseFieldDescriptor (TJ11 k).2.2.1 = some (tyJ11 k) := by decide +kernel
abbrev cJ11_isValidCodePoint_9a6ad : ByteArray := prog_12_method_11_code
def yJ11_isValidCodePoint_9a6ad : MethodName := ⟨RJ11, "isValidCodePoint", "(I)Z"⟩
abbrev cJ11_highSurrogate_5068e : ByteArray := prog_12_method_28_code
def yJ11_highSurrogate_5068e : MethodName := ⟨RJ11, "highSurrogate", "(I)C"⟩
abbrev cJ11_lowSurrogate_5068e : ByteArray := prog_12_method_29_code
def yJ11_lowSurrogate_5068e : MethodName := ⟨RJ11, "lowSurrogate", "(I)C"⟩
def RJxb160c : String := "java/lang/Comparable"
def TJxb160c : u_T := fun k => match k with
  | _ => ("", "", "", false)
def tyJxb160c : Nat → FieldType := fun k => match k with
  | _ => .int
abbrev wsJxb160c0 : List Cond := u_ws RJxb160c TJxb160c 0
theorem nmJxb160c : ∀ a, a < 0 → ∀ b, b < 0 → a ≠ b → (TJxb160c a).2.1 ≠ (TJxb160c b).2.1 := by decide +kernel
theorem tyJxb160c_ok : ∀ k, k < 0 → parseFieldDescriptor (TJxb160c k).2.2.1 = some (tyJxb160c k) := by decide +kernel
def RJ6 : String := "java/lang/Integer"
def TJ6 : u_T := fun k => match k with
  | _ => ("", "", "", false)
def tyJ6 : Nat → FieldType := fun k => match k with
  | _ => .int
abbrev wsJ60 : List Cond := u_ws RJ6 TJ6 0
theorem nmJ6 : ∀ a, a < 0 → ∀ b, b < 0 → a ≠ b → (TJ6 a).2.1 ≠ (TJ6 b).2.1 := by decide +kernel
theorem tyJ6_ok : ∀ k, k < 0 → parseFieldDescriptor (TJ6 k).2.2.1 = some (tyJ6 k) := by decide +kernel
abbrev cJ6_bitCount_0f7a4 : ByteArray := prog_18_method_49_code
def yJ6_bitCount_0f7a4 : MethodName := ⟨RJ6, "bitCount", "(I)I"⟩
def RJ9 : String := "java/lang/Math"
def TJ9 : u_T := fun k => match k with
  | _ => ("", "", "", false)
def tyJ9 : Nat → FieldType := fun k => match k with
  | _ => .int
abbrev wsJ90 : List Cond := u_ws RJ9 TJ9 0
theorem nmJ9 : ∀ a, a < 0 → ∀ b, b < 0 → a ≠ b → (TJ9 a).2.1 ≠ (TJ9 b).2.1 := by decide +kernel
theorem tyJ9_ok : ∀ k, k < 0 → parseFieldDescriptor (TJ9 k).2.2.1 = some (tyJ9 k) := by decide +kernel
abbrev cJ9_max_7cf53 : ByteArray := prog_19_method_65_code
def yJ9_max_7cf53 : MethodName := ⟨RJ9, "max", "(II)I"⟩
abbrev cJ9_min_7cf53 : ByteArray := prog_19_method_69_code
def yJ9_min_7cf53 : MethodName := ⟨RJ9, "min", "(II)I"⟩
def RJ0 : String := "java/lang/String"
def TJ0 : u_T := fun k => match k with
  | _ => ("", "", "", false)
def tyJ0 : Nat → FieldType := fun k => match k with
  | _ => .int
abbrev wsJ00 : List Cond := u_ws RJ0 TJ0 0
theorem nmJ0 : ∀ a, a < 0 → ∀ b, b < 0 → a ≠ b → (TJ0 a).2.1 ≠ (TJ0 b).2.1 := by decide +kernel
theorem tyJ0_ok : ∀ k, k < 0 → parseFieldDescriptor (TJ0 k).2.2.1 = some (tyJ0 k) := by decide +kernel
abbrev cJ0_length_8abf5 : ByteArray := prog_21_method_54_code
def yJ0_length_8abf5 : MethodName := ⟨RJ0, "length", "()I"⟩
abbrev cJ0_indexOf_0f7a4 : ByteArray := prog_21_method_79_code
def yJ0_indexOf_0f7a4 : MethodName := ⟨RJ0, "indexOf", "(I)I"⟩
abbrev cJ0_indexOf_7cf53 : ByteArray := prog_21_method_80_code
def yJ0_indexOf_7cf53 : MethodName := ⟨RJ0, "indexOf", "(II)I"⟩
abbrev cJ0_coder_7d493 : ByteArray := prog_21_method_152_code
def yJ0_coder_7d493 : MethodName := ⟨RJ0, "coder", "()B"⟩
abbrev cJ0_isLatin1_aae02 : ByteArray := prog_21_method_154_code
def yJ0_isLatin1_aae02 : MethodName := ⟨RJ0, "isLatin1", "()Z"⟩
abbrev cJ0_checkBoundsBeginEnd_23922 : ByteArray := prog_21_method_158_code
def yJ0_checkBoundsBeginEnd_23922 : MethodName := ⟨RJ0, "checkBoundsBeginEnd", "(III)V"⟩
def RJ1 : String := "java/lang/StringLatin1"
def TJ1 : u_T := fun k => match k with
  | _ => ("", "", "", false)
def tyJ1 : Nat → FieldType := fun k => match k with
  | _ => .int
abbrev wsJ10 : List Cond := u_ws RJ1 TJ1 0
theorem nmJ1 : ∀ a, a < 0 → ∀ b, b < 0 → a ≠ b → (TJ1 a).2.1 ≠ (TJ1 b).2.1 := by decide +kernel
theorem tyJ1_ok : ∀ k, k < 0 → parseFieldDescriptor (TJ1 k).2.2.1 = some (tyJ1 k) := by decide +kernel
abbrev cJ1_canEncode_9a6ad : ByteArray := prog_22_method_4_code
def yJ1_canEncode_9a6ad : MethodName := ⟨RJ1, "canEncode", "(I)Z"⟩
abbrev cJ1_indexOf_4cfef : ByteArray := prog_22_method_22_code
def yJ1_indexOf_4cfef : MethodName := ⟨RJ1, "indexOf", "([BIII)I"⟩
abbrev cJ1_indexOfChar_4cfef : ByteArray := prog_22_method_23_code
def yJ1_indexOfChar_4cfef : MethodName := ⟨RJ1, "indexOfChar", "([BIII)I"⟩
def RJ2 : String := "java/lang/StringUTF16"
def TJ2 : u_T := fun k => match k with
  | _ => ("", "", "", false)
def tyJ2 : Nat → FieldType := fun k => match k with
  | _ => .int
abbrev wsJ20 : List Cond := u_ws RJ2 TJ2 0
theorem nmJ2 : ∀ a, a < 0 → ∀ b, b < 0 → a ≠ b → (TJ2 a).2.1 ≠ (TJ2 b).2.1 := by decide +kernel
theorem tyJ2_ok : ∀ k, k < 0 → parseFieldDescriptor (TJ2 k).2.2.1 = some (tyJ2 k) := by decide +kernel
abbrev cJ2_getChar_3b067 : ByteArray := prog_23_method_5_code
def yJ2_getChar_3b067 : MethodName := ⟨RJ2, "getChar", "([BI)C"⟩
abbrev cJ2_length_9d52b : ByteArray := prog_23_method_6_code
def yJ2_length_9d52b : MethodName := ⟨RJ2, "length", "([B)I"⟩
abbrev cJ2_indexOf_4cfef : ByteArray := prog_23_method_40_code
def yJ2_indexOf_4cfef : MethodName := ⟨RJ2, "indexOf", "([BIII)I"⟩
abbrev cJ2_indexOfChar_4cfef : ByteArray := prog_23_method_47_code
def yJ2_indexOfChar_4cfef : MethodName := ⟨RJ2, "indexOfChar", "([BIII)I"⟩
abbrev cJ2_indexOfCharUnsafe_4cfef : ByteArray := prog_23_method_48_code
def yJ2_indexOfCharUnsafe_4cfef : MethodName := ⟨RJ2, "indexOfCharUnsafe", "([BIII)I"⟩
abbrev cJ2_indexOfSupplementary_4cfef : ByteArray := prog_23_method_49_code
def yJ2_indexOfSupplementary_4cfef : MethodName := ⟨RJ2, "indexOfSupplementary", "([BIII)I"⟩
abbrev cJ2_checkBoundsBeginEnd_d044e : ByteArray := prog_23_method_93_code
def yJ2_checkBoundsBeginEnd_d044e : MethodName := ⟨RJ2, "checkBoundsBeginEnd", "(II[B)V"⟩
def RJ10 : String := "java/lang/System"
def TJ10 : u_T := fun k => match k with
  | _ => ("", "", "", false)
def tyJ10 : Nat → FieldType := fun k => match k with
  | _ => .int
abbrev wsJ100 : List Cond := u_ws RJ10 TJ10 0
theorem nmJ10 : ∀ a, a < 0 → ∀ b, b < 0 → a ≠ b → (TJ10 a).2.1 ≠ (TJ10 b).2.1 := by decide +kernel
theorem tyJ10_ok : ∀ k, k < 0 → parseFieldDescriptor (TJ10 k).2.2.1 = some (tyJ10 k) := by decide +kernel
def RJxfd54e : String := "java/lang/constant/Constable"
def TJxfd54e : u_T := fun k => match k with
  | _ => ("", "", "", false)
def tyJxfd54e : Nat → FieldType := fun k => match k with
  | _ => .int
abbrev wsJxfd54e0 : List Cond := u_ws RJxfd54e TJxfd54e 0
theorem nmJxfd54e : ∀ a, a < 0 → ∀ b, b < 0 → a ≠ b → (TJxfd54e a).2.1 ≠ (TJxfd54e b).2.1 := by decide +kernel
theorem tyJxfd54e_ok : ∀ k, k < 0 → parseFieldDescriptor (TJxfd54e k).2.2.1 = some (tyJxfd54e k) := by decide +kernel
def RJx3cf43 : String := "java/lang/constant/ConstantDesc"
def TJx3cf43 : u_T := fun k => match k with
  | _ => ("", "", "", false)
def tyJx3cf43 : Nat → FieldType := fun k => match k with
  | _ => .int
abbrev wsJx3cf430 : List Cond := u_ws RJx3cf43 TJx3cf43 0
theorem nmJx3cf43 : ∀ a, a < 0 → ∀ b, b < 0 → a ≠ b → (TJx3cf43 a).2.1 ≠ (TJx3cf43 b).2.1 := by decide +kernel
theorem tyJx3cf43_ok : ∀ k, k < 0 → parseFieldDescriptor (TJx3cf43 k).2.2.1 = some (tyJx3cf43 k) := by decide +kernel
def RJ3 : String := "jdk/internal/util/Preconditions"
def TJ3 : u_T := fun k => match k with
  | _ => ("", "", "", false)
def tyJ3 : Nat → FieldType := fun k => match k with
  | _ => .int
abbrev wsJ30 : List Cond := u_ws RJ3 TJ3 0
theorem nmJ3 : ∀ a, a < 0 → ∀ b, b < 0 → a ≠ b → (TJ3 a).2.1 ≠ (TJ3 b).2.1 := by decide +kernel
theorem tyJ3_ok : ∀ k, k < 0 → parseFieldDescriptor (TJ3 k).2.2.1 = some (tyJ3 k) := by decide +kernel
abbrev cJ3_checkFromToIndex_8c36e : ByteArray := prog_30_method_12_code
def yJ3_checkFromToIndex_8c36e : MethodName := ⟨RJ3, "checkFromToIndex", "(IIILjava/util/function/BiFunction;)I"⟩
def RL : String := "CueStackLaw"
abbrev cL_addCue : ByteArray := method_3_code
def yL_addCue : MethodName := ⟨RL, "addCue", "(LCueStack;I[J)I"⟩
abbrev cL_removeCue : ByteArray := method_4_code
def yL_removeCue : MethodName := ⟨RL, "removeCue", "(LCueStack;IZ[J)I"⟩
abbrev cL_cueAt : ByteArray := method_5_code
def yL_cueAt : MethodName := ⟨RL, "cueAt", "(LCueStack;I[J)I"⟩
abbrev cL_setFollow : ByteArray := method_6_code
def yL_setFollow : MethodName := ⟨RL, "setFollow", "(LCueStack;II[J)I"⟩
abbrev cL_setBlock : ByteArray := method_7_code
def yL_setBlock : MethodName := ⟨RL, "setBlock", "(LCueStack;IZ[J)I"⟩
abbrev cL_setProtected : ByteArray := method_8_code
def yL_setProtected : MethodName := ⟨RL, "setProtected", "(LCueStack;IZ[J)I"⟩
abbrev cL_setPart : ByteArray := method_9_code
def yL_setPart : MethodName := ⟨RL, "setPart", "(LCueStack;IIZI[J)I"⟩
abbrev cL_cue : ByteArray := method_10_code
def yL_cue : MethodName := ⟨RL, "cue", "(LCueStack;II[J)I"⟩
abbrev cL_part : ByteArray := method_11_code
def yL_part : MethodName := ⟨RL, "part", "(LCueStack;IIZ[J)I"⟩
abbrev cL_setHome : ByteArray := method_12_code
def yL_setHome : MethodName := ⟨RL, "setHome", "(LCueStack;II[J)I"⟩
abbrev cL_set : ByteArray := method_13_code
def yL_set : MethodName := ⟨RL, "set", "(LCueStack;IIIIZ[J)I"⟩
abbrev cL_release : ByteArray := method_14_code
def yL_release : MethodName := ⟨RL, "release", "(LCueStack;IIIZ[J)I"⟩
abbrev cL_unset : ByteArray := method_15_code
def yL_unset : MethodName := ⟨RL, "unset", "(LCueStack;IIZ[J)I"⟩
abbrev cL_instruction : ByteArray := method_16_code
def yL_instruction : MethodName := ⟨RL, "instruction", "(LCueStack;II[J)I"⟩
abbrev cL_level : ByteArray := method_17_code
def yL_level : MethodName := ⟨RL, "level", "(LCueStack;II[J)I"⟩
abbrev cL_levelAgain : ByteArray := method_18_code
def yL_levelAgain : MethodName := ⟨RL, "levelAgain", "(LCueStack;II[J)I"⟩
abbrev cL_source : ByteArray := method_19_code
def yL_source : MethodName := ⟨RL, "source", "(LCueStack;II[J)I"⟩
abbrev cL_sum : ByteArray := method_20_code
def yL_sum : MethodName := ⟨RL, "sum", "(LCueStack;I[J)I"⟩
abbrev cL_apart : ByteArray := method_21_code
def yL_apart : MethodName := ⟨RL, "apart", "(LCueStack;II[J)I"⟩
abbrev cL_reason : ByteArray := method_22_code
def yL_reason : MethodName := ⟨RL, "reason", "(LCueStack;[J)I"⟩
abbrev cL_go : ByteArray := method_23_code
def yL_go : MethodName := ⟨RL, "go", "(LCueStack;[J)I"⟩
abbrev cL_back : ByteArray := method_24_code
def yL_back : MethodName := ⟨RL, "back", "(LCueStack;[J)I"⟩
abbrev cL_jump : ByteArray := method_25_code
def yL_jump : MethodName := ⟨RL, "jump", "(LCueStack;I[J)I"⟩
abbrev cL_pass : ByteArray := method_26_code
def yL_pass : MethodName := ⟨RL, "pass", "(LCueStack;I[J)I"⟩
abbrev cL_now : ByteArray := method_27_code
def yL_now : MethodName := ⟨RL, "now", "(LCueStack;I[J)I"⟩
abbrev cL_target : ByteArray := method_28_code
def yL_target : MethodName := ⟨RL, "target", "(LCueStack;I[J)I"⟩
abbrev cL_playing : ByteArray := method_29_code
def yL_playing : MethodName := ⟨RL, "playing", "(LCueStack;I[J)I"⟩
abbrev cL_chain : ByteArray := method_30_code
def yL_chain : MethodName := ⟨RL, "chain", "(LCueStack;I[J)I"⟩
abbrev cL_account : ByteArray := method_31_code
def yL_account : MethodName := ⟨RL, "account", "(LCueStack;I[J)I"⟩
abbrev cL_append : ByteArray := method_32_code
def yL_append : MethodName := ⟨RL, "append", "(LCueStack;C[J)I"⟩
abbrev cL_read : ByteArray := method_33_code
def yL_read : MethodName := ⟨RL, "read", "(LCueStack;[J)I"⟩
abbrev cL_errorPosition : ByteArray := method_34_code
def yL_errorPosition : MethodName := ⟨RL, "errorPosition", "(LCueStack;[J)I"⟩
abbrev cL_undo : ByteArray := method_35_code
def yL_undo : MethodName := ⟨RL, "undo", "(LCueStack;[J)I"⟩
abbrev cL_restore : ByteArray := method_36_code
def yL_restore : MethodName := ⟨RL, "restore", "(LCueStack;[J)I"⟩
abbrev cL_law : ByteArray := code
def yL_law : MethodName := ⟨RL, "law", "([I)Z"⟩
abbrev vwCl : List vw_C := [(RX0, TX0, 8), (RX1, TX1, 7), (RX2, TX2, 3), (RX3, TX3, 5), (RX4, TX4, 9), (RX5, TX5, 2), (RX6, TX6, 7), (RX7, TX7, 17)]
end
section
/-! static tables of the pure machine: fields, methods, classes, constants by class number and constant pool index; each entry's word stands in the claim's tables (lw_tbl), which a program decides -/
abbrev pz_G : List Cond := lw_tbl.filter goodWord
theorem pz_Gin {i : Nat} {w : Cond} (h : lw_tbl[i]? = some w) (g : goodWord w = true) : w ∈ pz_G := List.mem_filter.mpr ⟨List.mem_of_getElem? h, g⟩
def pz_R : Nat → String := fun n => match n with
  | 0 => RX0
  | 1 => RX1
  | 2 => RX2
  | 3 => RX3
  | 4 => RX4
  | 5 => RX5
  | 6 => RX6
  | 7 => RX7
  | 8 => RL
  | _ => RJ6
def pz_T : Nat → u_T := fun n => match n with
  | 0 => TX0
  | 1 => TX1
  | 2 => TX2
  | 3 => TX3
  | 4 => TX4
  | 5 => TX5
  | 6 => TX6
  | _ => TX7
def pz_N : Nat → Nat := fun n => match n with
  | 0 => 8
  | 1 => 7
  | 2 => 3
  | 3 => 5
  | 4 => 9
  | 5 => 2
  | 6 => 7
  | _ => 17
def pz_ty : Nat → Nat → FieldType := fun n => match n with
  | 0 => tyX0
  | 1 => tyX1
  | 2 => tyX2
  | 3 => tyX3
  | 4 => tyX4
  | 5 => tyX5
  | 6 => tyX6
  | _ => tyX7
def pz_blank (ci : Nat) : List Value := (List.range (pz_N ci)).map (fun k => defaultValue (pz_ty ci k))
theorem pz_cl (ci : Nat) (h : ci < 8) : vwCl[ci]? = some (pz_R ci, pz_T ci, pz_N ci) := by
  rcases (show ci = 0 ∨ ci = 1 ∨ ci = 2 ∨ ci = 3 ∨ ci = 4 ∨ ci = 5 ∨ ci = 6 ∨ ci = 7 by omega) with rfl | rfl | rfl | rfl | rfl | rfl | rfl | rfl <;> rfl
theorem pz_ty_ok (ci : Nat) (h : ci < 8) : ∀ k, k < pz_N ci → parseFieldDescriptor (pz_T ci k).2.2.1 = some (pz_ty ci k) := by
  rcases (show ci = 0 ∨ ci = 1 ∨ ci = 2 ∨ ci = 3 ∨ ci = 4 ∨ ci = 5 ∨ ci = 6 ∨ ci = 7 by omega) with rfl | rfl | rfl | rfl | rfl | rfl | rfl | rfl
  · exact tyX0_ok
  · exact tyX1_ok
  · exact tyX2_ok
  · exact tyX3_ok
  · exact tyX4_ok
  · exact tyX5_ok
  · exact tyX6_ok
  · exact tyX7_ok
theorem pz_nm (ci : Nat) (h : ci < 8) : ∀ a, a < pz_N ci → ∀ b, b < pz_N ci → a ≠ b → (pz_T ci a).2.1 ≠ (pz_T ci b).2.1 := by
  rcases (show ci = 0 ∨ ci = 1 ∨ ci = 2 ∨ ci = 3 ∨ ci = 4 ∨ ci = 5 ∨ ci = 6 ∨ ci = 7 by omega) with rfl | rfl | rfl | rfl | rfl | rfl | rfl | rfl
  · exact nmX0
  · exact nmX1
  · exact nmX2
  · exact nmX3
  · exact nmX4
  · exact nmX5
  · exact nmX6
  · exact nmX7

theorem pz_lay0 : ∀ w ∈ u_ws RX0 TX0 8, w ∈ pz_G := fun w h => ⟨(goodIn_r (big := lw_tbl) _ [142, 144, 146, 148, 150, 152, 154, 156] (by decide +kernel) (by decide +kernel) w h).1, (List.all_eq_true.mp (show (u_ws RX0 TX0 8).all goodWord = true by decide +kernel) w h)⟩ |> fun q => List.mem_filter.mpr q
theorem pz_lay1 : ∀ w ∈ u_ws RX1 TX1 7, w ∈ pz_G := fun w h => ⟨(goodIn_r (big := lw_tbl) _ [175, 177, 179, 181, 183, 185, 187] (by decide +kernel) (by decide +kernel) w h).1, (List.all_eq_true.mp (show (u_ws RX1 TX1 7).all goodWord = true by decide +kernel) w h)⟩ |> fun q => List.mem_filter.mpr q
theorem pz_lay2 : ∀ w ∈ u_ws RX2 TX2 3, w ∈ pz_G := fun w h => ⟨(goodIn_r (big := lw_tbl) _ [250, 252, 254] (by decide +kernel) (by decide +kernel) w h).1, (List.all_eq_true.mp (show (u_ws RX2 TX2 3).all goodWord = true by decide +kernel) w h)⟩ |> fun q => List.mem_filter.mpr q
theorem pz_lay3 : ∀ w ∈ u_ws RX3 TX3 5, w ∈ pz_G := fun w h => ⟨(goodIn_r (big := lw_tbl) _ [273, 275, 277, 279, 281] (by decide +kernel) (by decide +kernel) w h).1, (List.all_eq_true.mp (show (u_ws RX3 TX3 5).all goodWord = true by decide +kernel) w h)⟩ |> fun q => List.mem_filter.mpr q
theorem pz_lay4 : ∀ w ∈ u_ws RX4 TX4 9, w ∈ pz_G := fun w h => ⟨(goodIn_r (big := lw_tbl) _ [209, 211, 213, 215, 217, 219, 221, 223, 225] (by decide +kernel) (by decide +kernel) w h).1, (List.all_eq_true.mp (show (u_ws RX4 TX4 9).all goodWord = true by decide +kernel) w h)⟩ |> fun q => List.mem_filter.mpr q
theorem pz_lay5 : ∀ w ∈ u_ws RX5 TX5 2, w ∈ pz_G := fun w h => ⟨(goodIn_r (big := lw_tbl) _ [232, 234] (by decide +kernel) (by decide +kernel) w h).1, (List.all_eq_true.mp (show (u_ws RX5 TX5 2).all goodWord = true by decide +kernel) w h)⟩ |> fun q => List.mem_filter.mpr q
theorem pz_lay6 : ∀ w ∈ u_ws RX6 TX6 7, w ∈ pz_G := fun w h => ⟨(goodIn_r (big := lw_tbl) _ [292, 294, 296, 298, 300, 302, 304] (by decide +kernel) (by decide +kernel) w h).1, (List.all_eq_true.mp (show (u_ws RX6 TX6 7).all goodWord = true by decide +kernel) w h)⟩ |> fun q => List.mem_filter.mpr q
theorem pz_lay7 : ∀ w ∈ u_ws RX7 TX7 17, w ∈ pz_G := fun w h => ⟨(goodIn_r (big := lw_tbl) _ [1110, 1112, 1114, 1116, 1118, 1120, 1122, 1124, 1126, 1128, 1130, 1132, 1134, 1136, 1138, 1140, 1142] (by decide +kernel) (by decide +kernel) w h).1, (List.all_eq_true.mp (show (u_ws RX7 TX7 17).all goodWord = true by decide +kernel) w h)⟩ |> fun q => List.mem_filter.mpr q
theorem pz_lay (ci : Nat) (h : ci < 8) : ∀ w ∈ u_ws (pz_R ci) (pz_T ci) (pz_N ci), w ∈ pz_G := by
  rcases (show ci = 0 ∨ ci = 1 ∨ ci = 2 ∨ ci = 3 ∨ ci = 4 ∨ ci = 5 ∨ ci = 6 ∨ ci = 7 by omega) with rfl | rfl | rfl | rfl | rfl | rfl | rfl | rfl
  · exact pz_lay0
  · exact pz_lay1
  · exact pz_lay2
  · exact pz_lay3
  · exact pz_lay4
  · exact pz_lay5
  · exact pz_lay6
  · exact pz_lay7
def pz_fldP (e : Nat × Nat × Nat × Nat × Nat) : Prop := e.2.2.1 < 8 ∧ e.2.2.2.1 < pz_N e.2.2.1 ∧ (pz_T e.2.2.1 e.2.2.2.1).1 = pz_R e.2.2.1 ∧ lw_tbl[e.2.2.2.2]? = some (.fieldLink (pz_R e.1) e.2.1 (pz_T e.2.2.1 e.2.2.2.1).1 (pz_T e.2.2.1 e.2.2.2.1).2.1 (pz_T e.2.2.1 e.2.2.2.1).2.2.1)
def pz_fldL_0 : List (Nat × Nat × Nat × Nat × Nat) := [(0, 9, 0, 4, 132), (0, 15, 0, 5, 135), (0, 18, 0, 6, 138), (0, 21, 0, 7, 140), (0, 24, 0, 0, 118), (0, 28, 0, 1, 122), (0, 31, 0, 2, 126), (0, 35, 0, 3, 129), (1, 11, 1, 0, 160), (1, 17, 1, 2, 166), (1, 21, 1, 3, 168), (1, 24, 1, 4, 170), (1, 27, 1, 6, 174), (1, 31, 1, 1, 163), (1, 35, 1, 5, 172), (1, 48, 0, 0, 119), (1, 55, 0, 6, 139), (1, 65, 0, 2, 127), (1, 80, 0, 4, 133), (1, 83, 0, 5, 136), (1, 91, 0, 1, 124), (1, 97, 0, 7, 141), (1, 100, 0, 3, 131), (2, 13, 2, 0, 246)]
theorem pz_fldL_ok0 : ∀ e ∈ pz_fldL_0, pz_fldP e := by unfold pz_fldP; decide +kernel
def pz_fldL_1 : List (Nat × Nat × Nat × Nat × Nat) := [(2, 25, 2, 1, 247), (2, 32, 2, 2, 248), (3, 9, 3, 0, 263), (3, 15, 3, 4, 271), (3, 19, 3, 2, 267), (3, 27, 3, 1, 265), (3, 30, 3, 3, 269), (4, 9, 4, 0, 196), (4, 15, 4, 1, 197), (4, 18, 4, 2, 199), (4, 21, 4, 3, 200), (4, 24, 4, 4, 201), (4, 27, 4, 5, 202), (4, 31, 4, 6, 204), (4, 34, 4, 7, 205), (4, 37, 4, 8, 207), (4, 54, 1, 1, 165), (4, 59, 1, 0, 162), (4, 63, 0, 0, 121), (4, 75, 0, 1, 125), (4, 94, 0, 4, 134), (4, 95, 0, 5, 137), (5, 10, 5, 0, 228), (5, 19, 5, 1, 230)]
theorem pz_fldL_ok1 : ∀ e ∈ pz_fldL_1, pz_fldP e := by unfold pz_fldP; decide +kernel
def pz_fldL_2 : List (Nat × Nat × Nat × Nat × Nat) := [(6, 10, 6, 0, 285), (6, 16, 6, 1, 286), (6, 22, 6, 2, 287), (6, 29, 6, 3, 288), (6, 33, 6, 5, 290), (6, 37, 6, 6, 291), (6, 40, 5, 0, 229), (6, 44, 1, 1, 164), (6, 108, 1, 0, 161), (6, 112, 0, 0, 120), (6, 123, 0, 1, 123), (6, 129, 0, 3, 130), (6, 144, 0, 2, 128), (6, 169, 1, 2, 167), (6, 192, 1, 5, 173), (6, 195, 1, 3, 169), (6, 198, 1, 4, 171), (6, 223, 5, 1, 231), (6, 255, 4, 1, 198), (6, 258, 4, 5, 203), (6, 289, 4, 7, 206), (6, 292, 4, 8, 208), (6, 313, 3, 1, 266), (6, 318, 3, 0, 264)]
theorem pz_fldL_ok2 : ∀ e ∈ pz_fldL_2, pz_fldP e := by unfold pz_fldP; decide +kernel
def pz_fldL_3 : List (Nat × Nat × Nat × Nat × Nat) := [(6, 325, 3, 2, 268), (6, 350, 2, 2, 249), (6, 361, 6, 4, 289), (6, 366, 3, 4, 272), (6, 369, 3, 3, 270), (7, 9, 7, 0, 1093), (7, 13, 7, 1, 1094), (7, 16, 7, 2, 1095), (7, 19, 7, 4, 1097), (7, 22, 7, 8, 1101), (7, 25, 7, 9, 1102), (7, 29, 7, 13, 1106), (7, 33, 7, 14, 1107), (7, 36, 7, 15, 1108), (7, 42, 7, 7, 1100), (7, 45, 7, 5, 1098), (7, 60, 7, 6, 1099), (7, 207, 7, 10, 1103), (7, 210, 7, 12, 1105), (7, 214, 7, 11, 1104), (7, 228, 7, 16, 1109), (7, 251, 7, 3, 1096)]
theorem pz_fldL_ok3 : ∀ e ∈ pz_fldL_3, pz_fldP e := by unfold pz_fldP; decide +kernel
def pz_fldL : List (Nat × Nat × Nat × Nat × Nat) := pz_fldL_0 ++ pz_fldL_1 ++ pz_fldL_2 ++ pz_fldL_3
theorem pz_fldL_ok : ∀ e ∈ pz_fldL, pz_fldP e := by
  intro e h
  simp only [pz_fldL, List.mem_append, or_assoc] at h
  rcases h with h | h | h | h
  · exact pz_fldL_ok0 e h
  · exact pz_fldL_ok1 e h
  · exact pz_fldL_ok2 e h
  · exact pz_fldL_ok3 e h
def pz_fld (own idx : Nat) : Option (Nat × Nat) := (pz_fldL.find? (fun e => e.1 == own && e.2.1 == idx)).map (fun e => (e.2.2.1, e.2.2.2.1))
theorem pzf_0_9 : pz_fld 0 9 = some (0, 4) := by decide +kernel
theorem pzf_0_15 : pz_fld 0 15 = some (0, 5) := by decide +kernel
theorem pzf_0_18 : pz_fld 0 18 = some (0, 6) := by decide +kernel
theorem pzf_0_21 : pz_fld 0 21 = some (0, 7) := by decide +kernel
theorem pzf_0_24 : pz_fld 0 24 = some (0, 0) := by decide +kernel
theorem pzf_0_28 : pz_fld 0 28 = some (0, 1) := by decide +kernel
theorem pzf_0_31 : pz_fld 0 31 = some (0, 2) := by decide +kernel
theorem pzf_0_35 : pz_fld 0 35 = some (0, 3) := by decide +kernel
theorem pzf_1_11 : pz_fld 1 11 = some (1, 0) := by decide +kernel
theorem pzf_1_17 : pz_fld 1 17 = some (1, 2) := by decide +kernel
theorem pzf_1_21 : pz_fld 1 21 = some (1, 3) := by decide +kernel
theorem pzf_1_24 : pz_fld 1 24 = some (1, 4) := by decide +kernel
theorem pzf_1_27 : pz_fld 1 27 = some (1, 6) := by decide +kernel
theorem pzf_1_31 : pz_fld 1 31 = some (1, 1) := by decide +kernel
theorem pzf_1_35 : pz_fld 1 35 = some (1, 5) := by decide +kernel
theorem pzf_1_48 : pz_fld 1 48 = some (0, 0) := by decide +kernel
theorem pzf_1_55 : pz_fld 1 55 = some (0, 6) := by decide +kernel
theorem pzf_1_65 : pz_fld 1 65 = some (0, 2) := by decide +kernel
theorem pzf_1_80 : pz_fld 1 80 = some (0, 4) := by decide +kernel
theorem pzf_1_83 : pz_fld 1 83 = some (0, 5) := by decide +kernel
theorem pzf_1_91 : pz_fld 1 91 = some (0, 1) := by decide +kernel
theorem pzf_1_97 : pz_fld 1 97 = some (0, 7) := by decide +kernel
theorem pzf_1_100 : pz_fld 1 100 = some (0, 3) := by decide +kernel
theorem pzf_2_13 : pz_fld 2 13 = some (2, 0) := by decide +kernel
theorem pzf_2_25 : pz_fld 2 25 = some (2, 1) := by decide +kernel
theorem pzf_2_32 : pz_fld 2 32 = some (2, 2) := by decide +kernel
theorem pzf_3_9 : pz_fld 3 9 = some (3, 0) := by decide +kernel
theorem pzf_3_15 : pz_fld 3 15 = some (3, 4) := by decide +kernel
theorem pzf_3_19 : pz_fld 3 19 = some (3, 2) := by decide +kernel
theorem pzf_3_27 : pz_fld 3 27 = some (3, 1) := by decide +kernel
theorem pzf_3_30 : pz_fld 3 30 = some (3, 3) := by decide +kernel
theorem pzf_4_9 : pz_fld 4 9 = some (4, 0) := by decide +kernel
theorem pzf_4_15 : pz_fld 4 15 = some (4, 1) := by decide +kernel
theorem pzf_4_18 : pz_fld 4 18 = some (4, 2) := by decide +kernel
theorem pzf_4_21 : pz_fld 4 21 = some (4, 3) := by decide +kernel
theorem pzf_4_24 : pz_fld 4 24 = some (4, 4) := by decide +kernel
theorem pzf_4_27 : pz_fld 4 27 = some (4, 5) := by decide +kernel
theorem pzf_4_31 : pz_fld 4 31 = some (4, 6) := by decide +kernel
theorem pzf_4_34 : pz_fld 4 34 = some (4, 7) := by decide +kernel
theorem pzf_4_37 : pz_fld 4 37 = some (4, 8) := by decide +kernel
theorem pzf_4_54 : pz_fld 4 54 = some (1, 1) := by decide +kernel
theorem pzf_4_59 : pz_fld 4 59 = some (1, 0) := by decide +kernel
theorem pzf_4_63 : pz_fld 4 63 = some (0, 0) := by decide +kernel
theorem pzf_4_75 : pz_fld 4 75 = some (0, 1) := by decide +kernel
theorem pzf_4_94 : pz_fld 4 94 = some (0, 4) := by decide +kernel
theorem pzf_4_95 : pz_fld 4 95 = some (0, 5) := by decide +kernel
theorem pzf_5_10 : pz_fld 5 10 = some (5, 0) := by decide +kernel
theorem pzf_5_19 : pz_fld 5 19 = some (5, 1) := by decide +kernel
theorem pzf_6_10 : pz_fld 6 10 = some (6, 0) := by decide +kernel
theorem pzf_6_16 : pz_fld 6 16 = some (6, 1) := by decide +kernel
theorem pzf_6_22 : pz_fld 6 22 = some (6, 2) := by decide +kernel
theorem pzf_6_29 : pz_fld 6 29 = some (6, 3) := by decide +kernel
theorem pzf_6_33 : pz_fld 6 33 = some (6, 5) := by decide +kernel
theorem pzf_6_37 : pz_fld 6 37 = some (6, 6) := by decide +kernel
theorem pzf_6_40 : pz_fld 6 40 = some (5, 0) := by decide +kernel
theorem pzf_6_44 : pz_fld 6 44 = some (1, 1) := by decide +kernel
theorem pzf_6_108 : pz_fld 6 108 = some (1, 0) := by decide +kernel
theorem pzf_6_112 : pz_fld 6 112 = some (0, 0) := by decide +kernel
theorem pzf_6_123 : pz_fld 6 123 = some (0, 1) := by decide +kernel
theorem pzf_6_129 : pz_fld 6 129 = some (0, 3) := by decide +kernel
theorem pzf_6_144 : pz_fld 6 144 = some (0, 2) := by decide +kernel
theorem pzf_6_169 : pz_fld 6 169 = some (1, 2) := by decide +kernel
theorem pzf_6_192 : pz_fld 6 192 = some (1, 5) := by decide +kernel
theorem pzf_6_195 : pz_fld 6 195 = some (1, 3) := by decide +kernel
theorem pzf_6_198 : pz_fld 6 198 = some (1, 4) := by decide +kernel
theorem pzf_6_223 : pz_fld 6 223 = some (5, 1) := by decide +kernel
theorem pzf_6_255 : pz_fld 6 255 = some (4, 1) := by decide +kernel
theorem pzf_6_258 : pz_fld 6 258 = some (4, 5) := by decide +kernel
theorem pzf_6_289 : pz_fld 6 289 = some (4, 7) := by decide +kernel
theorem pzf_6_292 : pz_fld 6 292 = some (4, 8) := by decide +kernel
theorem pzf_6_313 : pz_fld 6 313 = some (3, 1) := by decide +kernel
theorem pzf_6_318 : pz_fld 6 318 = some (3, 0) := by decide +kernel
theorem pzf_6_325 : pz_fld 6 325 = some (3, 2) := by decide +kernel
theorem pzf_6_350 : pz_fld 6 350 = some (2, 2) := by decide +kernel
theorem pzf_6_361 : pz_fld 6 361 = some (6, 4) := by decide +kernel
theorem pzf_6_366 : pz_fld 6 366 = some (3, 4) := by decide +kernel
theorem pzf_6_369 : pz_fld 6 369 = some (3, 3) := by decide +kernel
theorem pzf_7_9 : pz_fld 7 9 = some (7, 0) := by decide +kernel
theorem pzf_7_13 : pz_fld 7 13 = some (7, 1) := by decide +kernel
theorem pzf_7_16 : pz_fld 7 16 = some (7, 2) := by decide +kernel
theorem pzf_7_19 : pz_fld 7 19 = some (7, 4) := by decide +kernel
theorem pzf_7_22 : pz_fld 7 22 = some (7, 8) := by decide +kernel
theorem pzf_7_25 : pz_fld 7 25 = some (7, 9) := by decide +kernel
theorem pzf_7_29 : pz_fld 7 29 = some (7, 13) := by decide +kernel
theorem pzf_7_33 : pz_fld 7 33 = some (7, 14) := by decide +kernel
theorem pzf_7_36 : pz_fld 7 36 = some (7, 15) := by decide +kernel
theorem pzf_7_42 : pz_fld 7 42 = some (7, 7) := by decide +kernel
theorem pzf_7_45 : pz_fld 7 45 = some (7, 5) := by decide +kernel
theorem pzf_7_60 : pz_fld 7 60 = some (7, 6) := by decide +kernel
theorem pzf_7_207 : pz_fld 7 207 = some (7, 10) := by decide +kernel
theorem pzf_7_210 : pz_fld 7 210 = some (7, 12) := by decide +kernel
theorem pzf_7_214 : pz_fld 7 214 = some (7, 11) := by decide +kernel
theorem pzf_7_228 : pz_fld 7 228 = some (7, 16) := by decide +kernel
theorem pzf_7_251 : pz_fld 7 251 = some (7, 3) := by decide +kernel
abbrev pz_ME : Type := MethodName × ByteArray × Nat × Option FieldType × Nat × Nat × Nat × List (Nat × Nat × Nat × Nat) × List Nat
def pz_word (e : pz_ME) : Cond := match e with
  | (y, cc, nL, rt, _, _, _, [], _) => .code y cc nL rt
  | (y, cc, nL, rt, _, _, _, hh, _) => .codeWith y cc nL rt hh
def pz_mP (e : pz_ME) : Prop := plainName e.1.cls = true ∧ e.2.2.1 ≤ 17 ∧ e.1.cls = pz_R e.2.2.2.2.1 ∧ (parseMethodDescriptor e.1.desc).map (fun d => d.parameters.length) = some e.2.2.2.2.2.1 ∧ e.1.cls ≠ "java/lang/invoke/MethodHandle" ∧ e.1.cls ≠ "java/lang/invoke/VarHandle" ∧ (e.2.2.2.2.2.2.1 = 2 ↔ e.1.name = "<init>") ∧ (e.2.2.2.2.2.2.1 = 2 → e.2.2.2.1 = none ∧ e.2.2.2.2.2.2.2.1 = []) ∧ lw_tbl[e.2.2.2.2.2.2.2.2.getD 0 0]? = some (pz_word e) ∧ goodWord (pz_word e) = true ∧ lw_tbl[e.2.2.2.2.2.2.2.2.getD 1 0]? = some (if e.2.2.2.2.2.2.1 = 0 then .static e.1 else .instanceMethod e.1) ∧ (e.2.2.2.2.2.2.1 = 1 → lw_tbl[e.2.2.2.2.2.2.2.2.getD 2 0]? = some (.selects e.1.cls e.1 e.1)) ∧ lw_tbl[e.2.2.2.2.2.2.2.2.getD 3 0]? = some (.initialized e.1.cls)
def pz_tabL_0 : List (pz_ME) := [(yX0_init, cX0_init, 1, none, 0, 0, 2, [], [116, 115, 70, 70]), (yX0_makeNew, cX0_makeNew, 3, none, 0, 1, 1, [], [494, 492, 493, 70]), (yX0_copyFrom, cX0_copyFrom, 2, none, 0, 1, 1, [], [355, 353, 354, 70]), (yX0_partRow, cX0_partRow, 2, (some (.array .int)), 0, 1, 1, [], [653, 651, 652, 70]), (yX0_isTracking, cX0_isTracking, 2, (some .boolean), 0, 1, 1, [], [535, 533, 534, 70]), (yX0_instructionCount, cX0_instructionCount, 3, (some .int), 0, 0, 1, [], [547, 545, 546, 70]), (yX0_partFor, cX0_partFor, 2, (some .int), 0, 1, 1, [], [677, 675, 676, 70]), (yX1_isMoving, cX1_isMoving, 3, (some .boolean), 1, 2, 1, [], [669, 667, 668, 69]), (yX1_movingSet, cX1_movingSet, 4, (some .int), 1, 1, 1, [], [665, 663, 664, 69]), (yX1_lengthOf, cX1_lengthOf, 6, (some .int), 1, 1, 1, [], [673, 671, 672, 69]), (yX1_chainFrom, cX1_chainFrom, 4, (some .int), 1, 1, 1, [], [938, 936, 937, 69]), (yX1_listedLevel, cX1_listedLevel, 3, (some .int), 1, 1, 1, [], [761, 759, 760, 69])]
theorem pz_tabL_ok0 : ∀ e ∈ pz_tabL_0, pz_mP e := by unfold pz_mP; decide +kernel
def pz_tabL_1 : List (pz_ME) := [(yX1_listedPart, cX1_listedPart, 3, (some .int), 1, 1, 1, [], [766, 764, 765, 69]), (yX1_putInstruction, cX1_putInstruction, 6, none, 1, 4, 1, [], [587, 586, 7, 69]), (yX1_deleteInstruction, cX1_deleteInstruction, 6, none, 1, 2, 1, [], [583, 582, 6, 69]), (yX1_needsHold, cX1_needsHold, 4, (some .boolean), 1, 3, 1, [], [543, 542, 2, 69]), (yX1_levelWithoutInstruction, cX1_levelWithoutInstruction, 3, (some .int), 1, 2, 1, [], [746, 745, 9, 69]), (yX1_init, cX1_init, 2, none, 1, 0, 2, [], [109, 108, 69, 69]), (yX1_refusal, cX1_refusal, 4, (some .int), 1, 3, 1, [], [551, 550, 3, 69]), (yX1_refusalToGive, cX1_refusalToGive, 7, (some .int), 1, 4, 1, [], [715, 713, 714, 69]), (yX1_refusalToTake, cX1_refusalToTake, 8, (some .int), 1, 3, 1, [], [742, 740, 741, 69]), (yX1_refusalToDrop, cX1_refusalToDrop, 5, (some .int), 1, 2, 1, [], [523, 521, 522, 69]), (yX1_give, cX1_give, 8, (some .int), 1, 5, 1, [], [719, 717, 718, 69]), (yX1_take, cX1_take, 7, (some .int), 1, 3, 1, [], [750, 748, 749, 69])]
theorem pz_tabL_ok1 : ∀ e ∈ pz_tabL_1, pz_mP e := by unfold pz_mP; decide +kernel
def pz_tabL_2 : List (pz_ME) := [(yX1_changedFrom, cX1_changedFrom, 6, (some .int), 1, 3, 1, [], [723, 722, 8, 69]), (yX1_makeBlock, cX1_makeBlock, 6, (some .int), 1, 2, 1, [], [630, 628, 629, 69]), (yX1_insertCue, cX1_insertCue, 4, none, 1, 1, 1, [], [490, 488, 489, 69]), (yX1_dropCue, cX1_dropCue, 5, (some .int), 1, 2, 1, [], [575, 573, 574, 69]), (yX1_makeNew, cX1_makeNew, 2, none, 1, 0, 1, [], [318, 316, 317, 69]), (yX1_deleteCue, cX1_deleteCue, 5, (some .int), 1, 1, 1, [], [579, 578, 5, 69]), (yX1_sumOfMoving, cX1_sumOfMoving, 3, (some .int), 1, 0, 1, [], [959, 957, 958, 69]), (yX1_protectedCount, cX1_protectedCount, 3, (some .int), 1, 0, 1, [], [965, 963, 964, 69]), (yX1_blockCount, cX1_blockCount, 3, (some .int), 1, 0, 1, [], [969, 967, 968, 69]), (yX1_releaseCount, cX1_releaseCount, 3, (some .int), 1, 0, 1, [], [973, 971, 972, 69]), (yX1_copyFrom, cX1_copyFrom, 3, none, 1, 1, 1, [], [351, 349, 350, 69]), (yX1_indexOf, cX1_indexOf, 3, (some .int), 1, 1, 1, [], [384, 382, 383, 69])]
theorem pz_tabL_ok2 : ∀ e ∈ pz_tabL_2, pz_mP e := by unfold pz_mP; decide +kernel
def pz_tabL_3 : List (pz_ME) := [(yX1_levelMeant, cX1_levelMeant, 3, (some .int), 1, 2, 1, [], [539, 537, 538, 69]), (yX1_levelIn, cX1_levelIn, 4, (some .int), 1, 2, 1, [], [531, 529, 530, 69]), (yX1_levelBefore, cX1_levelBefore, 3, (some .int), 1, 2, 1, [], [527, 525, 526, 69]), (yX1_levelFromFirst, cX1_levelFromFirst, 6, (some .int), 1, 2, 1, [], [786, 784, 785, 69]), (yX1_sourceIndex, cX1_sourceIndex, 4, (some .int), 1, 2, 1, [], [797, 795, 796, 69]), (yX2_init, cX2_init, 2, none, 2, 0, 2, [], [241, 240, 72, 72]), (yX2_remember, cX2_remember, 2, none, 2, 1, 1, [], [474, 472, 473, 72]), (yX2_prepare, cX2_prepare, 2, none, 2, 1, 1, [], [478, 476, 477, 72]), (yX2_takePrepared, cX2_takePrepared, 2, none, 2, 1, 1, [], [1052, 1050, 1051, 72]), (yX2_countPrepared, cX2_countPrepared, 1, none, 2, 0, 1, [], [483, 481, 482, 72]), (yX2_takeLatest, cX2_takeLatest, 2, none, 2, 1, 1, [], [1074, 1072, 1073, 72]), (yX2_forgetAll, cX2_forgetAll, 1, none, 2, 0, 1, [], [326, 324, 325, 72])]
theorem pz_tabL_ok3 : ∀ e ∈ pz_tabL_3, pz_mP e := by unfold pz_mP; decide +kernel
def pz_tabL_4 : List (pz_ME) := [(yX3_init, cX3_init, 1, none, 3, 0, 2, [], [261, 260, 73, 73]), (yX3_countEntries, cX3_countEntries, 2, (some .int), 3, 0, 1, [], [995, 993, 994, 73]), (yX3_readEntry, cX3_readEntry, 3, (some .boolean), 3, 0, 1, [], [999, 997, 998, 73]), (yX3_numberCount, cX3_numberCount, 1, (some .int), 3, 1, 0, [], [1002, 1001, 73, 73]), (yX3_mostDigits, cX3_mostDigits, 2, (some .int), 3, 1, 1, [], [1014, 1013, 13, 73]), (yX3_readSign, cX3_readSign, 2, (some .boolean), 3, 1, 1, [], [1006, 1005, 11, 73]), (yX3_readNumber, cX3_readNumber, 4, (some .boolean), 3, 1, 1, [], [1010, 1009, 12, 73]), (yX3_isDigit, cX3_isDigit, 1, (some .boolean), 3, 1, 0, [], [1017, 1016, 73, 73]), (yX4_nextNumber, cX4_nextNumber, 3, (some .int), 4, 1, 1, [], [917, 915, 916, 71]), (yX4_lowerIndex, cX4_lowerIndex, 3, (some .int), 4, 1, 1, [], [853, 851, 852, 71]), (yX4_tenthsSinceLast, cX4_tenthsSinceLast, 1, (some .int), 4, 0, 1, [], [887, 885, 886, 71]), (yX4_tenthsToFollow, cX4_tenthsToFollow, 4, (some .int), 4, 1, 1, [], [882, 880, 881, 71])]
theorem pz_tabL_ok4 : ∀ e ∈ pz_tabL_4, pz_mP e := by unfold pz_mP; decide +kernel
def pz_tabL_5 : List (pz_ME) := [(yX4_letGo, cX4_letGo, 8, (some .int), 4, 2, 1, [], [836, 834, 835, 71]), (yX4_beginFade, cX4_beginFade, 5, none, 4, 4, 1, [], [842, 841, 10, 71]), (yX4_hasTimeFor, cX4_hasTimeFor, 2, (some .boolean), 4, 1, 1, [], [872, 870, 871, 71]), (yX4_letPass, cX4_letPass, 7, (some .int), 4, 2, 1, [], [878, 876, 877, 71]), (yX4_init, cX4_init, 1, none, 4, 0, 2, [], [194, 193, 71, 71]), (yX4_makeNew, cX4_makeNew, 2, none, 4, 0, 1, [], [322, 320, 321, 71]), (yX4_copyFrom, cX4_copyFrom, 2, none, 4, 1, 1, [], [363, 361, 362, 71]), (yX4_presentLevel, cX4_presentLevel, 4, (some .int), 4, 1, 1, [], [338, 336, 337, 71]), (yX4_isFading, cX4_isFading, 2, (some .boolean), 4, 1, 1, [], [925, 923, 924, 71]), (yX4_fadingSet, cX4_fadingSet, 3, (some .int), 4, 0, 1, [], [921, 919, 920, 71]), (yX4_sumOfPresent, cX4_sumOfPresent, 3, (some .int), 4, 0, 1, [], [334, 332, 333, 71]), (yX4_sumOfTargets, cX4_sumOfTargets, 3, (some .int), 4, 0, 1, [], [949, 947, 948, 71])]
theorem pz_tabL_ok5 : ∀ e ∈ pz_tabL_5, pz_mP e := by unfold pz_mP; decide +kernel
def pz_tabL_6 : List (pz_ME) := [(yX4_nextIndex, cX4_nextIndex, 3, (some .int), 4, 1, 1, [], [831, 829, 830, 71]), (yX5_init, cX5_init, 1, none, 5, 0, 2, [], [103, 102, 68, 68]), (yX5_makeNew, cX5_makeNew, 1, none, 5, 0, 1, [], [314, 312, 313, 68]), (yX5_copyFrom, cX5_copyFrom, 2, none, 5, 1, 1, [], [347, 345, 346, 68]), (yX6_cue, cX6_cue, 5, (some .int), 6, 2, 1, [], [660, 658, 659, 67]), (yX6_part, cX6_part, 5, (some .int), 6, 3, 1, [], [688, 686, 687, 67]), (yX6_setHome, cX6_setHome, 4, (some .int), 6, 2, 1, [], [695, 693, 694, 67]), (yX6_set, cX6_set, 7, (some .int), 6, 5, 1, [], [710, 708, 709, 67]), (yX6_release, cX6_release, 6, (some .int), 6, 4, 1, [], [730, 728, 729, 67]), (yX6_unset, cX6_unset, 5, (some .int), 6, 3, 1, [], [737, 735, 736, 67]), (yX6_instruction, cX6_instruction, 3, (some .int), 6, 2, 1, [], [757, 755, 756, 67]), (yX6_level, cX6_level, 4, (some .int), 6, 2, 1, [], [774, 772, 773, 67])]
theorem pz_tabL_ok6 : ∀ e ∈ pz_tabL_6, pz_mP e := by unfold pz_mP; decide +kernel
def pz_tabL_7 : List (pz_ME) := [(yX6_levelAgain, cX6_levelAgain, 4, (some .int), 6, 2, 1, [], [782, 780, 781, 67]), (yX6_source, cX6_source, 4, (some .int), 6, 2, 1, [], [793, 791, 792, 67]), (yX6_init, cX6_init, 1, none, 6, 0, 2, [], [95, 94, 67, 67]), (yX6_sum, cX6_sum, 5, (some .int), 6, 1, 1, [], [804, 802, 803, 67]), (yX6_apart, cX6_apart, 7, (some .int), 6, 2, 1, [], [811, 809, 810, 67]), (yX6_reason, cX6_reason, 1, (some .int), 6, 0, 1, [], [819, 817, 818, 67]), (yX6_go, cX6_go, 2, (some .int), 6, 0, 1, [], [827, 825, 826, 67]), (yX6_back, cX6_back, 2, (some .int), 6, 0, 1, [], [849, 847, 848, 67]), (yX6_jump, cX6_jump, 3, (some .int), 6, 1, 1, [], [861, 859, 860, 67]), (yX6_pass, cX6_pass, 2, (some .int), 6, 1, 1, [], [868, 866, 867, 67]), (yX6_now, cX6_now, 2, (some .int), 6, 1, 1, [], [897, 895, 896, 67]), (yX6_target, cX6_target, 2, (some .int), 6, 1, 1, [], [905, 903, 904, 67])]
theorem pz_tabL_ok7 : ∀ e ∈ pz_tabL_7, pz_mP e := by unfold pz_mP; decide +kernel
def pz_tabL_8 : List (pz_ME) := [(yX6_playing, cX6_playing, 2, (some .int), 6, 1, 1, [], [912, 910, 911, 67]), (yX6_clear, cX6_clear, 2, (some .int), 6, 0, 1, [], [310, 308, 309, 67]), (yX6_chain, cX6_chain, 3, (some .int), 6, 1, 1, [], [934, 932, 933, 67]), (yX6_account, cX6_account, 2, (some .int), 6, 1, 1, [], [945, 943, 944, 67]), (yX6_meanLevel, cX6_meanLevel, 1, (some .double), 6, 0, 1, [], [330, 328, 329, 67]), (yX6_append, cX6_append, 2, (some .int), 6, 1, 1, [], [982, 980, 981, 67]), (yX6_read, cX6_read, 4, (some .int), 6, 0, 1, [], [991, 989, 990, 67]), (yX6_errorPosition, cX6_errorPosition, 1, (some .int), 6, 0, 1, [], [1061, 1059, 1060, 67]), (yX6_undo, cX6_undo, 1, (some .int), 6, 0, 1, [], [1069, 1067, 1068, 67]), (yX6_save, cX6_save, 1, (some .int), 6, 0, 1, [], [343, 341, 342, 67]), (yX6_restore, cX6_restore, 1, (some .int), 6, 0, 1, [], [1081, 1079, 1080, 67]), (yX6_isWithin, cX6_isWithin, 3, (some .boolean), 6, 3, 0, [], [380, 379, 67, 67])]
theorem pz_tabL_ok8 : ∀ e ∈ pz_tabL_8, pz_mP e := by unfold pz_mP; decide +kernel
def pz_tabL_9 : List (pz_ME) := [(yX6_addCue, cX6_addCue, 2, (some .int), 6, 1, 1, [], [373, 371, 372, 67]), (yX6_isChannel, cX6_isChannel, 1, (some .boolean), 6, 1, 0, [], [698, 697, 67, 67]), (yX6_isLevel, cX6_isLevel, 1, (some .boolean), 6, 1, 0, [], [702, 701, 67, 67]), (yX6_isPart, cX6_isPart, 1, (some .boolean), 6, 1, 0, [], [647, 646, 67, 67]), (yX6_isFreeNumber, cX6_isFreeNumber, 2, (some .boolean), 6, 1, 1, [], [377, 376, 0, 67]), (yX6_keepIfRefused, cX6_keepIfRefused, 2, (some .boolean), 6, 1, 1, [], [555, 554, 4, 67]), (yX6_performEntry, cX6_performEntry, 3, (some .boolean), 6, 0, 1, [], [1024, 1023, 14, 67]), (yX6_performAdd, cX6_performAdd, 2, (some .boolean), 6, 1, 1, [], [1028, 1027, 15, 67]), (yX6_performRemove, cX6_performRemove, 2, (some .boolean), 6, 1, 1, [], [1032, 1031, 16, 67]), (yX6_performGive, cX6_performGive, 4, (some .boolean), 6, 3, 1, [], [1036, 1035, 17, 67]), (yX6_performGo, cX6_performGo, 2, (some .boolean), 6, 0, 1, [], [1040, 1039, 18, 67]), (yX6_removeCue, cX6_removeCue, 4, (some .int), 6, 2, 1, [], [503, 501, 502, 67])]
theorem pz_tabL_ok9 : ∀ e ∈ pz_tabL_9, pz_mP e := by unfold pz_mP; decide +kernel
def pz_tabL_10 : List (pz_ME) := [(yX6_performJump, cX6_performJump, 2, (some .boolean), 6, 1, 1, [], [1044, 1043, 19, 67]), (yX6_performPass, cX6_performPass, 2, (some .boolean), 6, 1, 1, [], [1048, 1047, 20, 67]), (yX6_cueAt, cX6_cueAt, 2, (some .int), 6, 1, 1, [], [595, 593, 594, 67]), (yX6_setFollow, cX6_setFollow, 6, (some .int), 6, 2, 1, [], [618, 616, 617, 67]), (yX6_setBlock, cX6_setBlock, 4, (some .int), 6, 2, 1, [], [626, 624, 625, 67]), (yX6_setProtected, cX6_setProtected, 6, (some .boolean), 6, 2, 1, [], [637, 635, 636, 67]), (yX6_setPart, cX6_setPart, 8, (some .int), 6, 4, 1, [], [644, 642, 643, 67]), (yX7_at, cX7_at, 1, (some .int), 7, 1, 0, [], [1179, 1178, 74, 74]), (yX7_placeOf, cX7_placeOf, 3, (some .int), 7, 1, 1, [], [1176, 1175, 25, 74]), (yX7_isCue, cX7_isCue, 2, (some .boolean), 7, 1, 1, [], [1172, 1171, 24, 74]), (yX7_isBlock, cX7_isBlock, 2, (some .boolean), 7, 1, 1, [], [1215, 1214, 31, 74]), (yX7_isChannel, cX7_isChannel, 1, (some .boolean), 7, 1, 0, [], [1262, 1261, 74, 74])]
theorem pz_tabL_ok10 : ∀ e ∈ pz_tabL_10, pz_mP e := by unfold pz_mP; decide +kernel
def pz_tabL_11 : List (pz_ME) := [(yX7_isPart, cX7_isPart, 1, (some .boolean), 7, 1, 0, [], [1226, 1225, 74, 74]), (yX7_doAdd, cX7_doAdd, 4, (some .int), 7, 1, 1, [], [1165, 1164, 23, 74]), (yX7_addCue, cX7_addCue, 2, (some .int), 7, 1, 1, [], [1156, 1154, 1155, 74]), (yX7_cueAt, cX7_cueAt, 2, (some .int), 7, 1, 1, [], [1187, 1185, 1186, 74]), (yX7_setFollow, cX7_setFollow, 4, (some .int), 7, 2, 1, [], [1191, 1189, 1190, 74]), (yX7_init, cX7_init, 1, none, 7, 0, 2, [], [1087, 1086, 74, 74]), (yX7_keepLevels, cX7_keepLevels, 3, none, 7, 0, 1, [], [1203, 1202, 28, 74]), (yX7_setBlock, cX7_setBlock, 6, (some .int), 7, 2, 1, [], [1199, 1197, 1198, 74]), (yX7_setProtected, cX7_setProtected, 5, (some .boolean), 7, 2, 1, [], [1219, 1217, 1218, 74]), (yX7_partAt, cX7_partAt, 4, (some .int), 7, 3, 1, [], [1230, 1229, 32, 74]), (yX7_setPart, cX7_setPart, 7, (some .int), 7, 4, 1, [], [1223, 1221, 1222, 74]), (yX7_part, cX7_part, 4, (some .int), 7, 3, 1, [], [1234, 1232, 1233, 74])]
theorem pz_tabL_ok11 : ∀ e ∈ pz_tabL_11, pz_mP e := by unfold pz_mP; decide +kernel
def pz_tabL_12 : List (pz_ME) := [(yX7_given, cX7_given, 4, (some .int), 7, 2, 1, [], [1211, 1210, 30, 74]), (yX7_give, cX7_give, 7, none, 7, 4, 1, [], [1282, 1281, 40, 74]), (yX7_takeAway, cX7_takeAway, 2, none, 7, 1, 1, [], [1310, 1309, 45, 74]), (yX7_levelIn, cX7_levelIn, 6, (some .int), 7, 2, 1, [], [1207, 1206, 29, 74]), (yX7_thrown, cX7_thrown, 1, (some .int), 7, 0, 1, [], [1148, 1146, 1147, 74]), (yX7_moves, cX7_moves, 4, (some .boolean), 7, 2, 1, [], [1246, 1245, 34, 74]), (yX7_partOf, cX7_partOf, 4, (some .int), 7, 2, 1, [], [1254, 1253, 36, 74]), (yX7_lengthOf, cX7_lengthOf, 4, (some .int), 7, 2, 1, [], [1250, 1249, 35, 74]), (yX7_countOf, cX7_countOf, 4, (some .int), 7, 1, 1, [], [1242, 1241, 33, 74]), (yX7_cue, cX7_cue, 7, (some .int), 7, 2, 1, [], [1238, 1236, 1237, 74]), (yX7_setHome, cX7_setHome, 4, (some .int), 7, 2, 1, [], [1259, 1257, 1258, 74]), (yX7_hold, cX7_hold, 5, (some .int), 7, 2, 1, [], [1286, 1285, 41, 74])]
theorem pz_tabL_ok12 : ∀ e ∈ pz_tabL_12, pz_mP e := by unfold pz_mP; decide +kernel
def pz_tabL_13 : List (pz_ME) := [(yX7_changed, cX7_changed, 4, (some .int), 7, 1, 1, [], [1294, 1293, 43, 74]), (yX7_giveHeld, cX7_giveHeld, 8, (some .int), 7, 5, 1, [], [1274, 1273, 38, 74]), (yX7_wouldHoldProtected, cX7_wouldHoldProtected, 7, (some .boolean), 7, 3, 1, [], [1278, 1277, 39, 74]), (yX7_in, cX7_in, 3, (some .boolean), 7, 3, 0, [], [1168, 1167, 74, 74]), (yX7_doGive, cX7_doGive, 7, (some .int), 7, 5, 1, [], [1270, 1269, 37, 74]), (yX7_set, cX7_set, 6, (some .int), 7, 5, 1, [], [1266, 1264, 1265, 74]), (yX7_release, cX7_release, 5, (some .int), 7, 4, 1, [], [1298, 1296, 1297, 74]), (yX7_takeHeld, cX7_takeHeld, 6, (some .int), 7, 3, 1, [], [1306, 1305, 44, 74]), (yX7_unset, cX7_unset, 5, (some .int), 7, 3, 1, [], [1302, 1300, 1301, 74]), (yX7_doRemove, cX7_doRemove, 5, (some .int), 7, 2, 1, [], [1318, 1317, 46, 74]), (yX7_removeCue, cX7_removeCue, 4, (some .int), 7, 2, 1, [], [1314, 1312, 1313, 74]), (yX7_instruction, cX7_instruction, 3, (some .int), 7, 2, 1, [], [1322, 1320, 1321, 74])]
theorem pz_tabL_ok13 : ∀ e ∈ pz_tabL_13, pz_mP e := by unfold pz_mP; decide +kernel
def pz_tabL_14 : List (pz_ME) := [(yX7_level, cX7_level, 3, (some .int), 7, 2, 1, [], [1326, 1324, 1325, 74]), (yX7_levelAgain, cX7_levelAgain, 3, (some .int), 7, 2, 1, [], [1330, 1328, 1329, 74]), (yX7_begin, cX7_begin, 2, none, 7, 0, 1, [], [1092, 1091, 21, 74]), (yX7_source, cX7_source, 4, (some .int), 7, 2, 1, [], [1335, 1333, 1334, 74]), (yX7_sum, cX7_sum, 4, (some .int), 7, 1, 1, [], [1339, 1337, 1338, 74]), (yX7_apart, cX7_apart, 5, (some .int), 7, 2, 1, [], [1343, 1341, 1342, 74]), (yX7_reason, cX7_reason, 1, (some .int), 7, 0, 1, [], [1347, 1345, 1346, 74]), (yX7_fade, cX7_fade, 1, (some .int), 7, 1, 0, [], [1374, 1373, 74, 74]), (yX7_nowOf, cX7_nowOf, 8, (some .int), 7, 1, 1, [], [1378, 1377, 52, 74]), (yX7_isFading, cX7_isFading, 3, (some .boolean), 7, 1, 1, [], [1419, 1418, 56, 74]), (yX7_goes, cX7_goes, 8, (some .int), 7, 1, 1, [], [1371, 1370, 51, 74]), (yX7_nextCue, cX7_nextCue, 3, (some .int), 7, 1, 1, [], [1367, 1366, 50, 74])]
theorem pz_tabL_ok14 : ∀ e ∈ pz_tabL_14, pz_mP e := by unfold pz_mP; decide +kernel
def pz_tabL_15 : List (pz_ME) := [(yX7_cueAhead, cX7_cueAhead, 4, (some .int), 7, 1, 1, [], [1363, 1362, 49, 74]), (yX7_keepState, cX7_keepState, 1, none, 7, 0, 1, [], [1160, 1159, 22, 74]), (yX7_doGo, cX7_doGo, 3, (some .int), 7, 1, 1, [], [1359, 1358, 48, 74]), (yX7_steps, cX7_steps, 2, (some .int), 7, 1, 1, [], [1355, 1354, 47, 74]), (yX7_go, cX7_go, 1, (some .int), 7, 0, 1, [], [1351, 1349, 1350, 74]), (yX7_back, cX7_back, 1, (some .int), 7, 0, 1, [], [1382, 1380, 1381, 74]), (yX7_jump, cX7_jump, 2, (some .int), 7, 1, 1, [], [1386, 1384, 1385, 74]), (yX7_follows, cX7_follows, 2, (some .boolean), 7, 0, 1, [], [1399, 1398, 54, 74]), (yX7_doPass, cX7_doPass, 4, (some .int), 7, 1, 1, [], [1394, 1393, 53, 74]), (yX7_pass, cX7_pass, 3, (some .int), 7, 1, 1, [], [1390, 1388, 1389, 74]), (yX7_now, cX7_now, 2, (some .int), 7, 1, 1, [], [1403, 1401, 1402, 74]), (yX7_target, cX7_target, 2, (some .int), 7, 1, 1, [], [1407, 1405, 1406, 74])]
theorem pz_tabL_ok15 : ∀ e ∈ pz_tabL_15, pz_mP e := by unfold pz_mP; decide +kernel
def pz_tabL_16 : List (pz_ME) := [(yX7_change, cX7_change, 1, none, 7, 0, 1, [], [1183, 1182, 26, 74]), (yX7_fading, cX7_fading, 3, (some .int), 7, 0, 1, [], [1415, 1414, 55, 74]), (yX7_playing, cX7_playing, 2, (some .int), 7, 1, 1, [], [1411, 1409, 1410, 74]), (yX7_chain, cX7_chain, 4, (some .int), 7, 1, 1, [], [1423, 1421, 1422, 74]), (yX7_overChannels, cX7_overChannels, 4, (some .int), 7, 1, 1, [], [1431, 1430, 57, 74]), (yX7_overCues, cX7_overCues, 5, (some .int), 7, 1, 1, [], [1435, 1434, 58, 74]), (yX7_account, cX7_account, 4, (some .int), 7, 1, 1, [], [1427, 1425, 1426, 74]), (yX7_meanLevel, cX7_meanLevel, 1, (some .double), 7, 0, 1, [], [1439, 1437, 1438, 74]), (yX7_append, cX7_append, 2, (some .int), 7, 1, 1, [], [1444, 1442, 1443, 74]), (yX7_isHere, cX7_isHere, 3, (some .boolean), 7, 2, 1, [], [1543, 1542, 61, 74]), (yX7_sign, cX7_sign, 2, none, 7, 1, 1, [], [1551, 1550, 63, 74]), (yX7_changes, cX7_changes, 1, none, 7, 0, 1, [], [1195, 1194, 27, 74])]
theorem pz_tabL_ok16 : ∀ e ∈ pz_tabL_16, pz_mP e := by unfold pz_mP; decide +kernel
def pz_tabL_17 : List (pz_ME) := [(yX7_number, cX7_number, 4, (some .int), 7, 1, 1, [], [1539, 1538, 60, 74]), (yX7_behind, cX7_behind, 3, (some .int), 7, 2, 1, [], [1547, 1546, 62, 74]), (yX7_readEntry, cX7_readEntry, 3, none, 7, 0, 1, [], [1452, 1451, 59, 74]), (yX7_isTold, cX7_isTold, 2, (some .boolean), 7, 1, 1, [], [1559, 1558, 65, 74]), (yX7_fails, cX7_fails, 5, (some .boolean), 7, 1, 1, [], [1555, 1554, 64, 74]), (yX7_read, cX7_read, 2, (some .int), 7, 0, 1, [], [1448, 1446, 1447, 74]), (yX7_errorPosition, cX7_errorPosition, 1, (some .int), 7, 0, 1, [], [1563, 1561, 1562, 74]), (yX7_undo, cX7_undo, 1, (some .int), 7, 0, 1, [], [1567, 1565, 1566, 74]), (yX7_save, cX7_save, 1, (some .int), 7, 0, 1, [], [1571, 1569, 1570, 74]), (yX7_restore, cX7_restore, 1, (some .int), 7, 0, 1, [], [1575, 1573, 1574, 74]), (yX7_refuse, cX7_refuse, 2, (some .int), 7, 1, 1, [], [1290, 1289, 42, 74]), (yX7_clear, cX7_clear, 2, (some .int), 7, 0, 1, [], [1152, 1150, 1151, 74])]
theorem pz_tabL_ok17 : ∀ e ∈ pz_tabL_17, pz_mP e := by unfold pz_mP; decide +kernel
def pz_tabL_18 : List (pz_ME) := [(yL_cue, cL_cue, 5, (some .int), 8, 4, 0, [(0, 10, 13, 21), (0, 10, 17, 13)], [656, 655, 66, 66]), (yL_part, cL_part, 6, (some .int), 8, 5, 0, [(0, 12, 15, 21)], [684, 683, 66, 66]), (yL_setHome, cL_setHome, 5, (some .int), 8, 4, 0, [(0, 10, 13, 21), (0, 10, 17, 13)], [691, 690, 66, 66]), (yL_set, cL_set, 8, (some .int), 8, 7, 0, [(0, 16, 19, 21), (0, 16, 23, 13), (0, 16, 27, 23)], [706, 705, 66, 66]), (yL_release, cL_release, 7, (some .int), 8, 6, 0, [(0, 14, 17, 21), (0, 14, 21, 23)], [726, 725, 66, 66]), (yL_unset, cL_unset, 6, (some .int), 8, 5, 0, [(0, 12, 15, 21), (0, 12, 19, 23)], [733, 732, 66, 66]), (yL_instruction, cL_instruction, 5, (some .int), 8, 4, 0, [(0, 10, 13, 28), (0, 10, 17, 13)], [753, 752, 66, 66]), (yL_level, cL_level, 5, (some .int), 8, 4, 0, [(0, 10, 13, 21)], [770, 769, 66, 66]), (yL_levelAgain, cL_levelAgain, 5, (some .int), 8, 4, 0, [(0, 10, 13, 21)], [778, 777, 66, 66]), (yL_source, cL_source, 5, (some .int), 8, 4, 0, [(0, 10, 13, 21)], [789, 788, 66, 66]), (yL_sum, cL_sum, 4, (some .int), 8, 3, 0, [(0, 9, 12, 21)], [800, 799, 66, 66]), (yL_apart, cL_apart, 5, (some .int), 8, 4, 0, [(0, 10, 13, 21)], [807, 806, 66, 66])]
theorem pz_tabL_ok18 : ∀ e ∈ pz_tabL_18, pz_mP e := by unfold pz_mP; decide +kernel
def pz_tabL_19 : List (pz_ME) := [(yL_reason, cL_reason, 3, (some .int), 8, 2, 0, [(0, 8, 11, 28)], [815, 814, 66, 66]), (yL_go, cL_go, 3, (some .int), 8, 2, 0, [(0, 8, 11, 23)], [823, 822, 66, 66]), (yL_back, cL_back, 3, (some .int), 8, 2, 0, [(0, 8, 11, 23)], [845, 844, 66, 66]), (yL_jump, cL_jump, 4, (some .int), 8, 3, 0, [(0, 9, 12, 21)], [857, 856, 66, 66]), (yL_pass, cL_pass, 4, (some .int), 8, 3, 0, [(0, 9, 12, 13), (0, 9, 15, 15)], [864, 863, 66, 66]), (yL_now, cL_now, 4, (some .int), 8, 3, 0, [(0, 9, 12, 21)], [893, 892, 66, 66]), (yL_target, cL_target, 4, (some .int), 8, 3, 0, [(0, 9, 12, 21)], [901, 900, 66, 66]), (yL_playing, cL_playing, 4, (some .int), 8, 3, 0, [(0, 9, 12, 13)], [908, 907, 66, 66]), (yL_chain, cL_chain, 4, (some .int), 8, 3, 0, [(0, 9, 12, 21)], [930, 929, 66, 66]), (yL_account, cL_account, 4, (some .int), 8, 3, 0, [(0, 9, 12, 13)], [941, 940, 66, 66]), (yL_append, cL_append, 4, (some .int), 8, 3, 0, [(0, 9, 12, 13), (0, 9, 15, 15)], [978, 977, 66, 66]), (yL_read, cL_read, 3, (some .int), 8, 2, 0, [(0, 8, 11, 13), (0, 8, 14, 15)], [987, 986, 66, 66])]
theorem pz_tabL_ok19 : ∀ e ∈ pz_tabL_19, pz_mP e := by unfold pz_mP; decide +kernel
def pz_tabL_20 : List (pz_ME) := [(yL_errorPosition, cL_errorPosition, 3, (some .int), 8, 2, 0, [(0, 8, 11, 28)], [1057, 1056, 66, 66]), (yL_undo, cL_undo, 3, (some .int), 8, 2, 0, [(0, 8, 11, 28)], [1065, 1064, 66, 66]), (yL_restore, cL_restore, 3, (some .int), 8, 2, 0, [(0, 8, 11, 15)], [1077, 1076, 66, 66]), (yL_addCue, cL_addCue, 4, (some .int), 8, 3, 0, [(0, 9, 12, 13), (0, 9, 15, 15)], [367, 366, 66, 66]), (yL_removeCue, cL_removeCue, 5, (some .int), 8, 4, 0, [(0, 10, 13, 21), (0, 10, 17, 23)], [497, 496, 66, 66]), (yL_cueAt, cL_cueAt, 4, (some .int), 8, 3, 0, [(0, 9, 12, 28)], [590, 589, 66, 66]), (yL_setFollow, cL_setFollow, 5, (some .int), 8, 4, 0, [(0, 10, 13, 21), (0, 10, 17, 13)], [614, 613, 66, 66]), (yL_setBlock, cL_setBlock, 5, (some .int), 8, 4, 0, [(0, 10, 13, 21)], [622, 621, 66, 66]), (yL_setProtected, cL_setProtected, 5, (some .int), 8, 4, 0, [(0, 17, 20, 21)], [633, 632, 66, 66]), (yL_setPart, cL_setPart, 7, (some .int), 8, 6, 0, [(0, 14, 17, 21), (0, 14, 21, 13)], [640, 639, 66, 66]), (yJ6_bitCount_0f7a4, cJ6_bitCount_0f7a4, 1, (some .int), 9, 1, 0, [], [952, 951, 85, 85])]
theorem pz_tabL_ok20 : ∀ e ∈ pz_tabL_20, pz_mP e := by unfold pz_mP; decide +kernel
def pz_tabL : List (pz_ME) := pz_tabL_0 ++ pz_tabL_1 ++ pz_tabL_2 ++ pz_tabL_3 ++ pz_tabL_4 ++ pz_tabL_5 ++ pz_tabL_6 ++ pz_tabL_7 ++ pz_tabL_8 ++ pz_tabL_9 ++ pz_tabL_10 ++ pz_tabL_11 ++ pz_tabL_12 ++ pz_tabL_13 ++ pz_tabL_14 ++ pz_tabL_15 ++ pz_tabL_16 ++ pz_tabL_17 ++ pz_tabL_18 ++ pz_tabL_19 ++ pz_tabL_20
theorem pz_tabL_ok : ∀ e ∈ pz_tabL, pz_mP e := by
  intro e h
  simp only [pz_tabL, List.mem_append, or_assoc] at h
  rcases h with h | h | h | h | h | h | h | h | h | h | h | h | h | h | h | h | h | h | h | h | h
  · exact pz_tabL_ok0 e h
  · exact pz_tabL_ok1 e h
  · exact pz_tabL_ok2 e h
  · exact pz_tabL_ok3 e h
  · exact pz_tabL_ok4 e h
  · exact pz_tabL_ok5 e h
  · exact pz_tabL_ok6 e h
  · exact pz_tabL_ok7 e h
  · exact pz_tabL_ok8 e h
  · exact pz_tabL_ok9 e h
  · exact pz_tabL_ok10 e h
  · exact pz_tabL_ok11 e h
  · exact pz_tabL_ok12 e h
  · exact pz_tabL_ok13 e h
  · exact pz_tabL_ok14 e h
  · exact pz_tabL_ok15 e h
  · exact pz_tabL_ok16 e h
  · exact pz_tabL_ok17 e h
  · exact pz_tabL_ok18 e h
  · exact pz_tabL_ok19 e h
  · exact pz_tabL_ok20 e h
def pz_tab (y : Nat) : Option pz_ME := pz_tabL[y]?
theorem pzt_X0_init : pz_tab 0 = some (yX0_init, cX0_init, 1, none, 0, 0, 2, [], [116, 115, 70, 70]) := by with_unfolding_all rfl
theorem pzt_X0_makeNew : pz_tab 1 = some (yX0_makeNew, cX0_makeNew, 3, none, 0, 1, 1, [], [494, 492, 493, 70]) := by with_unfolding_all rfl
theorem pzt_X0_copyFrom : pz_tab 2 = some (yX0_copyFrom, cX0_copyFrom, 2, none, 0, 1, 1, [], [355, 353, 354, 70]) := by with_unfolding_all rfl
theorem pzt_X0_partRow : pz_tab 3 = some (yX0_partRow, cX0_partRow, 2, (some (.array .int)), 0, 1, 1, [], [653, 651, 652, 70]) := by with_unfolding_all rfl
theorem pzt_X0_isTracking : pz_tab 4 = some (yX0_isTracking, cX0_isTracking, 2, (some .boolean), 0, 1, 1, [], [535, 533, 534, 70]) := by with_unfolding_all rfl
theorem pzt_X0_instructionCount : pz_tab 5 = some (yX0_instructionCount, cX0_instructionCount, 3, (some .int), 0, 0, 1, [], [547, 545, 546, 70]) := by with_unfolding_all rfl
theorem pzt_X0_partFor : pz_tab 6 = some (yX0_partFor, cX0_partFor, 2, (some .int), 0, 1, 1, [], [677, 675, 676, 70]) := by with_unfolding_all rfl
theorem pzt_X1_isMoving : pz_tab 7 = some (yX1_isMoving, cX1_isMoving, 3, (some .boolean), 1, 2, 1, [], [669, 667, 668, 69]) := by with_unfolding_all rfl
theorem pzt_X1_movingSet : pz_tab 8 = some (yX1_movingSet, cX1_movingSet, 4, (some .int), 1, 1, 1, [], [665, 663, 664, 69]) := by with_unfolding_all rfl
theorem pzt_X1_lengthOf : pz_tab 9 = some (yX1_lengthOf, cX1_lengthOf, 6, (some .int), 1, 1, 1, [], [673, 671, 672, 69]) := by with_unfolding_all rfl
theorem pzt_X1_chainFrom : pz_tab 10 = some (yX1_chainFrom, cX1_chainFrom, 4, (some .int), 1, 1, 1, [], [938, 936, 937, 69]) := by with_unfolding_all rfl
theorem pzt_X1_listedLevel : pz_tab 11 = some (yX1_listedLevel, cX1_listedLevel, 3, (some .int), 1, 1, 1, [], [761, 759, 760, 69]) := by with_unfolding_all rfl
theorem pzt_X1_listedPart : pz_tab 12 = some (yX1_listedPart, cX1_listedPart, 3, (some .int), 1, 1, 1, [], [766, 764, 765, 69]) := by with_unfolding_all rfl
theorem pzt_X1_putInstruction : pz_tab 13 = some (yX1_putInstruction, cX1_putInstruction, 6, none, 1, 4, 1, [], [587, 586, 7, 69]) := by with_unfolding_all rfl
theorem pzt_X1_deleteInstruction : pz_tab 14 = some (yX1_deleteInstruction, cX1_deleteInstruction, 6, none, 1, 2, 1, [], [583, 582, 6, 69]) := by with_unfolding_all rfl
theorem pzt_X1_needsHold : pz_tab 15 = some (yX1_needsHold, cX1_needsHold, 4, (some .boolean), 1, 3, 1, [], [543, 542, 2, 69]) := by with_unfolding_all rfl
theorem pzt_X1_levelWithoutInstruction : pz_tab 16 = some (yX1_levelWithoutInstruction, cX1_levelWithoutInstruction, 3, (some .int), 1, 2, 1, [], [746, 745, 9, 69]) := by with_unfolding_all rfl
theorem pzt_X1_init : pz_tab 17 = some (yX1_init, cX1_init, 2, none, 1, 0, 2, [], [109, 108, 69, 69]) := by with_unfolding_all rfl
theorem pzt_X1_refusal : pz_tab 18 = some (yX1_refusal, cX1_refusal, 4, (some .int), 1, 3, 1, [], [551, 550, 3, 69]) := by with_unfolding_all rfl
theorem pzt_X1_refusalToGive : pz_tab 19 = some (yX1_refusalToGive, cX1_refusalToGive, 7, (some .int), 1, 4, 1, [], [715, 713, 714, 69]) := by with_unfolding_all rfl
theorem pzt_X1_refusalToTake : pz_tab 20 = some (yX1_refusalToTake, cX1_refusalToTake, 8, (some .int), 1, 3, 1, [], [742, 740, 741, 69]) := by with_unfolding_all rfl
theorem pzt_X1_refusalToDrop : pz_tab 21 = some (yX1_refusalToDrop, cX1_refusalToDrop, 5, (some .int), 1, 2, 1, [], [523, 521, 522, 69]) := by with_unfolding_all rfl
theorem pzt_X1_give : pz_tab 22 = some (yX1_give, cX1_give, 8, (some .int), 1, 5, 1, [], [719, 717, 718, 69]) := by with_unfolding_all rfl
theorem pzt_X1_take : pz_tab 23 = some (yX1_take, cX1_take, 7, (some .int), 1, 3, 1, [], [750, 748, 749, 69]) := by with_unfolding_all rfl
theorem pzt_X1_changedFrom : pz_tab 24 = some (yX1_changedFrom, cX1_changedFrom, 6, (some .int), 1, 3, 1, [], [723, 722, 8, 69]) := by with_unfolding_all rfl
theorem pzt_X1_makeBlock : pz_tab 25 = some (yX1_makeBlock, cX1_makeBlock, 6, (some .int), 1, 2, 1, [], [630, 628, 629, 69]) := by with_unfolding_all rfl
theorem pzt_X1_insertCue : pz_tab 26 = some (yX1_insertCue, cX1_insertCue, 4, none, 1, 1, 1, [], [490, 488, 489, 69]) := by with_unfolding_all rfl
theorem pzt_X1_dropCue : pz_tab 27 = some (yX1_dropCue, cX1_dropCue, 5, (some .int), 1, 2, 1, [], [575, 573, 574, 69]) := by with_unfolding_all rfl
theorem pzt_X1_makeNew : pz_tab 28 = some (yX1_makeNew, cX1_makeNew, 2, none, 1, 0, 1, [], [318, 316, 317, 69]) := by with_unfolding_all rfl
theorem pzt_X1_deleteCue : pz_tab 29 = some (yX1_deleteCue, cX1_deleteCue, 5, (some .int), 1, 1, 1, [], [579, 578, 5, 69]) := by with_unfolding_all rfl
theorem pzt_X1_sumOfMoving : pz_tab 30 = some (yX1_sumOfMoving, cX1_sumOfMoving, 3, (some .int), 1, 0, 1, [], [959, 957, 958, 69]) := by with_unfolding_all rfl
theorem pzt_X1_protectedCount : pz_tab 31 = some (yX1_protectedCount, cX1_protectedCount, 3, (some .int), 1, 0, 1, [], [965, 963, 964, 69]) := by with_unfolding_all rfl
theorem pzt_X1_blockCount : pz_tab 32 = some (yX1_blockCount, cX1_blockCount, 3, (some .int), 1, 0, 1, [], [969, 967, 968, 69]) := by with_unfolding_all rfl
theorem pzt_X1_releaseCount : pz_tab 33 = some (yX1_releaseCount, cX1_releaseCount, 3, (some .int), 1, 0, 1, [], [973, 971, 972, 69]) := by with_unfolding_all rfl
theorem pzt_X1_copyFrom : pz_tab 34 = some (yX1_copyFrom, cX1_copyFrom, 3, none, 1, 1, 1, [], [351, 349, 350, 69]) := by with_unfolding_all rfl
theorem pzt_X1_indexOf : pz_tab 35 = some (yX1_indexOf, cX1_indexOf, 3, (some .int), 1, 1, 1, [], [384, 382, 383, 69]) := by with_unfolding_all rfl
theorem pzt_X1_levelMeant : pz_tab 36 = some (yX1_levelMeant, cX1_levelMeant, 3, (some .int), 1, 2, 1, [], [539, 537, 538, 69]) := by with_unfolding_all rfl
theorem pzt_X1_levelIn : pz_tab 37 = some (yX1_levelIn, cX1_levelIn, 4, (some .int), 1, 2, 1, [], [531, 529, 530, 69]) := by with_unfolding_all rfl
theorem pzt_X1_levelBefore : pz_tab 38 = some (yX1_levelBefore, cX1_levelBefore, 3, (some .int), 1, 2, 1, [], [527, 525, 526, 69]) := by with_unfolding_all rfl
theorem pzt_X1_levelFromFirst : pz_tab 39 = some (yX1_levelFromFirst, cX1_levelFromFirst, 6, (some .int), 1, 2, 1, [], [786, 784, 785, 69]) := by with_unfolding_all rfl
theorem pzt_X1_sourceIndex : pz_tab 40 = some (yX1_sourceIndex, cX1_sourceIndex, 4, (some .int), 1, 2, 1, [], [797, 795, 796, 69]) := by with_unfolding_all rfl
theorem pzt_X2_init : pz_tab 41 = some (yX2_init, cX2_init, 2, none, 2, 0, 2, [], [241, 240, 72, 72]) := by with_unfolding_all rfl
theorem pzt_X2_remember : pz_tab 42 = some (yX2_remember, cX2_remember, 2, none, 2, 1, 1, [], [474, 472, 473, 72]) := by with_unfolding_all rfl
theorem pzt_X2_prepare : pz_tab 43 = some (yX2_prepare, cX2_prepare, 2, none, 2, 1, 1, [], [478, 476, 477, 72]) := by with_unfolding_all rfl
theorem pzt_X2_takePrepared : pz_tab 44 = some (yX2_takePrepared, cX2_takePrepared, 2, none, 2, 1, 1, [], [1052, 1050, 1051, 72]) := by with_unfolding_all rfl
theorem pzt_X2_countPrepared : pz_tab 45 = some (yX2_countPrepared, cX2_countPrepared, 1, none, 2, 0, 1, [], [483, 481, 482, 72]) := by with_unfolding_all rfl
theorem pzt_X2_takeLatest : pz_tab 46 = some (yX2_takeLatest, cX2_takeLatest, 2, none, 2, 1, 1, [], [1074, 1072, 1073, 72]) := by with_unfolding_all rfl
theorem pzt_X2_forgetAll : pz_tab 47 = some (yX2_forgetAll, cX2_forgetAll, 1, none, 2, 0, 1, [], [326, 324, 325, 72]) := by with_unfolding_all rfl
theorem pzt_X3_init : pz_tab 48 = some (yX3_init, cX3_init, 1, none, 3, 0, 2, [], [261, 260, 73, 73]) := by with_unfolding_all rfl
theorem pzt_X3_countEntries : pz_tab 49 = some (yX3_countEntries, cX3_countEntries, 2, (some .int), 3, 0, 1, [], [995, 993, 994, 73]) := by with_unfolding_all rfl
theorem pzt_X3_readEntry : pz_tab 50 = some (yX3_readEntry, cX3_readEntry, 3, (some .boolean), 3, 0, 1, [], [999, 997, 998, 73]) := by with_unfolding_all rfl
theorem pzt_X3_numberCount : pz_tab 51 = some (yX3_numberCount, cX3_numberCount, 1, (some .int), 3, 1, 0, [], [1002, 1001, 73, 73]) := by with_unfolding_all rfl
theorem pzt_X3_mostDigits : pz_tab 52 = some (yX3_mostDigits, cX3_mostDigits, 2, (some .int), 3, 1, 1, [], [1014, 1013, 13, 73]) := by with_unfolding_all rfl
theorem pzt_X3_readSign : pz_tab 53 = some (yX3_readSign, cX3_readSign, 2, (some .boolean), 3, 1, 1, [], [1006, 1005, 11, 73]) := by with_unfolding_all rfl
theorem pzt_X3_readNumber : pz_tab 54 = some (yX3_readNumber, cX3_readNumber, 4, (some .boolean), 3, 1, 1, [], [1010, 1009, 12, 73]) := by with_unfolding_all rfl
theorem pzt_X3_isDigit : pz_tab 55 = some (yX3_isDigit, cX3_isDigit, 1, (some .boolean), 3, 1, 0, [], [1017, 1016, 73, 73]) := by with_unfolding_all rfl
theorem pzt_X4_nextNumber : pz_tab 56 = some (yX4_nextNumber, cX4_nextNumber, 3, (some .int), 4, 1, 1, [], [917, 915, 916, 71]) := by with_unfolding_all rfl
theorem pzt_X4_lowerIndex : pz_tab 57 = some (yX4_lowerIndex, cX4_lowerIndex, 3, (some .int), 4, 1, 1, [], [853, 851, 852, 71]) := by with_unfolding_all rfl
theorem pzt_X4_tenthsSinceLast : pz_tab 58 = some (yX4_tenthsSinceLast, cX4_tenthsSinceLast, 1, (some .int), 4, 0, 1, [], [887, 885, 886, 71]) := by with_unfolding_all rfl
theorem pzt_X4_tenthsToFollow : pz_tab 59 = some (yX4_tenthsToFollow, cX4_tenthsToFollow, 4, (some .int), 4, 1, 1, [], [882, 880, 881, 71]) := by with_unfolding_all rfl
theorem pzt_X4_letGo : pz_tab 60 = some (yX4_letGo, cX4_letGo, 8, (some .int), 4, 2, 1, [], [836, 834, 835, 71]) := by with_unfolding_all rfl
theorem pzt_X4_beginFade : pz_tab 61 = some (yX4_beginFade, cX4_beginFade, 5, none, 4, 4, 1, [], [842, 841, 10, 71]) := by with_unfolding_all rfl
theorem pzt_X4_hasTimeFor : pz_tab 62 = some (yX4_hasTimeFor, cX4_hasTimeFor, 2, (some .boolean), 4, 1, 1, [], [872, 870, 871, 71]) := by with_unfolding_all rfl
theorem pzt_X4_letPass : pz_tab 63 = some (yX4_letPass, cX4_letPass, 7, (some .int), 4, 2, 1, [], [878, 876, 877, 71]) := by with_unfolding_all rfl
theorem pzt_X4_init : pz_tab 64 = some (yX4_init, cX4_init, 1, none, 4, 0, 2, [], [194, 193, 71, 71]) := by with_unfolding_all rfl
theorem pzt_X4_makeNew : pz_tab 65 = some (yX4_makeNew, cX4_makeNew, 2, none, 4, 0, 1, [], [322, 320, 321, 71]) := by with_unfolding_all rfl
theorem pzt_X4_copyFrom : pz_tab 66 = some (yX4_copyFrom, cX4_copyFrom, 2, none, 4, 1, 1, [], [363, 361, 362, 71]) := by with_unfolding_all rfl
theorem pzt_X4_presentLevel : pz_tab 67 = some (yX4_presentLevel, cX4_presentLevel, 4, (some .int), 4, 1, 1, [], [338, 336, 337, 71]) := by with_unfolding_all rfl
theorem pzt_X4_isFading : pz_tab 68 = some (yX4_isFading, cX4_isFading, 2, (some .boolean), 4, 1, 1, [], [925, 923, 924, 71]) := by with_unfolding_all rfl
theorem pzt_X4_fadingSet : pz_tab 69 = some (yX4_fadingSet, cX4_fadingSet, 3, (some .int), 4, 0, 1, [], [921, 919, 920, 71]) := by with_unfolding_all rfl
theorem pzt_X4_sumOfPresent : pz_tab 70 = some (yX4_sumOfPresent, cX4_sumOfPresent, 3, (some .int), 4, 0, 1, [], [334, 332, 333, 71]) := by with_unfolding_all rfl
theorem pzt_X4_sumOfTargets : pz_tab 71 = some (yX4_sumOfTargets, cX4_sumOfTargets, 3, (some .int), 4, 0, 1, [], [949, 947, 948, 71]) := by with_unfolding_all rfl
theorem pzt_X4_nextIndex : pz_tab 72 = some (yX4_nextIndex, cX4_nextIndex, 3, (some .int), 4, 1, 1, [], [831, 829, 830, 71]) := by with_unfolding_all rfl
theorem pzt_X5_init : pz_tab 73 = some (yX5_init, cX5_init, 1, none, 5, 0, 2, [], [103, 102, 68, 68]) := by with_unfolding_all rfl
theorem pzt_X5_makeNew : pz_tab 74 = some (yX5_makeNew, cX5_makeNew, 1, none, 5, 0, 1, [], [314, 312, 313, 68]) := by with_unfolding_all rfl
theorem pzt_X5_copyFrom : pz_tab 75 = some (yX5_copyFrom, cX5_copyFrom, 2, none, 5, 1, 1, [], [347, 345, 346, 68]) := by with_unfolding_all rfl
theorem pzt_X6_cue : pz_tab 76 = some (yX6_cue, cX6_cue, 5, (some .int), 6, 2, 1, [], [660, 658, 659, 67]) := by with_unfolding_all rfl
theorem pzt_X6_part : pz_tab 77 = some (yX6_part, cX6_part, 5, (some .int), 6, 3, 1, [], [688, 686, 687, 67]) := by with_unfolding_all rfl
theorem pzt_X6_setHome : pz_tab 78 = some (yX6_setHome, cX6_setHome, 4, (some .int), 6, 2, 1, [], [695, 693, 694, 67]) := by with_unfolding_all rfl
theorem pzt_X6_set : pz_tab 79 = some (yX6_set, cX6_set, 7, (some .int), 6, 5, 1, [], [710, 708, 709, 67]) := by with_unfolding_all rfl
theorem pzt_X6_release : pz_tab 80 = some (yX6_release, cX6_release, 6, (some .int), 6, 4, 1, [], [730, 728, 729, 67]) := by with_unfolding_all rfl
theorem pzt_X6_unset : pz_tab 81 = some (yX6_unset, cX6_unset, 5, (some .int), 6, 3, 1, [], [737, 735, 736, 67]) := by with_unfolding_all rfl
theorem pzt_X6_instruction : pz_tab 82 = some (yX6_instruction, cX6_instruction, 3, (some .int), 6, 2, 1, [], [757, 755, 756, 67]) := by with_unfolding_all rfl
theorem pzt_X6_level : pz_tab 83 = some (yX6_level, cX6_level, 4, (some .int), 6, 2, 1, [], [774, 772, 773, 67]) := by with_unfolding_all rfl
theorem pzt_X6_levelAgain : pz_tab 84 = some (yX6_levelAgain, cX6_levelAgain, 4, (some .int), 6, 2, 1, [], [782, 780, 781, 67]) := by with_unfolding_all rfl
theorem pzt_X6_source : pz_tab 85 = some (yX6_source, cX6_source, 4, (some .int), 6, 2, 1, [], [793, 791, 792, 67]) := by with_unfolding_all rfl
theorem pzt_X6_init : pz_tab 86 = some (yX6_init, cX6_init, 1, none, 6, 0, 2, [], [95, 94, 67, 67]) := by with_unfolding_all rfl
theorem pzt_X6_sum : pz_tab 87 = some (yX6_sum, cX6_sum, 5, (some .int), 6, 1, 1, [], [804, 802, 803, 67]) := by with_unfolding_all rfl
theorem pzt_X6_apart : pz_tab 88 = some (yX6_apart, cX6_apart, 7, (some .int), 6, 2, 1, [], [811, 809, 810, 67]) := by with_unfolding_all rfl
theorem pzt_X6_reason : pz_tab 89 = some (yX6_reason, cX6_reason, 1, (some .int), 6, 0, 1, [], [819, 817, 818, 67]) := by with_unfolding_all rfl
theorem pzt_X6_go : pz_tab 90 = some (yX6_go, cX6_go, 2, (some .int), 6, 0, 1, [], [827, 825, 826, 67]) := by with_unfolding_all rfl
theorem pzt_X6_back : pz_tab 91 = some (yX6_back, cX6_back, 2, (some .int), 6, 0, 1, [], [849, 847, 848, 67]) := by with_unfolding_all rfl
theorem pzt_X6_jump : pz_tab 92 = some (yX6_jump, cX6_jump, 3, (some .int), 6, 1, 1, [], [861, 859, 860, 67]) := by with_unfolding_all rfl
theorem pzt_X6_pass : pz_tab 93 = some (yX6_pass, cX6_pass, 2, (some .int), 6, 1, 1, [], [868, 866, 867, 67]) := by with_unfolding_all rfl
theorem pzt_X6_now : pz_tab 94 = some (yX6_now, cX6_now, 2, (some .int), 6, 1, 1, [], [897, 895, 896, 67]) := by with_unfolding_all rfl
theorem pzt_X6_target : pz_tab 95 = some (yX6_target, cX6_target, 2, (some .int), 6, 1, 1, [], [905, 903, 904, 67]) := by with_unfolding_all rfl
theorem pzt_X6_playing : pz_tab 96 = some (yX6_playing, cX6_playing, 2, (some .int), 6, 1, 1, [], [912, 910, 911, 67]) := by with_unfolding_all rfl
theorem pzt_X6_clear : pz_tab 97 = some (yX6_clear, cX6_clear, 2, (some .int), 6, 0, 1, [], [310, 308, 309, 67]) := by with_unfolding_all rfl
theorem pzt_X6_chain : pz_tab 98 = some (yX6_chain, cX6_chain, 3, (some .int), 6, 1, 1, [], [934, 932, 933, 67]) := by with_unfolding_all rfl
theorem pzt_X6_account : pz_tab 99 = some (yX6_account, cX6_account, 2, (some .int), 6, 1, 1, [], [945, 943, 944, 67]) := by with_unfolding_all rfl
theorem pzt_X6_meanLevel : pz_tab 100 = some (yX6_meanLevel, cX6_meanLevel, 1, (some .double), 6, 0, 1, [], [330, 328, 329, 67]) := by with_unfolding_all rfl
theorem pzt_X6_append : pz_tab 101 = some (yX6_append, cX6_append, 2, (some .int), 6, 1, 1, [], [982, 980, 981, 67]) := by with_unfolding_all rfl
theorem pzt_X6_read : pz_tab 102 = some (yX6_read, cX6_read, 4, (some .int), 6, 0, 1, [], [991, 989, 990, 67]) := by with_unfolding_all rfl
theorem pzt_X6_errorPosition : pz_tab 103 = some (yX6_errorPosition, cX6_errorPosition, 1, (some .int), 6, 0, 1, [], [1061, 1059, 1060, 67]) := by with_unfolding_all rfl
theorem pzt_X6_undo : pz_tab 104 = some (yX6_undo, cX6_undo, 1, (some .int), 6, 0, 1, [], [1069, 1067, 1068, 67]) := by with_unfolding_all rfl
theorem pzt_X6_save : pz_tab 105 = some (yX6_save, cX6_save, 1, (some .int), 6, 0, 1, [], [343, 341, 342, 67]) := by with_unfolding_all rfl
theorem pzt_X6_restore : pz_tab 106 = some (yX6_restore, cX6_restore, 1, (some .int), 6, 0, 1, [], [1081, 1079, 1080, 67]) := by with_unfolding_all rfl
theorem pzt_X6_isWithin : pz_tab 107 = some (yX6_isWithin, cX6_isWithin, 3, (some .boolean), 6, 3, 0, [], [380, 379, 67, 67]) := by with_unfolding_all rfl
theorem pzt_X6_addCue : pz_tab 108 = some (yX6_addCue, cX6_addCue, 2, (some .int), 6, 1, 1, [], [373, 371, 372, 67]) := by with_unfolding_all rfl
theorem pzt_X6_isChannel : pz_tab 109 = some (yX6_isChannel, cX6_isChannel, 1, (some .boolean), 6, 1, 0, [], [698, 697, 67, 67]) := by with_unfolding_all rfl
theorem pzt_X6_isLevel : pz_tab 110 = some (yX6_isLevel, cX6_isLevel, 1, (some .boolean), 6, 1, 0, [], [702, 701, 67, 67]) := by with_unfolding_all rfl
theorem pzt_X6_isPart : pz_tab 111 = some (yX6_isPart, cX6_isPart, 1, (some .boolean), 6, 1, 0, [], [647, 646, 67, 67]) := by with_unfolding_all rfl
theorem pzt_X6_isFreeNumber : pz_tab 112 = some (yX6_isFreeNumber, cX6_isFreeNumber, 2, (some .boolean), 6, 1, 1, [], [377, 376, 0, 67]) := by with_unfolding_all rfl
theorem pzt_X6_keepIfRefused : pz_tab 113 = some (yX6_keepIfRefused, cX6_keepIfRefused, 2, (some .boolean), 6, 1, 1, [], [555, 554, 4, 67]) := by with_unfolding_all rfl
theorem pzt_X6_performEntry : pz_tab 114 = some (yX6_performEntry, cX6_performEntry, 3, (some .boolean), 6, 0, 1, [], [1024, 1023, 14, 67]) := by with_unfolding_all rfl
theorem pzt_X6_performAdd : pz_tab 115 = some (yX6_performAdd, cX6_performAdd, 2, (some .boolean), 6, 1, 1, [], [1028, 1027, 15, 67]) := by with_unfolding_all rfl
theorem pzt_X6_performRemove : pz_tab 116 = some (yX6_performRemove, cX6_performRemove, 2, (some .boolean), 6, 1, 1, [], [1032, 1031, 16, 67]) := by with_unfolding_all rfl
theorem pzt_X6_performGive : pz_tab 117 = some (yX6_performGive, cX6_performGive, 4, (some .boolean), 6, 3, 1, [], [1036, 1035, 17, 67]) := by with_unfolding_all rfl
theorem pzt_X6_performGo : pz_tab 118 = some (yX6_performGo, cX6_performGo, 2, (some .boolean), 6, 0, 1, [], [1040, 1039, 18, 67]) := by with_unfolding_all rfl
theorem pzt_X6_removeCue : pz_tab 119 = some (yX6_removeCue, cX6_removeCue, 4, (some .int), 6, 2, 1, [], [503, 501, 502, 67]) := by with_unfolding_all rfl
theorem pzt_X6_performJump : pz_tab 120 = some (yX6_performJump, cX6_performJump, 2, (some .boolean), 6, 1, 1, [], [1044, 1043, 19, 67]) := by with_unfolding_all rfl
theorem pzt_X6_performPass : pz_tab 121 = some (yX6_performPass, cX6_performPass, 2, (some .boolean), 6, 1, 1, [], [1048, 1047, 20, 67]) := by with_unfolding_all rfl
theorem pzt_X6_cueAt : pz_tab 122 = some (yX6_cueAt, cX6_cueAt, 2, (some .int), 6, 1, 1, [], [595, 593, 594, 67]) := by with_unfolding_all rfl
theorem pzt_X6_setFollow : pz_tab 123 = some (yX6_setFollow, cX6_setFollow, 6, (some .int), 6, 2, 1, [], [618, 616, 617, 67]) := by with_unfolding_all rfl
theorem pzt_X6_setBlock : pz_tab 124 = some (yX6_setBlock, cX6_setBlock, 4, (some .int), 6, 2, 1, [], [626, 624, 625, 67]) := by with_unfolding_all rfl
theorem pzt_X6_setProtected : pz_tab 125 = some (yX6_setProtected, cX6_setProtected, 6, (some .boolean), 6, 2, 1, [], [637, 635, 636, 67]) := by with_unfolding_all rfl
theorem pzt_X6_setPart : pz_tab 126 = some (yX6_setPart, cX6_setPart, 8, (some .int), 6, 4, 1, [], [644, 642, 643, 67]) := by with_unfolding_all rfl
theorem pzt_X7_at : pz_tab 127 = some (yX7_at, cX7_at, 1, (some .int), 7, 1, 0, [], [1179, 1178, 74, 74]) := by with_unfolding_all rfl
theorem pzt_X7_placeOf : pz_tab 128 = some (yX7_placeOf, cX7_placeOf, 3, (some .int), 7, 1, 1, [], [1176, 1175, 25, 74]) := by with_unfolding_all rfl
theorem pzt_X7_isCue : pz_tab 129 = some (yX7_isCue, cX7_isCue, 2, (some .boolean), 7, 1, 1, [], [1172, 1171, 24, 74]) := by with_unfolding_all rfl
theorem pzt_X7_isBlock : pz_tab 130 = some (yX7_isBlock, cX7_isBlock, 2, (some .boolean), 7, 1, 1, [], [1215, 1214, 31, 74]) := by with_unfolding_all rfl
theorem pzt_X7_isChannel : pz_tab 131 = some (yX7_isChannel, cX7_isChannel, 1, (some .boolean), 7, 1, 0, [], [1262, 1261, 74, 74]) := by with_unfolding_all rfl
theorem pzt_X7_isPart : pz_tab 132 = some (yX7_isPart, cX7_isPart, 1, (some .boolean), 7, 1, 0, [], [1226, 1225, 74, 74]) := by with_unfolding_all rfl
theorem pzt_X7_doAdd : pz_tab 133 = some (yX7_doAdd, cX7_doAdd, 4, (some .int), 7, 1, 1, [], [1165, 1164, 23, 74]) := by with_unfolding_all rfl
theorem pzt_X7_addCue : pz_tab 134 = some (yX7_addCue, cX7_addCue, 2, (some .int), 7, 1, 1, [], [1156, 1154, 1155, 74]) := by with_unfolding_all rfl
theorem pzt_X7_cueAt : pz_tab 135 = some (yX7_cueAt, cX7_cueAt, 2, (some .int), 7, 1, 1, [], [1187, 1185, 1186, 74]) := by with_unfolding_all rfl
theorem pzt_X7_setFollow : pz_tab 136 = some (yX7_setFollow, cX7_setFollow, 4, (some .int), 7, 2, 1, [], [1191, 1189, 1190, 74]) := by with_unfolding_all rfl
theorem pzt_X7_init : pz_tab 137 = some (yX7_init, cX7_init, 1, none, 7, 0, 2, [], [1087, 1086, 74, 74]) := by with_unfolding_all rfl
theorem pzt_X7_keepLevels : pz_tab 138 = some (yX7_keepLevels, cX7_keepLevels, 3, none, 7, 0, 1, [], [1203, 1202, 28, 74]) := by with_unfolding_all rfl
theorem pzt_X7_setBlock : pz_tab 139 = some (yX7_setBlock, cX7_setBlock, 6, (some .int), 7, 2, 1, [], [1199, 1197, 1198, 74]) := by with_unfolding_all rfl
theorem pzt_X7_setProtected : pz_tab 140 = some (yX7_setProtected, cX7_setProtected, 5, (some .boolean), 7, 2, 1, [], [1219, 1217, 1218, 74]) := by with_unfolding_all rfl
theorem pzt_X7_partAt : pz_tab 141 = some (yX7_partAt, cX7_partAt, 4, (some .int), 7, 3, 1, [], [1230, 1229, 32, 74]) := by with_unfolding_all rfl
theorem pzt_X7_setPart : pz_tab 142 = some (yX7_setPart, cX7_setPart, 7, (some .int), 7, 4, 1, [], [1223, 1221, 1222, 74]) := by with_unfolding_all rfl
theorem pzt_X7_part : pz_tab 143 = some (yX7_part, cX7_part, 4, (some .int), 7, 3, 1, [], [1234, 1232, 1233, 74]) := by with_unfolding_all rfl
theorem pzt_X7_given : pz_tab 144 = some (yX7_given, cX7_given, 4, (some .int), 7, 2, 1, [], [1211, 1210, 30, 74]) := by with_unfolding_all rfl
theorem pzt_X7_give : pz_tab 145 = some (yX7_give, cX7_give, 7, none, 7, 4, 1, [], [1282, 1281, 40, 74]) := by with_unfolding_all rfl
theorem pzt_X7_takeAway : pz_tab 146 = some (yX7_takeAway, cX7_takeAway, 2, none, 7, 1, 1, [], [1310, 1309, 45, 74]) := by with_unfolding_all rfl
theorem pzt_X7_levelIn : pz_tab 147 = some (yX7_levelIn, cX7_levelIn, 6, (some .int), 7, 2, 1, [], [1207, 1206, 29, 74]) := by with_unfolding_all rfl
theorem pzt_X7_thrown : pz_tab 148 = some (yX7_thrown, cX7_thrown, 1, (some .int), 7, 0, 1, [], [1148, 1146, 1147, 74]) := by with_unfolding_all rfl
theorem pzt_X7_moves : pz_tab 149 = some (yX7_moves, cX7_moves, 4, (some .boolean), 7, 2, 1, [], [1246, 1245, 34, 74]) := by with_unfolding_all rfl
theorem pzt_X7_partOf : pz_tab 150 = some (yX7_partOf, cX7_partOf, 4, (some .int), 7, 2, 1, [], [1254, 1253, 36, 74]) := by with_unfolding_all rfl
theorem pzt_X7_lengthOf : pz_tab 151 = some (yX7_lengthOf, cX7_lengthOf, 4, (some .int), 7, 2, 1, [], [1250, 1249, 35, 74]) := by with_unfolding_all rfl
theorem pzt_X7_countOf : pz_tab 152 = some (yX7_countOf, cX7_countOf, 4, (some .int), 7, 1, 1, [], [1242, 1241, 33, 74]) := by with_unfolding_all rfl
theorem pzt_X7_cue : pz_tab 153 = some (yX7_cue, cX7_cue, 7, (some .int), 7, 2, 1, [], [1238, 1236, 1237, 74]) := by with_unfolding_all rfl
theorem pzt_X7_setHome : pz_tab 154 = some (yX7_setHome, cX7_setHome, 4, (some .int), 7, 2, 1, [], [1259, 1257, 1258, 74]) := by with_unfolding_all rfl
theorem pzt_X7_hold : pz_tab 155 = some (yX7_hold, cX7_hold, 5, (some .int), 7, 2, 1, [], [1286, 1285, 41, 74]) := by with_unfolding_all rfl
theorem pzt_X7_changed : pz_tab 156 = some (yX7_changed, cX7_changed, 4, (some .int), 7, 1, 1, [], [1294, 1293, 43, 74]) := by with_unfolding_all rfl
theorem pzt_X7_giveHeld : pz_tab 157 = some (yX7_giveHeld, cX7_giveHeld, 8, (some .int), 7, 5, 1, [], [1274, 1273, 38, 74]) := by with_unfolding_all rfl
theorem pzt_X7_wouldHoldProtected : pz_tab 158 = some (yX7_wouldHoldProtected, cX7_wouldHoldProtected, 7, (some .boolean), 7, 3, 1, [], [1278, 1277, 39, 74]) := by with_unfolding_all rfl
theorem pzt_X7_in : pz_tab 159 = some (yX7_in, cX7_in, 3, (some .boolean), 7, 3, 0, [], [1168, 1167, 74, 74]) := by with_unfolding_all rfl
theorem pzt_X7_doGive : pz_tab 160 = some (yX7_doGive, cX7_doGive, 7, (some .int), 7, 5, 1, [], [1270, 1269, 37, 74]) := by with_unfolding_all rfl
theorem pzt_X7_set : pz_tab 161 = some (yX7_set, cX7_set, 6, (some .int), 7, 5, 1, [], [1266, 1264, 1265, 74]) := by with_unfolding_all rfl
theorem pzt_X7_release : pz_tab 162 = some (yX7_release, cX7_release, 5, (some .int), 7, 4, 1, [], [1298, 1296, 1297, 74]) := by with_unfolding_all rfl
theorem pzt_X7_takeHeld : pz_tab 163 = some (yX7_takeHeld, cX7_takeHeld, 6, (some .int), 7, 3, 1, [], [1306, 1305, 44, 74]) := by with_unfolding_all rfl
theorem pzt_X7_unset : pz_tab 164 = some (yX7_unset, cX7_unset, 5, (some .int), 7, 3, 1, [], [1302, 1300, 1301, 74]) := by with_unfolding_all rfl
theorem pzt_X7_doRemove : pz_tab 165 = some (yX7_doRemove, cX7_doRemove, 5, (some .int), 7, 2, 1, [], [1318, 1317, 46, 74]) := by with_unfolding_all rfl
theorem pzt_X7_removeCue : pz_tab 166 = some (yX7_removeCue, cX7_removeCue, 4, (some .int), 7, 2, 1, [], [1314, 1312, 1313, 74]) := by with_unfolding_all rfl
theorem pzt_X7_instruction : pz_tab 167 = some (yX7_instruction, cX7_instruction, 3, (some .int), 7, 2, 1, [], [1322, 1320, 1321, 74]) := by with_unfolding_all rfl
theorem pzt_X7_level : pz_tab 168 = some (yX7_level, cX7_level, 3, (some .int), 7, 2, 1, [], [1326, 1324, 1325, 74]) := by with_unfolding_all rfl
theorem pzt_X7_levelAgain : pz_tab 169 = some (yX7_levelAgain, cX7_levelAgain, 3, (some .int), 7, 2, 1, [], [1330, 1328, 1329, 74]) := by with_unfolding_all rfl
theorem pzt_X7_begin : pz_tab 170 = some (yX7_begin, cX7_begin, 2, none, 7, 0, 1, [], [1092, 1091, 21, 74]) := by with_unfolding_all rfl
theorem pzt_X7_source : pz_tab 171 = some (yX7_source, cX7_source, 4, (some .int), 7, 2, 1, [], [1335, 1333, 1334, 74]) := by with_unfolding_all rfl
theorem pzt_X7_sum : pz_tab 172 = some (yX7_sum, cX7_sum, 4, (some .int), 7, 1, 1, [], [1339, 1337, 1338, 74]) := by with_unfolding_all rfl
theorem pzt_X7_apart : pz_tab 173 = some (yX7_apart, cX7_apart, 5, (some .int), 7, 2, 1, [], [1343, 1341, 1342, 74]) := by with_unfolding_all rfl
theorem pzt_X7_reason : pz_tab 174 = some (yX7_reason, cX7_reason, 1, (some .int), 7, 0, 1, [], [1347, 1345, 1346, 74]) := by with_unfolding_all rfl
theorem pzt_X7_fade : pz_tab 175 = some (yX7_fade, cX7_fade, 1, (some .int), 7, 1, 0, [], [1374, 1373, 74, 74]) := by with_unfolding_all rfl
theorem pzt_X7_nowOf : pz_tab 176 = some (yX7_nowOf, cX7_nowOf, 8, (some .int), 7, 1, 1, [], [1378, 1377, 52, 74]) := by with_unfolding_all rfl
theorem pzt_X7_isFading : pz_tab 177 = some (yX7_isFading, cX7_isFading, 3, (some .boolean), 7, 1, 1, [], [1419, 1418, 56, 74]) := by with_unfolding_all rfl
theorem pzt_X7_goes : pz_tab 178 = some (yX7_goes, cX7_goes, 8, (some .int), 7, 1, 1, [], [1371, 1370, 51, 74]) := by with_unfolding_all rfl
theorem pzt_X7_nextCue : pz_tab 179 = some (yX7_nextCue, cX7_nextCue, 3, (some .int), 7, 1, 1, [], [1367, 1366, 50, 74]) := by with_unfolding_all rfl
theorem pzt_X7_cueAhead : pz_tab 180 = some (yX7_cueAhead, cX7_cueAhead, 4, (some .int), 7, 1, 1, [], [1363, 1362, 49, 74]) := by with_unfolding_all rfl
theorem pzt_X7_keepState : pz_tab 181 = some (yX7_keepState, cX7_keepState, 1, none, 7, 0, 1, [], [1160, 1159, 22, 74]) := by with_unfolding_all rfl
theorem pzt_X7_doGo : pz_tab 182 = some (yX7_doGo, cX7_doGo, 3, (some .int), 7, 1, 1, [], [1359, 1358, 48, 74]) := by with_unfolding_all rfl
theorem pzt_X7_steps : pz_tab 183 = some (yX7_steps, cX7_steps, 2, (some .int), 7, 1, 1, [], [1355, 1354, 47, 74]) := by with_unfolding_all rfl
theorem pzt_X7_go : pz_tab 184 = some (yX7_go, cX7_go, 1, (some .int), 7, 0, 1, [], [1351, 1349, 1350, 74]) := by with_unfolding_all rfl
theorem pzt_X7_back : pz_tab 185 = some (yX7_back, cX7_back, 1, (some .int), 7, 0, 1, [], [1382, 1380, 1381, 74]) := by with_unfolding_all rfl
theorem pzt_X7_jump : pz_tab 186 = some (yX7_jump, cX7_jump, 2, (some .int), 7, 1, 1, [], [1386, 1384, 1385, 74]) := by with_unfolding_all rfl
theorem pzt_X7_follows : pz_tab 187 = some (yX7_follows, cX7_follows, 2, (some .boolean), 7, 0, 1, [], [1399, 1398, 54, 74]) := by with_unfolding_all rfl
theorem pzt_X7_doPass : pz_tab 188 = some (yX7_doPass, cX7_doPass, 4, (some .int), 7, 1, 1, [], [1394, 1393, 53, 74]) := by with_unfolding_all rfl
theorem pzt_X7_pass : pz_tab 189 = some (yX7_pass, cX7_pass, 3, (some .int), 7, 1, 1, [], [1390, 1388, 1389, 74]) := by with_unfolding_all rfl
theorem pzt_X7_now : pz_tab 190 = some (yX7_now, cX7_now, 2, (some .int), 7, 1, 1, [], [1403, 1401, 1402, 74]) := by with_unfolding_all rfl
theorem pzt_X7_target : pz_tab 191 = some (yX7_target, cX7_target, 2, (some .int), 7, 1, 1, [], [1407, 1405, 1406, 74]) := by with_unfolding_all rfl
theorem pzt_X7_change : pz_tab 192 = some (yX7_change, cX7_change, 1, none, 7, 0, 1, [], [1183, 1182, 26, 74]) := by with_unfolding_all rfl
theorem pzt_X7_fading : pz_tab 193 = some (yX7_fading, cX7_fading, 3, (some .int), 7, 0, 1, [], [1415, 1414, 55, 74]) := by with_unfolding_all rfl
theorem pzt_X7_playing : pz_tab 194 = some (yX7_playing, cX7_playing, 2, (some .int), 7, 1, 1, [], [1411, 1409, 1410, 74]) := by with_unfolding_all rfl
theorem pzt_X7_chain : pz_tab 195 = some (yX7_chain, cX7_chain, 4, (some .int), 7, 1, 1, [], [1423, 1421, 1422, 74]) := by with_unfolding_all rfl
theorem pzt_X7_overChannels : pz_tab 196 = some (yX7_overChannels, cX7_overChannels, 4, (some .int), 7, 1, 1, [], [1431, 1430, 57, 74]) := by with_unfolding_all rfl
theorem pzt_X7_overCues : pz_tab 197 = some (yX7_overCues, cX7_overCues, 5, (some .int), 7, 1, 1, [], [1435, 1434, 58, 74]) := by with_unfolding_all rfl
theorem pzt_X7_account : pz_tab 198 = some (yX7_account, cX7_account, 4, (some .int), 7, 1, 1, [], [1427, 1425, 1426, 74]) := by with_unfolding_all rfl
theorem pzt_X7_meanLevel : pz_tab 199 = some (yX7_meanLevel, cX7_meanLevel, 1, (some .double), 7, 0, 1, [], [1439, 1437, 1438, 74]) := by with_unfolding_all rfl
theorem pzt_X7_append : pz_tab 200 = some (yX7_append, cX7_append, 2, (some .int), 7, 1, 1, [], [1444, 1442, 1443, 74]) := by with_unfolding_all rfl
theorem pzt_X7_isHere : pz_tab 201 = some (yX7_isHere, cX7_isHere, 3, (some .boolean), 7, 2, 1, [], [1543, 1542, 61, 74]) := by with_unfolding_all rfl
theorem pzt_X7_sign : pz_tab 202 = some (yX7_sign, cX7_sign, 2, none, 7, 1, 1, [], [1551, 1550, 63, 74]) := by with_unfolding_all rfl
theorem pzt_X7_changes : pz_tab 203 = some (yX7_changes, cX7_changes, 1, none, 7, 0, 1, [], [1195, 1194, 27, 74]) := by with_unfolding_all rfl
theorem pzt_X7_number : pz_tab 204 = some (yX7_number, cX7_number, 4, (some .int), 7, 1, 1, [], [1539, 1538, 60, 74]) := by with_unfolding_all rfl
theorem pzt_X7_behind : pz_tab 205 = some (yX7_behind, cX7_behind, 3, (some .int), 7, 2, 1, [], [1547, 1546, 62, 74]) := by with_unfolding_all rfl
theorem pzt_X7_readEntry : pz_tab 206 = some (yX7_readEntry, cX7_readEntry, 3, none, 7, 0, 1, [], [1452, 1451, 59, 74]) := by with_unfolding_all rfl
theorem pzt_X7_isTold : pz_tab 207 = some (yX7_isTold, cX7_isTold, 2, (some .boolean), 7, 1, 1, [], [1559, 1558, 65, 74]) := by with_unfolding_all rfl
theorem pzt_X7_fails : pz_tab 208 = some (yX7_fails, cX7_fails, 5, (some .boolean), 7, 1, 1, [], [1555, 1554, 64, 74]) := by with_unfolding_all rfl
theorem pzt_X7_read : pz_tab 209 = some (yX7_read, cX7_read, 2, (some .int), 7, 0, 1, [], [1448, 1446, 1447, 74]) := by with_unfolding_all rfl
theorem pzt_X7_errorPosition : pz_tab 210 = some (yX7_errorPosition, cX7_errorPosition, 1, (some .int), 7, 0, 1, [], [1563, 1561, 1562, 74]) := by with_unfolding_all rfl
theorem pzt_X7_undo : pz_tab 211 = some (yX7_undo, cX7_undo, 1, (some .int), 7, 0, 1, [], [1567, 1565, 1566, 74]) := by with_unfolding_all rfl
theorem pzt_X7_save : pz_tab 212 = some (yX7_save, cX7_save, 1, (some .int), 7, 0, 1, [], [1571, 1569, 1570, 74]) := by with_unfolding_all rfl
theorem pzt_X7_restore : pz_tab 213 = some (yX7_restore, cX7_restore, 1, (some .int), 7, 0, 1, [], [1575, 1573, 1574, 74]) := by with_unfolding_all rfl
theorem pzt_X7_refuse : pz_tab 214 = some (yX7_refuse, cX7_refuse, 2, (some .int), 7, 1, 1, [], [1290, 1289, 42, 74]) := by with_unfolding_all rfl
theorem pzt_X7_clear : pz_tab 215 = some (yX7_clear, cX7_clear, 2, (some .int), 7, 0, 1, [], [1152, 1150, 1151, 74]) := by with_unfolding_all rfl
theorem pzt_L_cue : pz_tab 216 = some (yL_cue, cL_cue, 5, (some .int), 8, 4, 0, [(0, 10, 13, 21), (0, 10, 17, 13)], [656, 655, 66, 66]) := by with_unfolding_all rfl
theorem pzt_L_part : pz_tab 217 = some (yL_part, cL_part, 6, (some .int), 8, 5, 0, [(0, 12, 15, 21)], [684, 683, 66, 66]) := by with_unfolding_all rfl
theorem pzt_L_setHome : pz_tab 218 = some (yL_setHome, cL_setHome, 5, (some .int), 8, 4, 0, [(0, 10, 13, 21), (0, 10, 17, 13)], [691, 690, 66, 66]) := by with_unfolding_all rfl
theorem pzt_L_set : pz_tab 219 = some (yL_set, cL_set, 8, (some .int), 8, 7, 0, [(0, 16, 19, 21), (0, 16, 23, 13), (0, 16, 27, 23)], [706, 705, 66, 66]) := by with_unfolding_all rfl
theorem pzt_L_release : pz_tab 220 = some (yL_release, cL_release, 7, (some .int), 8, 6, 0, [(0, 14, 17, 21), (0, 14, 21, 23)], [726, 725, 66, 66]) := by with_unfolding_all rfl
theorem pzt_L_unset : pz_tab 221 = some (yL_unset, cL_unset, 6, (some .int), 8, 5, 0, [(0, 12, 15, 21), (0, 12, 19, 23)], [733, 732, 66, 66]) := by with_unfolding_all rfl
theorem pzt_L_instruction : pz_tab 222 = some (yL_instruction, cL_instruction, 5, (some .int), 8, 4, 0, [(0, 10, 13, 28), (0, 10, 17, 13)], [753, 752, 66, 66]) := by with_unfolding_all rfl
theorem pzt_L_level : pz_tab 223 = some (yL_level, cL_level, 5, (some .int), 8, 4, 0, [(0, 10, 13, 21)], [770, 769, 66, 66]) := by with_unfolding_all rfl
theorem pzt_L_levelAgain : pz_tab 224 = some (yL_levelAgain, cL_levelAgain, 5, (some .int), 8, 4, 0, [(0, 10, 13, 21)], [778, 777, 66, 66]) := by with_unfolding_all rfl
theorem pzt_L_source : pz_tab 225 = some (yL_source, cL_source, 5, (some .int), 8, 4, 0, [(0, 10, 13, 21)], [789, 788, 66, 66]) := by with_unfolding_all rfl
theorem pzt_L_sum : pz_tab 226 = some (yL_sum, cL_sum, 4, (some .int), 8, 3, 0, [(0, 9, 12, 21)], [800, 799, 66, 66]) := by with_unfolding_all rfl
theorem pzt_L_apart : pz_tab 227 = some (yL_apart, cL_apart, 5, (some .int), 8, 4, 0, [(0, 10, 13, 21)], [807, 806, 66, 66]) := by with_unfolding_all rfl
theorem pzt_L_reason : pz_tab 228 = some (yL_reason, cL_reason, 3, (some .int), 8, 2, 0, [(0, 8, 11, 28)], [815, 814, 66, 66]) := by with_unfolding_all rfl
theorem pzt_L_go : pz_tab 229 = some (yL_go, cL_go, 3, (some .int), 8, 2, 0, [(0, 8, 11, 23)], [823, 822, 66, 66]) := by with_unfolding_all rfl
theorem pzt_L_back : pz_tab 230 = some (yL_back, cL_back, 3, (some .int), 8, 2, 0, [(0, 8, 11, 23)], [845, 844, 66, 66]) := by with_unfolding_all rfl
theorem pzt_L_jump : pz_tab 231 = some (yL_jump, cL_jump, 4, (some .int), 8, 3, 0, [(0, 9, 12, 21)], [857, 856, 66, 66]) := by with_unfolding_all rfl
theorem pzt_L_pass : pz_tab 232 = some (yL_pass, cL_pass, 4, (some .int), 8, 3, 0, [(0, 9, 12, 13), (0, 9, 15, 15)], [864, 863, 66, 66]) := by with_unfolding_all rfl
theorem pzt_L_now : pz_tab 233 = some (yL_now, cL_now, 4, (some .int), 8, 3, 0, [(0, 9, 12, 21)], [893, 892, 66, 66]) := by with_unfolding_all rfl
theorem pzt_L_target : pz_tab 234 = some (yL_target, cL_target, 4, (some .int), 8, 3, 0, [(0, 9, 12, 21)], [901, 900, 66, 66]) := by with_unfolding_all rfl
theorem pzt_L_playing : pz_tab 235 = some (yL_playing, cL_playing, 4, (some .int), 8, 3, 0, [(0, 9, 12, 13)], [908, 907, 66, 66]) := by with_unfolding_all rfl
theorem pzt_L_chain : pz_tab 236 = some (yL_chain, cL_chain, 4, (some .int), 8, 3, 0, [(0, 9, 12, 21)], [930, 929, 66, 66]) := by with_unfolding_all rfl
theorem pzt_L_account : pz_tab 237 = some (yL_account, cL_account, 4, (some .int), 8, 3, 0, [(0, 9, 12, 13)], [941, 940, 66, 66]) := by with_unfolding_all rfl
theorem pzt_L_append : pz_tab 238 = some (yL_append, cL_append, 4, (some .int), 8, 3, 0, [(0, 9, 12, 13), (0, 9, 15, 15)], [978, 977, 66, 66]) := by with_unfolding_all rfl
theorem pzt_L_read : pz_tab 239 = some (yL_read, cL_read, 3, (some .int), 8, 2, 0, [(0, 8, 11, 13), (0, 8, 14, 15)], [987, 986, 66, 66]) := by with_unfolding_all rfl
theorem pzt_L_errorPosition : pz_tab 240 = some (yL_errorPosition, cL_errorPosition, 3, (some .int), 8, 2, 0, [(0, 8, 11, 28)], [1057, 1056, 66, 66]) := by with_unfolding_all rfl
theorem pzt_L_undo : pz_tab 241 = some (yL_undo, cL_undo, 3, (some .int), 8, 2, 0, [(0, 8, 11, 28)], [1065, 1064, 66, 66]) := by with_unfolding_all rfl
theorem pzt_L_restore : pz_tab 242 = some (yL_restore, cL_restore, 3, (some .int), 8, 2, 0, [(0, 8, 11, 15)], [1077, 1076, 66, 66]) := by with_unfolding_all rfl
theorem pzt_L_addCue : pz_tab 243 = some (yL_addCue, cL_addCue, 4, (some .int), 8, 3, 0, [(0, 9, 12, 13), (0, 9, 15, 15)], [367, 366, 66, 66]) := by with_unfolding_all rfl
theorem pzt_L_removeCue : pz_tab 244 = some (yL_removeCue, cL_removeCue, 5, (some .int), 8, 4, 0, [(0, 10, 13, 21), (0, 10, 17, 23)], [497, 496, 66, 66]) := by with_unfolding_all rfl
theorem pzt_L_cueAt : pz_tab 245 = some (yL_cueAt, cL_cueAt, 4, (some .int), 8, 3, 0, [(0, 9, 12, 28)], [590, 589, 66, 66]) := by with_unfolding_all rfl
theorem pzt_L_setFollow : pz_tab 246 = some (yL_setFollow, cL_setFollow, 5, (some .int), 8, 4, 0, [(0, 10, 13, 21), (0, 10, 17, 13)], [614, 613, 66, 66]) := by with_unfolding_all rfl
theorem pzt_L_setBlock : pz_tab 247 = some (yL_setBlock, cL_setBlock, 5, (some .int), 8, 4, 0, [(0, 10, 13, 21)], [622, 621, 66, 66]) := by with_unfolding_all rfl
theorem pzt_L_setProtected : pz_tab 248 = some (yL_setProtected, cL_setProtected, 5, (some .int), 8, 4, 0, [(0, 17, 20, 21)], [633, 632, 66, 66]) := by with_unfolding_all rfl
theorem pzt_L_setPart : pz_tab 249 = some (yL_setPart, cL_setPart, 7, (some .int), 8, 6, 0, [(0, 14, 17, 21), (0, 14, 21, 13)], [640, 639, 66, 66]) := by with_unfolding_all rfl
theorem pzt_J6_bitCount_0f7a4 : pz_tab 250 = some (yJ6_bitCount_0f7a4, cJ6_bitCount_0f7a4, 1, (some .int), 9, 1, 0, [], [952, 951, 85, 85]) := by with_unfolding_all rfl
def pz_mthP (e : Nat × Nat × Nat × Nat) : Prop := ∃ m, pz_tab e.2.2.1 = some m ∧ lw_tbl[e.2.2.2]? = some (.methodLink (pz_R e.1) e.2.1 m.1)
def pz_mthQ (e : Nat × Nat × Nat × Nat) : Bool := match pz_tab e.2.2.1 with
  | some m => decide (lw_tbl[e.2.2.2]? = some (.methodLink (pz_R e.1) e.2.1 m.1))
  | none => false
def pz_nestQ (e : Nat × Nat × Nat × Nat) : Bool := match pz_tab e.2.2.1 with
  | some m => decide (lw_tbl[e.2.2.2]? = some (.methodLinkNest (pz_R e.1) e.2.1 m.1 "CueStack"))
  | none => false
def pz_mthL_0 : List (Nat × Nat × Nat × Nat) := [(1, 38, 2, 352), (1, 51, 4, 532), (1, 58, 36, 536), (1, 62, 37, 528), (1, 69, 38, 524), (1, 72, 7, 666), (1, 76, 6, 674), (1, 94, 35, 762), (1, 103, 15, 540), (1, 107, 18, 548), (1, 111, 16, 743), (1, 114, 5, 544), (1, 118, 13, 584), (1, 122, 24, 720), (1, 125, 14, 580), (1, 129, 1, 491), (1, 133, 29, 576), (1, 136, 8, 960), (1, 139, 250, 961), (1, 144, 11, 974), (2, 18, 43, 475), (2, 22, 45, 480), (2, 29, 75, 479), (3, 23, 50, 996)]
theorem pz_mthL_ok0 : ∀ e ∈ pz_mthL_0, (fun e => pz_mthQ e = true) e := by decide +kernel
def pz_mthL_1 : List (Nat × Nat × Nat × Nat) := [(3, 34, 51, 1000), (3, 38, 53, 1003), (3, 42, 54, 1007), (3, 46, 52, 1011), (3, 50, 55, 1015), (4, 46, 68, 922), (4, 50, 67, 335), (4, 68, 72, 889), (4, 72, 35, 883), (4, 78, 58, 884), (4, 88, 37, 837), (4, 91, 6, 838), (4, 96, 61, 839), (4, 101, 59, 879), (4, 104, 60, 890), (5, 9, 17, 107), (5, 23, 28, 315), (5, 26, 65, 319), (5, 27, 34, 348), (5, 31, 66, 360), (6, 21, 41, 239), (6, 49, 74, 311), (6, 52, 47, 323), (6, 55, 112, 374)]
theorem pz_mthL_ok1 : ∀ e ∈ pz_mthL_1, (fun e => pz_mthQ e = true) e := by decide +kernel
def pz_mthL_2 : List (Nat × Nat × Nat × Nat) := [(6, 71, 42, 471), (6, 75, 26, 487), (6, 79, 35, 381), (6, 88, 21, 520), (6, 92, 113, 552), (6, 100, 27, 572), (6, 117, 107, 378), (6, 126, 25, 627), (6, 133, 111, 645), (6, 140, 3, 650), (6, 147, 5, 661), (6, 151, 8, 662), (6, 154, 9, 670), (6, 159, 109, 696), (6, 164, 110, 700), (6, 175, 19, 712), (6, 179, 22, 716), (6, 185, 20, 739), (6, 189, 23, 747), (6, 201, 11, 758), (6, 204, 12, 763), (6, 209, 37, 775), (6, 213, 39, 783), (6, 216, 40, 794)]
theorem pz_mthL_ok2 : ∀ e ∈ pz_mthL_2, (fun e => pz_mthQ e = true) e := by decide +kernel
def pz_mthL_3 : List (Nat × Nat × Nat × Nat) := [(6, 227, 72, 828), (6, 235, 60, 833), (6, 239, 57, 850), (6, 244, 62, 869), (6, 249, 63, 875), (6, 252, 67, 898), (6, 261, 58, 913), (6, 264, 56, 914), (6, 267, 69, 918), (6, 270, 59, 926), (6, 275, 10, 935), (6, 278, 70, 331), (6, 281, 71, 946), (6, 284, 250, 950), (6, 295, 30, 956), (6, 298, 31, 962), (6, 301, 32, 966), (6, 304, 33, 970), (6, 322, 49, 992), (6, 330, 43, 1019), (6, 333, 50, 1020), (6, 337, 114, 1021), (6, 340, 44, 1049), (6, 345, 45, 1054)]
theorem pz_mthL_ok3 : ∀ e ∈ pz_mthL_3, (fun e => pz_mthQ e = true) e := by decide +kernel
def pz_mthL_4 : List (Nat × Nat × Nat × Nat) := [(6, 355, 46, 1071), (6, 358, 75, 344), (6, 373, 115, 1025), (6, 376, 116, 1029), (6, 379, 117, 1033), (6, 382, 118, 1037), (6, 385, 120, 1041), (6, 388, 121, 1045), (7, 39, 170, 1089), (7, 54, 181, 1157), (7, 57, 192, 1180), (7, 63, 127, 1177), (7, 67, 128, 1173), (7, 70, 159, 1166), (7, 74, 129, 1169), (7, 78, 133, 1162), (7, 81, 203, 1192), (7, 84, 147, 1204), (7, 88, 138, 1200), (7, 91, 132, 1224), (7, 94, 141, 1227), (7, 98, 144, 1208), (7, 101, 130, 1212), (7, 104, 150, 1251)]
theorem pz_mthL_ok4 : ∀ e ∈ pz_mthL_4, (fun e => pz_mthQ e = true) e := by decide +kernel
def pz_mthL_5 : List (Nat × Nat × Nat × Nat) := [(7, 107, 152, 1239), (7, 110, 149, 1243), (7, 114, 151, 1247), (7, 122, 131, 1260), (7, 125, 145, 1279), (7, 129, 158, 1275), (7, 132, 155, 1283), (7, 135, 157, 1271), (7, 139, 214, 1287), (7, 142, 160, 1267), (7, 145, 156, 1291), (7, 148, 146, 1307), (7, 152, 163, 1303), (7, 155, 165, 1315), (7, 159, 168, 1331), (7, 162, 175, 1372), (7, 165, 176, 1375), (7, 168, 180, 1360), (7, 171, 179, 1364), (7, 174, 178, 1368), (7, 177, 182, 1356), (7, 181, 183, 1352), (7, 185, 187, 1396), (7, 189, 188, 1391)]
theorem pz_mthL_ok5 : ∀ e ∈ pz_mthL_5, (fun e => pz_mthQ e = true) e := by decide +kernel
def pz_mthL_6 : List (Nat × Nat × Nat × Nat) := [(7, 192, 177, 1416), (7, 195, 193, 1412), (7, 199, 196, 1428), (7, 202, 197, 1432), (7, 217, 201, 1540), (7, 221, 202, 1548), (7, 225, 204, 1536), (7, 238, 205, 1544), (7, 242, 207, 1556), (7, 245, 206, 1449), (7, 248, 208, 1552), (8, 7, 108, 370), (8, 17, 119, 500), (8, 25, 122, 592), (8, 30, 123, 615), (8, 34, 124, 623), (8, 37, 125, 634), (8, 41, 126, 641), (8, 45, 76, 657), (8, 48, 77, 685), (8, 52, 78, 692), (8, 55, 79, 707), (8, 59, 80, 727), (8, 63, 81, 734)]
theorem pz_mthL_ok6 : ∀ e ∈ pz_mthL_6, (fun e => pz_mthQ e = true) e := by decide +kernel
def pz_mthL_7 : List (Nat × Nat × Nat × Nat) := [(8, 66, 82, 754), (8, 69, 83, 771), (8, 72, 84, 779), (8, 75, 85, 790), (8, 78, 87, 801), (8, 81, 88, 808), (8, 84, 89, 816), (8, 88, 90, 824), (8, 91, 91, 846), (8, 94, 92, 858), (8, 97, 93, 865), (8, 100, 94, 894), (8, 103, 95, 902), (8, 106, 96, 909), (8, 109, 98, 931), (8, 112, 99, 942), (8, 115, 101, 979), (8, 119, 102, 988), (8, 122, 103, 1058), (8, 125, 104, 1066), (8, 128, 106, 1078), (8, 131, 86, 93), (8, 134, 137, 1085), (8, 135, 97, 307)]
theorem pz_mthL_ok7 : ∀ e ∈ pz_mthL_7, (fun e => pz_mthQ e = true) e := by decide +kernel
def pz_mthL_8 : List (Nat × Nat × Nat × Nat) := [(8, 138, 215, 1149), (8, 139, 243, 365), (8, 144, 134, 1153), (8, 145, 148, 1145), (8, 148, 244, 495), (8, 151, 166, 1311), (8, 152, 245, 588), (8, 154, 135, 1184), (8, 155, 246, 612), (8, 158, 136, 1188), (8, 159, 247, 620), (8, 161, 139, 1196), (8, 162, 248, 631), (8, 164, 140, 1216), (8, 165, 249, 638), (8, 168, 142, 1220), (8, 169, 216, 654), (8, 171, 153, 1235), (8, 172, 217, 682), (8, 175, 143, 1231), (8, 176, 218, 689), (8, 178, 154, 1256), (8, 179, 219, 704), (8, 182, 161, 1263)]
theorem pz_mthL_ok8 : ∀ e ∈ pz_mthL_8, (fun e => pz_mthQ e = true) e := by decide +kernel
def pz_mthL_9 : List (Nat × Nat × Nat × Nat) := [(8, 183, 220, 724), (8, 186, 162, 1295), (8, 187, 221, 731), (8, 189, 164, 1299), (8, 190, 222, 751), (8, 192, 167, 1319), (8, 193, 223, 768), (8, 195, 168, 1323), (8, 196, 224, 776), (8, 198, 169, 1327), (8, 199, 225, 787), (8, 201, 171, 1332), (8, 202, 226, 798), (8, 204, 172, 1336), (8, 205, 227, 805), (8, 207, 173, 1340), (8, 208, 228, 813), (8, 211, 174, 1344), (8, 212, 229, 821), (8, 214, 184, 1348), (8, 215, 230, 843), (8, 217, 185, 1379), (8, 218, 231, 855), (8, 220, 186, 1383)]
theorem pz_mthL_ok9 : ∀ e ∈ pz_mthL_9, (fun e => pz_mthQ e = true) e := by decide +kernel
def pz_mthL_10 : List (Nat × Nat × Nat × Nat) := [(8, 221, 232, 862), (8, 223, 189, 1387), (8, 224, 233, 891), (8, 226, 190, 1400), (8, 227, 234, 899), (8, 229, 191, 1404), (8, 230, 235, 906), (8, 232, 194, 1408), (8, 233, 236, 928), (8, 235, 195, 1420), (8, 236, 237, 939), (8, 238, 198, 1424), (8, 239, 100, 327), (8, 243, 199, 1436), (8, 244, 238, 976), (8, 247, 200, 1441), (8, 248, 239, 985), (8, 250, 209, 1445), (8, 251, 240, 1055), (8, 253, 210, 1560), (8, 254, 241, 1063), (8, 256, 211, 1564), (8, 257, 105, 340), (8, 260, 212, 1568)]
theorem pz_mthL_ok10 : ∀ e ∈ pz_mthL_10, (fun e => pz_mthQ e = true) e := by decide +kernel
def pz_mthL_11 : List (Nat × Nat × Nat × Nat) := [(8, 261, 242, 1075), (8, 263, 213, 1572)]
theorem pz_mthL_ok11 : ∀ e ∈ pz_mthL_11, (fun e => pz_mthQ e = true) e := by decide +kernel
def pz_mthL : List (Nat × Nat × Nat × Nat) := pz_mthL_0 ++ pz_mthL_1 ++ pz_mthL_2 ++ pz_mthL_3 ++ pz_mthL_4 ++ pz_mthL_5 ++ pz_mthL_6 ++ pz_mthL_7 ++ pz_mthL_8 ++ pz_mthL_9 ++ pz_mthL_10 ++ pz_mthL_11
theorem pz_mthL_ok : ∀ e ∈ pz_mthL, (fun e => pz_mthQ e = true) e := by
  intro e h
  simp only [pz_mthL, List.mem_append, or_assoc] at h
  rcases h with h | h | h | h | h | h | h | h | h | h | h | h
  · exact pz_mthL_ok0 e h
  · exact pz_mthL_ok1 e h
  · exact pz_mthL_ok2 e h
  · exact pz_mthL_ok3 e h
  · exact pz_mthL_ok4 e h
  · exact pz_mthL_ok5 e h
  · exact pz_mthL_ok6 e h
  · exact pz_mthL_ok7 e h
  · exact pz_mthL_ok8 e h
  · exact pz_mthL_ok9 e h
  · exact pz_mthL_ok10 e h
  · exact pz_mthL_ok11 e h
theorem pz_mthL_in (e : Nat × Nat × Nat × Nat) (h : e ∈ pz_mthL) : pz_mthP e := by
  have h1 := pz_mthL_ok e h
  simp only [pz_mthQ] at h1
  unfold pz_mthP
  split at h1
  · next m hm => exact ⟨m, hm, of_decide_eq_true h1⟩
  · cases h1
def pz_mth (own idx : Nat) : Option Nat := (pz_mthL.find? (fun e => e.1 == own && e.2.1 == idx)).map (fun e => e.2.2.1)
theorem pzm_1_38 : pz_mth 1 38 = some 2 := by decide +kernel
theorem pzm_1_51 : pz_mth 1 51 = some 4 := by decide +kernel
theorem pzm_1_58 : pz_mth 1 58 = some 36 := by decide +kernel
theorem pzm_1_62 : pz_mth 1 62 = some 37 := by decide +kernel
theorem pzm_1_69 : pz_mth 1 69 = some 38 := by decide +kernel
theorem pzm_1_72 : pz_mth 1 72 = some 7 := by decide +kernel
theorem pzm_1_76 : pz_mth 1 76 = some 6 := by decide +kernel
theorem pzm_1_94 : pz_mth 1 94 = some 35 := by decide +kernel
theorem pzm_1_103 : pz_mth 1 103 = some 15 := by decide +kernel
theorem pzm_1_107 : pz_mth 1 107 = some 18 := by decide +kernel
theorem pzm_1_111 : pz_mth 1 111 = some 16 := by decide +kernel
theorem pzm_1_114 : pz_mth 1 114 = some 5 := by decide +kernel
theorem pzm_1_118 : pz_mth 1 118 = some 13 := by decide +kernel
theorem pzm_1_122 : pz_mth 1 122 = some 24 := by decide +kernel
theorem pzm_1_125 : pz_mth 1 125 = some 14 := by decide +kernel
theorem pzm_1_129 : pz_mth 1 129 = some 1 := by decide +kernel
theorem pzm_1_133 : pz_mth 1 133 = some 29 := by decide +kernel
theorem pzm_1_136 : pz_mth 1 136 = some 8 := by decide +kernel
theorem pzm_1_139 : pz_mth 1 139 = some 250 := by decide +kernel
theorem pzm_1_144 : pz_mth 1 144 = some 11 := by decide +kernel
theorem pzm_2_18 : pz_mth 2 18 = some 43 := by decide +kernel
theorem pzm_2_22 : pz_mth 2 22 = some 45 := by decide +kernel
theorem pzm_2_29 : pz_mth 2 29 = some 75 := by decide +kernel
theorem pzm_3_23 : pz_mth 3 23 = some 50 := by decide +kernel
theorem pzm_3_34 : pz_mth 3 34 = some 51 := by decide +kernel
theorem pzm_3_38 : pz_mth 3 38 = some 53 := by decide +kernel
theorem pzm_3_42 : pz_mth 3 42 = some 54 := by decide +kernel
theorem pzm_3_46 : pz_mth 3 46 = some 52 := by decide +kernel
theorem pzm_3_50 : pz_mth 3 50 = some 55 := by decide +kernel
theorem pzm_4_46 : pz_mth 4 46 = some 68 := by decide +kernel
theorem pzm_4_50 : pz_mth 4 50 = some 67 := by decide +kernel
theorem pzm_4_68 : pz_mth 4 68 = some 72 := by decide +kernel
theorem pzm_4_72 : pz_mth 4 72 = some 35 := by decide +kernel
theorem pzm_4_78 : pz_mth 4 78 = some 58 := by decide +kernel
theorem pzm_4_88 : pz_mth 4 88 = some 37 := by decide +kernel
theorem pzm_4_91 : pz_mth 4 91 = some 6 := by decide +kernel
theorem pzm_4_96 : pz_mth 4 96 = some 61 := by decide +kernel
theorem pzm_4_101 : pz_mth 4 101 = some 59 := by decide +kernel
theorem pzm_4_104 : pz_mth 4 104 = some 60 := by decide +kernel
theorem pzm_5_9 : pz_mth 5 9 = some 17 := by decide +kernel
theorem pzm_5_23 : pz_mth 5 23 = some 28 := by decide +kernel
theorem pzm_5_26 : pz_mth 5 26 = some 65 := by decide +kernel
theorem pzm_5_27 : pz_mth 5 27 = some 34 := by decide +kernel
theorem pzm_5_31 : pz_mth 5 31 = some 66 := by decide +kernel
theorem pzm_6_21 : pz_mth 6 21 = some 41 := by decide +kernel
theorem pzm_6_49 : pz_mth 6 49 = some 74 := by decide +kernel
theorem pzm_6_52 : pz_mth 6 52 = some 47 := by decide +kernel
theorem pzm_6_55 : pz_mth 6 55 = some 112 := by decide +kernel
theorem pzm_6_71 : pz_mth 6 71 = some 42 := by decide +kernel
theorem pzm_6_75 : pz_mth 6 75 = some 26 := by decide +kernel
theorem pzm_6_79 : pz_mth 6 79 = some 35 := by decide +kernel
theorem pzm_6_88 : pz_mth 6 88 = some 21 := by decide +kernel
theorem pzm_6_92 : pz_mth 6 92 = some 113 := by decide +kernel
theorem pzm_6_100 : pz_mth 6 100 = some 27 := by decide +kernel
theorem pzm_6_117 : pz_mth 6 117 = some 107 := by decide +kernel
theorem pzm_6_126 : pz_mth 6 126 = some 25 := by decide +kernel
theorem pzm_6_133 : pz_mth 6 133 = some 111 := by decide +kernel
theorem pzm_6_140 : pz_mth 6 140 = some 3 := by decide +kernel
theorem pzm_6_147 : pz_mth 6 147 = some 5 := by decide +kernel
theorem pzm_6_151 : pz_mth 6 151 = some 8 := by decide +kernel
theorem pzm_6_154 : pz_mth 6 154 = some 9 := by decide +kernel
theorem pzm_6_159 : pz_mth 6 159 = some 109 := by decide +kernel
theorem pzm_6_164 : pz_mth 6 164 = some 110 := by decide +kernel
theorem pzm_6_175 : pz_mth 6 175 = some 19 := by decide +kernel
theorem pzm_6_179 : pz_mth 6 179 = some 22 := by decide +kernel
theorem pzm_6_185 : pz_mth 6 185 = some 20 := by decide +kernel
theorem pzm_6_189 : pz_mth 6 189 = some 23 := by decide +kernel
theorem pzm_6_201 : pz_mth 6 201 = some 11 := by decide +kernel
theorem pzm_6_204 : pz_mth 6 204 = some 12 := by decide +kernel
theorem pzm_6_209 : pz_mth 6 209 = some 37 := by decide +kernel
theorem pzm_6_213 : pz_mth 6 213 = some 39 := by decide +kernel
theorem pzm_6_216 : pz_mth 6 216 = some 40 := by decide +kernel
theorem pzm_6_227 : pz_mth 6 227 = some 72 := by decide +kernel
theorem pzm_6_235 : pz_mth 6 235 = some 60 := by decide +kernel
theorem pzm_6_239 : pz_mth 6 239 = some 57 := by decide +kernel
theorem pzm_6_244 : pz_mth 6 244 = some 62 := by decide +kernel
theorem pzm_6_249 : pz_mth 6 249 = some 63 := by decide +kernel
theorem pzm_6_252 : pz_mth 6 252 = some 67 := by decide +kernel
theorem pzm_6_261 : pz_mth 6 261 = some 58 := by decide +kernel
theorem pzm_6_264 : pz_mth 6 264 = some 56 := by decide +kernel
theorem pzm_6_267 : pz_mth 6 267 = some 69 := by decide +kernel
theorem pzm_6_270 : pz_mth 6 270 = some 59 := by decide +kernel
theorem pzm_6_275 : pz_mth 6 275 = some 10 := by decide +kernel
theorem pzm_6_278 : pz_mth 6 278 = some 70 := by decide +kernel
theorem pzm_6_281 : pz_mth 6 281 = some 71 := by decide +kernel
theorem pzm_6_284 : pz_mth 6 284 = some 250 := by decide +kernel
theorem pzm_6_295 : pz_mth 6 295 = some 30 := by decide +kernel
theorem pzm_6_298 : pz_mth 6 298 = some 31 := by decide +kernel
theorem pzm_6_301 : pz_mth 6 301 = some 32 := by decide +kernel
theorem pzm_6_304 : pz_mth 6 304 = some 33 := by decide +kernel
theorem pzm_6_322 : pz_mth 6 322 = some 49 := by decide +kernel
theorem pzm_6_330 : pz_mth 6 330 = some 43 := by decide +kernel
theorem pzm_6_333 : pz_mth 6 333 = some 50 := by decide +kernel
theorem pzm_6_337 : pz_mth 6 337 = some 114 := by decide +kernel
theorem pzm_6_340 : pz_mth 6 340 = some 44 := by decide +kernel
theorem pzm_6_345 : pz_mth 6 345 = some 45 := by decide +kernel
theorem pzm_6_355 : pz_mth 6 355 = some 46 := by decide +kernel
theorem pzm_6_358 : pz_mth 6 358 = some 75 := by decide +kernel
theorem pzm_6_373 : pz_mth 6 373 = some 115 := by decide +kernel
theorem pzm_6_376 : pz_mth 6 376 = some 116 := by decide +kernel
theorem pzm_6_379 : pz_mth 6 379 = some 117 := by decide +kernel
theorem pzm_6_382 : pz_mth 6 382 = some 118 := by decide +kernel
theorem pzm_6_385 : pz_mth 6 385 = some 120 := by decide +kernel
theorem pzm_6_388 : pz_mth 6 388 = some 121 := by decide +kernel
theorem pzm_7_39 : pz_mth 7 39 = some 170 := by decide +kernel
theorem pzm_7_54 : pz_mth 7 54 = some 181 := by decide +kernel
theorem pzm_7_57 : pz_mth 7 57 = some 192 := by decide +kernel
theorem pzm_7_63 : pz_mth 7 63 = some 127 := by decide +kernel
theorem pzm_7_67 : pz_mth 7 67 = some 128 := by decide +kernel
theorem pzm_7_70 : pz_mth 7 70 = some 159 := by decide +kernel
theorem pzm_7_74 : pz_mth 7 74 = some 129 := by decide +kernel
theorem pzm_7_78 : pz_mth 7 78 = some 133 := by decide +kernel
theorem pzm_7_81 : pz_mth 7 81 = some 203 := by decide +kernel
theorem pzm_7_84 : pz_mth 7 84 = some 147 := by decide +kernel
theorem pzm_7_88 : pz_mth 7 88 = some 138 := by decide +kernel
theorem pzm_7_91 : pz_mth 7 91 = some 132 := by decide +kernel
theorem pzm_7_94 : pz_mth 7 94 = some 141 := by decide +kernel
theorem pzm_7_98 : pz_mth 7 98 = some 144 := by decide +kernel
theorem pzm_7_101 : pz_mth 7 101 = some 130 := by decide +kernel
theorem pzm_7_104 : pz_mth 7 104 = some 150 := by decide +kernel
theorem pzm_7_107 : pz_mth 7 107 = some 152 := by decide +kernel
theorem pzm_7_110 : pz_mth 7 110 = some 149 := by decide +kernel
theorem pzm_7_114 : pz_mth 7 114 = some 151 := by decide +kernel
theorem pzm_7_122 : pz_mth 7 122 = some 131 := by decide +kernel
theorem pzm_7_125 : pz_mth 7 125 = some 145 := by decide +kernel
theorem pzm_7_129 : pz_mth 7 129 = some 158 := by decide +kernel
theorem pzm_7_132 : pz_mth 7 132 = some 155 := by decide +kernel
theorem pzm_7_135 : pz_mth 7 135 = some 157 := by decide +kernel
theorem pzm_7_139 : pz_mth 7 139 = some 214 := by decide +kernel
theorem pzm_7_142 : pz_mth 7 142 = some 160 := by decide +kernel
theorem pzm_7_145 : pz_mth 7 145 = some 156 := by decide +kernel
theorem pzm_7_148 : pz_mth 7 148 = some 146 := by decide +kernel
theorem pzm_7_152 : pz_mth 7 152 = some 163 := by decide +kernel
theorem pzm_7_155 : pz_mth 7 155 = some 165 := by decide +kernel
theorem pzm_7_159 : pz_mth 7 159 = some 168 := by decide +kernel
theorem pzm_7_162 : pz_mth 7 162 = some 175 := by decide +kernel
theorem pzm_7_165 : pz_mth 7 165 = some 176 := by decide +kernel
theorem pzm_7_168 : pz_mth 7 168 = some 180 := by decide +kernel
theorem pzm_7_171 : pz_mth 7 171 = some 179 := by decide +kernel
theorem pzm_7_174 : pz_mth 7 174 = some 178 := by decide +kernel
theorem pzm_7_177 : pz_mth 7 177 = some 182 := by decide +kernel
theorem pzm_7_181 : pz_mth 7 181 = some 183 := by decide +kernel
theorem pzm_7_185 : pz_mth 7 185 = some 187 := by decide +kernel
theorem pzm_7_189 : pz_mth 7 189 = some 188 := by decide +kernel
theorem pzm_7_192 : pz_mth 7 192 = some 177 := by decide +kernel
theorem pzm_7_195 : pz_mth 7 195 = some 193 := by decide +kernel
theorem pzm_7_199 : pz_mth 7 199 = some 196 := by decide +kernel
theorem pzm_7_202 : pz_mth 7 202 = some 197 := by decide +kernel
theorem pzm_7_217 : pz_mth 7 217 = some 201 := by decide +kernel
theorem pzm_7_221 : pz_mth 7 221 = some 202 := by decide +kernel
theorem pzm_7_225 : pz_mth 7 225 = some 204 := by decide +kernel
theorem pzm_7_238 : pz_mth 7 238 = some 205 := by decide +kernel
theorem pzm_7_242 : pz_mth 7 242 = some 207 := by decide +kernel
theorem pzm_7_245 : pz_mth 7 245 = some 206 := by decide +kernel
theorem pzm_7_248 : pz_mth 7 248 = some 208 := by decide +kernel
theorem pzm_8_7 : pz_mth 8 7 = some 108 := by decide +kernel
theorem pzm_8_17 : pz_mth 8 17 = some 119 := by decide +kernel
theorem pzm_8_25 : pz_mth 8 25 = some 122 := by decide +kernel
theorem pzm_8_30 : pz_mth 8 30 = some 123 := by decide +kernel
theorem pzm_8_34 : pz_mth 8 34 = some 124 := by decide +kernel
theorem pzm_8_37 : pz_mth 8 37 = some 125 := by decide +kernel
theorem pzm_8_41 : pz_mth 8 41 = some 126 := by decide +kernel
theorem pzm_8_45 : pz_mth 8 45 = some 76 := by decide +kernel
theorem pzm_8_48 : pz_mth 8 48 = some 77 := by decide +kernel
theorem pzm_8_52 : pz_mth 8 52 = some 78 := by decide +kernel
theorem pzm_8_55 : pz_mth 8 55 = some 79 := by decide +kernel
theorem pzm_8_59 : pz_mth 8 59 = some 80 := by decide +kernel
theorem pzm_8_63 : pz_mth 8 63 = some 81 := by decide +kernel
theorem pzm_8_66 : pz_mth 8 66 = some 82 := by decide +kernel
theorem pzm_8_69 : pz_mth 8 69 = some 83 := by decide +kernel
theorem pzm_8_72 : pz_mth 8 72 = some 84 := by decide +kernel
theorem pzm_8_75 : pz_mth 8 75 = some 85 := by decide +kernel
theorem pzm_8_78 : pz_mth 8 78 = some 87 := by decide +kernel
theorem pzm_8_81 : pz_mth 8 81 = some 88 := by decide +kernel
theorem pzm_8_84 : pz_mth 8 84 = some 89 := by decide +kernel
theorem pzm_8_88 : pz_mth 8 88 = some 90 := by decide +kernel
theorem pzm_8_91 : pz_mth 8 91 = some 91 := by decide +kernel
theorem pzm_8_94 : pz_mth 8 94 = some 92 := by decide +kernel
theorem pzm_8_97 : pz_mth 8 97 = some 93 := by decide +kernel
theorem pzm_8_100 : pz_mth 8 100 = some 94 := by decide +kernel
theorem pzm_8_103 : pz_mth 8 103 = some 95 := by decide +kernel
theorem pzm_8_106 : pz_mth 8 106 = some 96 := by decide +kernel
theorem pzm_8_109 : pz_mth 8 109 = some 98 := by decide +kernel
theorem pzm_8_112 : pz_mth 8 112 = some 99 := by decide +kernel
theorem pzm_8_115 : pz_mth 8 115 = some 101 := by decide +kernel
theorem pzm_8_119 : pz_mth 8 119 = some 102 := by decide +kernel
theorem pzm_8_122 : pz_mth 8 122 = some 103 := by decide +kernel
theorem pzm_8_125 : pz_mth 8 125 = some 104 := by decide +kernel
theorem pzm_8_128 : pz_mth 8 128 = some 106 := by decide +kernel
theorem pzm_8_131 : pz_mth 8 131 = some 86 := by decide +kernel
theorem pzm_8_134 : pz_mth 8 134 = some 137 := by decide +kernel
theorem pzm_8_135 : pz_mth 8 135 = some 97 := by decide +kernel
theorem pzm_8_138 : pz_mth 8 138 = some 215 := by decide +kernel
theorem pzm_8_139 : pz_mth 8 139 = some 243 := by decide +kernel
theorem pzm_8_144 : pz_mth 8 144 = some 134 := by decide +kernel
theorem pzm_8_145 : pz_mth 8 145 = some 148 := by decide +kernel
theorem pzm_8_148 : pz_mth 8 148 = some 244 := by decide +kernel
theorem pzm_8_151 : pz_mth 8 151 = some 166 := by decide +kernel
theorem pzm_8_152 : pz_mth 8 152 = some 245 := by decide +kernel
theorem pzm_8_154 : pz_mth 8 154 = some 135 := by decide +kernel
theorem pzm_8_155 : pz_mth 8 155 = some 246 := by decide +kernel
theorem pzm_8_158 : pz_mth 8 158 = some 136 := by decide +kernel
theorem pzm_8_159 : pz_mth 8 159 = some 247 := by decide +kernel
theorem pzm_8_161 : pz_mth 8 161 = some 139 := by decide +kernel
theorem pzm_8_162 : pz_mth 8 162 = some 248 := by decide +kernel
theorem pzm_8_164 : pz_mth 8 164 = some 140 := by decide +kernel
theorem pzm_8_165 : pz_mth 8 165 = some 249 := by decide +kernel
theorem pzm_8_168 : pz_mth 8 168 = some 142 := by decide +kernel
theorem pzm_8_169 : pz_mth 8 169 = some 216 := by decide +kernel
theorem pzm_8_171 : pz_mth 8 171 = some 153 := by decide +kernel
theorem pzm_8_172 : pz_mth 8 172 = some 217 := by decide +kernel
theorem pzm_8_175 : pz_mth 8 175 = some 143 := by decide +kernel
theorem pzm_8_176 : pz_mth 8 176 = some 218 := by decide +kernel
theorem pzm_8_178 : pz_mth 8 178 = some 154 := by decide +kernel
theorem pzm_8_179 : pz_mth 8 179 = some 219 := by decide +kernel
theorem pzm_8_182 : pz_mth 8 182 = some 161 := by decide +kernel
theorem pzm_8_183 : pz_mth 8 183 = some 220 := by decide +kernel
theorem pzm_8_186 : pz_mth 8 186 = some 162 := by decide +kernel
theorem pzm_8_187 : pz_mth 8 187 = some 221 := by decide +kernel
theorem pzm_8_189 : pz_mth 8 189 = some 164 := by decide +kernel
theorem pzm_8_190 : pz_mth 8 190 = some 222 := by decide +kernel
theorem pzm_8_192 : pz_mth 8 192 = some 167 := by decide +kernel
theorem pzm_8_193 : pz_mth 8 193 = some 223 := by decide +kernel
theorem pzm_8_195 : pz_mth 8 195 = some 168 := by decide +kernel
theorem pzm_8_196 : pz_mth 8 196 = some 224 := by decide +kernel
theorem pzm_8_198 : pz_mth 8 198 = some 169 := by decide +kernel
theorem pzm_8_199 : pz_mth 8 199 = some 225 := by decide +kernel
theorem pzm_8_201 : pz_mth 8 201 = some 171 := by decide +kernel
theorem pzm_8_202 : pz_mth 8 202 = some 226 := by decide +kernel
theorem pzm_8_204 : pz_mth 8 204 = some 172 := by decide +kernel
theorem pzm_8_205 : pz_mth 8 205 = some 227 := by decide +kernel
theorem pzm_8_207 : pz_mth 8 207 = some 173 := by decide +kernel
theorem pzm_8_208 : pz_mth 8 208 = some 228 := by decide +kernel
theorem pzm_8_211 : pz_mth 8 211 = some 174 := by decide +kernel
theorem pzm_8_212 : pz_mth 8 212 = some 229 := by decide +kernel
theorem pzm_8_214 : pz_mth 8 214 = some 184 := by decide +kernel
theorem pzm_8_215 : pz_mth 8 215 = some 230 := by decide +kernel
theorem pzm_8_217 : pz_mth 8 217 = some 185 := by decide +kernel
theorem pzm_8_218 : pz_mth 8 218 = some 231 := by decide +kernel
theorem pzm_8_220 : pz_mth 8 220 = some 186 := by decide +kernel
theorem pzm_8_221 : pz_mth 8 221 = some 232 := by decide +kernel
theorem pzm_8_223 : pz_mth 8 223 = some 189 := by decide +kernel
theorem pzm_8_224 : pz_mth 8 224 = some 233 := by decide +kernel
theorem pzm_8_226 : pz_mth 8 226 = some 190 := by decide +kernel
theorem pzm_8_227 : pz_mth 8 227 = some 234 := by decide +kernel
theorem pzm_8_229 : pz_mth 8 229 = some 191 := by decide +kernel
theorem pzm_8_230 : pz_mth 8 230 = some 235 := by decide +kernel
theorem pzm_8_232 : pz_mth 8 232 = some 194 := by decide +kernel
theorem pzm_8_233 : pz_mth 8 233 = some 236 := by decide +kernel
theorem pzm_8_235 : pz_mth 8 235 = some 195 := by decide +kernel
theorem pzm_8_236 : pz_mth 8 236 = some 237 := by decide +kernel
theorem pzm_8_238 : pz_mth 8 238 = some 198 := by decide +kernel
theorem pzm_8_239 : pz_mth 8 239 = some 100 := by decide +kernel
theorem pzm_8_243 : pz_mth 8 243 = some 199 := by decide +kernel
theorem pzm_8_244 : pz_mth 8 244 = some 238 := by decide +kernel
theorem pzm_8_247 : pz_mth 8 247 = some 200 := by decide +kernel
theorem pzm_8_248 : pz_mth 8 248 = some 239 := by decide +kernel
theorem pzm_8_250 : pz_mth 8 250 = some 209 := by decide +kernel
theorem pzm_8_251 : pz_mth 8 251 = some 240 := by decide +kernel
theorem pzm_8_253 : pz_mth 8 253 = some 210 := by decide +kernel
theorem pzm_8_254 : pz_mth 8 254 = some 241 := by decide +kernel
theorem pzm_8_256 : pz_mth 8 256 = some 211 := by decide +kernel
theorem pzm_8_257 : pz_mth 8 257 = some 105 := by decide +kernel
theorem pzm_8_260 : pz_mth 8 260 = some 212 := by decide +kernel
theorem pzm_8_261 : pz_mth 8 261 = some 242 := by decide +kernel
theorem pzm_8_263 : pz_mth 8 263 = some 213 := by decide +kernel
def pz_nestL_0 : List (Nat × Nat × Nat × Nat) := [(1, 30, 0, 114), (2, 17, 73, 245), (5, 18, 64, 192), (6, 9, 73, 101), (6, 28, 48, 259)]
theorem pz_nestL_ok0 : ∀ e ∈ pz_nestL_0, (fun e => pz_nestQ e = true) e := by decide +kernel
def pz_nestL : List (Nat × Nat × Nat × Nat) := pz_nestL_0
theorem pz_nestL_ok : ∀ e ∈ pz_nestL, (fun e => pz_nestQ e = true) e := by
  intro e h
  simp only [pz_nestL, List.mem_append, or_assoc] at h
  rcases h with h
  exact pz_nestL_ok0 e h
def pz_nest (own idx : Nat) : Option Nat := (pz_nestL.find? (fun e => e.1 == own && e.2.1 == idx)).map (fun e => e.2.2.1)
theorem pzn_1_30 : pz_nest 1 30 = some 0 := by decide +kernel
theorem pzn_2_17 : pz_nest 2 17 = some 73 := by decide +kernel
theorem pzn_5_18 : pz_nest 5 18 = some 64 := by decide +kernel
theorem pzn_6_9 : pz_nest 6 9 = some 73 := by decide +kernel
theorem pzn_6_28 : pz_nest 6 28 = some 48 := by decide +kernel
def pz_objP (e : Nat × Nat × Nat) : Prop := lw_tbl[e.2.2]? = some (.methodLink (pz_R e.1) e.2.1 objectInit)
def pz_objL_0 : List (Nat × Nat × Nat) := [(0, 3, 117), (1, 3, 110), (2, 3, 242), (3, 3, 262), (4, 3, 195), (5, 1, 104), (6, 1, 96), (7, 3, 1088)]
theorem pz_objL_ok0 : ∀ e ∈ pz_objL_0, pz_objP e := by unfold pz_objP; decide +kernel
def pz_objL : List (Nat × Nat × Nat) := pz_objL_0
theorem pz_objL_ok : ∀ e ∈ pz_objL, pz_objP e := by
  intro e h
  simp only [pz_objL, List.mem_append, or_assoc] at h
  rcases h with h
  exact pz_objL_ok0 e h
def pz_obj (own idx : Nat) : Bool := (pz_objL.find? (fun e => e.1 == own && e.2.1 == idx)).isSome
theorem pzo_0_3 : pz_obj 0 3 = true := by decide +kernel
theorem pzo_1_3 : pz_obj 1 3 = true := by decide +kernel
theorem pzo_2_3 : pz_obj 2 3 = true := by decide +kernel
theorem pzo_3_3 : pz_obj 3 3 = true := by decide +kernel
theorem pzo_4_3 : pz_obj 4 3 = true := by decide +kernel
theorem pzo_5_1 : pz_obj 5 1 = true := by decide +kernel
theorem pzo_6_1 : pz_obj 6 1 = true := by decide +kernel
theorem pzo_7_3 : pz_obj 7 3 = true := by decide +kernel
def pz_natN : Nat → MethodName := fun n => match n with
  | 0 => Lib.Math.max.name
  | 1 => Lib.Math.min.name
  | _ => arraycopyName
def pz_natP (e : Nat × Nat × Nat × Nat) : Prop := lw_tbl[e.2.2.2]? = some (.methodLink (pz_R e.1) e.2.1 (pz_natN e.2.2.1))
def pz_natL_0 : List (Nat × Nat × Nat × Nat) := [(0, 38, 2, 356), (1, 42, 2, 359), (1, 86, 0, 678), (2, 35, 1, 484), (4, 40, 2, 364), (4, 82, 0, 888), (7, 48, 2, 1161), (7, 117, 0, 1255)]
theorem pz_natL_ok0 : ∀ e ∈ pz_natL_0, pz_natP e := by unfold pz_natP; decide +kernel
def pz_natL : List (Nat × Nat × Nat × Nat) := pz_natL_0
theorem pz_natL_ok : ∀ e ∈ pz_natL, pz_natP e := by
  intro e h
  simp only [pz_natL, List.mem_append, or_assoc] at h
  rcases h with h
  exact pz_natL_ok0 e h
def pz_nat (own idx : Nat) : Option Nat := (pz_natL.find? (fun e => e.1 == own && e.2.1 == idx)).map (fun e => e.2.2.1)
theorem pzx_0_38 : pz_nat 0 38 = some 2 := by decide +kernel
theorem pzx_1_42 : pz_nat 1 42 = some 2 := by decide +kernel
theorem pzx_1_86 : pz_nat 1 86 = some 0 := by decide +kernel
theorem pzx_2_35 : pz_nat 2 35 = some 1 := by decide +kernel
theorem pzx_4_40 : pz_nat 4 40 = some 2 := by decide +kernel
theorem pzx_4_82 : pz_nat 4 82 = some 0 := by decide +kernel
theorem pzx_7_48 : pz_nat 7 48 = some 2 := by decide +kernel
theorem pzx_7_117 : pz_nat 7 117 = some 0 := by decide +kernel
theorem pz_natW : lw_tbl[358]? = some (.native arraycopyName) ∧ lw_tbl[357]? = some (.static arraycopyName) ∧ lw_tbl[80]? = some (.initialized "java/lang/System") := by decide +kernel
theorem pz_maxW : lw_tbl[679]? = some (.static Lib.Math.max.name) ∧ lw_tbl[81]? = some (.initialized "java/lang/Math") ∧ lw_tbl[680]? = some (.code Lib.Math.max.name Lib.Math.max.code 2 (some .int)) := by decide +kernel
theorem pz_minW : lw_tbl[485]? = some (.static Lib.Math.min.name) ∧ lw_tbl[81]? = some (.initialized "java/lang/Math") ∧ lw_tbl[486]? = some (.code Lib.Math.min.name Lib.Math.min.code 2 (some .int)) := by decide +kernel
theorem pz_objW : lw_tbl[97]? = some (.instanceMethod objectInit) ∧ lw_tbl[98]? = some (.code objectInit ⟨#[0xb1]⟩ 1 none) := by decide +kernel
def pz_clsP (e : Nat × Nat × Nat × Nat) : Prop := e.2.2.1 < 8 ∧ lw_tbl[e.2.2.2]? = some (.classLink (pz_R e.1) e.2.1 (pz_R e.2.2.1))
def pz_clsL_0 : List (Nat × Nat × Nat × Nat) := [(1, 9, 0, 111), (2, 11, 5, 243), (5, 7, 1, 105), (5, 16, 4, 190), (6, 7, 5, 99), (6, 19, 2, 237), (6, 26, 3, 257), (8, 8, 6, 91), (8, 132, 7, 1083)]
theorem pz_clsL_ok0 : ∀ e ∈ pz_clsL_0, pz_clsP e := by unfold pz_clsP; decide +kernel
def pz_clsL : List (Nat × Nat × Nat × Nat) := pz_clsL_0
theorem pz_clsL_ok : ∀ e ∈ pz_clsL, pz_clsP e := by
  intro e h
  simp only [pz_clsL, List.mem_append, or_assoc] at h
  rcases h with h
  exact pz_clsL_ok0 e h
def pz_cls (own idx : Nat) : Option Nat := (pz_clsL.find? (fun e => e.1 == own && e.2.1 == idx)).map (fun e => e.2.2.1)
theorem pzc_1_9 : pz_cls 1 9 = some 0 := by decide +kernel
theorem pzc_2_11 : pz_cls 2 11 = some 5 := by decide +kernel
theorem pzc_5_7 : pz_cls 5 7 = some 1 := by decide +kernel
theorem pzc_5_16 : pz_cls 5 16 = some 4 := by decide +kernel
theorem pzc_6_7 : pz_cls 6 7 = some 5 := by decide +kernel
theorem pzc_6_19 : pz_cls 6 19 = some 2 := by decide +kernel
theorem pzc_6_26 : pz_cls 6 26 = some 3 := by decide +kernel
theorem pzc_8_8 : pz_cls 8 8 = some 6 := by decide +kernel
theorem pzc_8_132 : pz_cls 8 132 = some 7 := by decide +kernel
def pz_instPl : Nat → Nat × Nat := fun n => match n with
  | 0 => (113, 70)
  | 1 => (106, 69)
  | 2 => (238, 72)
  | 3 => (258, 73)
  | 4 => (191, 71)
  | 5 => (100, 68)
  | 6 => (92, 67)
  | _ => (1084, 74)
theorem pz_inst (ci : Nat) (h : ci < 8) : lw_tbl[(pz_instPl ci).1]? = some (.instantiable (pz_R ci) (pz_N ci)) ∧ lw_tbl[(pz_instPl ci).2]? = some (.initialized (pz_R ci)) := by
  rcases (show ci = 0 ∨ ci = 1 ∨ ci = 2 ∨ ci = 3 ∨ ci = 4 ∨ ci = 5 ∨ ci = 6 ∨ ci = 7 by omega) with rfl | rfl | rfl | rfl | rfl | rfl | rfl | rfl <;> decide +kernel
theorem pz_arrW : lw_tbl[159]? = some (.arrayClass .int) ∧ lw_tbl[284]? = some (.arrayClass .char) ∧ lw_tbl[1576]? = some (.arrayClass .long) := by decide +kernel
def pz_excL : List (Nat × Nat × String × Nat × Nat) := [(6, 59, "java/lang/IllegalArgumentException", 63, 385), (6, 66, "java/lang/IllegalStateException", 70, 455), (6, 83, "java/lang/IndexOutOfBoundsException", 87, 504), (6, 95, "java/lang/UnsupportedOperationException", 99, 556), (6, 103, "java/util/NoSuchElementException", 107, 596)]
def pz_exc (own idx : Nat) : Option (String × Nat) := (pz_excL.find? (fun e => e.1 == own && e.2.1 == idx)).map (fun e => (e.2.2.1, e.2.2.2.1))
theorem pze_6_59 : pz_exc 6 59 = some ("java/lang/IllegalArgumentException", 63) := by decide +kernel
theorem pze_6_66 : pz_exc 6 66 = some ("java/lang/IllegalStateException", 70) := by decide +kernel
theorem pze_6_83 : pz_exc 6 83 = some ("java/lang/IndexOutOfBoundsException", 87) := by decide +kernel
theorem pze_6_95 : pz_exc 6 95 = some ("java/lang/UnsupportedOperationException", 99) := by decide +kernel
theorem pze_6_103 : pz_exc 6 103 = some ("java/util/NoSuchElementException", 107) := by decide +kernel
def pz_cstP (e : Nat × Nat × Int32 × Nat) : Prop := lw_tbl[e.2.2.2]? = some (.constant (pz_R e.1) e.2.1 e.2.2.1)
def pz_cstL_0 : List (Nat × Nat × Int32 × Nat) := [(4, 100, 100000, 873), (7, 184, 100000, 1395), (9, 265, 1431655765, 953), (9, 266, 858993459, 954), (9, 267, 252645135, 955)]
theorem pz_cstL_ok0 : ∀ e ∈ pz_cstL_0, pz_cstP e := by unfold pz_cstP; decide +kernel
def pz_cstL : List (Nat × Nat × Int32 × Nat) := pz_cstL_0
theorem pz_cstL_ok : ∀ e ∈ pz_cstL, pz_cstP e := by
  intro e h
  simp only [pz_cstL, List.mem_append, or_assoc] at h
  rcases h with h
  exact pz_cstL_ok0 e h
def pz_cst (own idx : Nat) : Option Int32 := (pz_cstL.find? (fun e => e.1 == own && e.2.1 == idx)).map (fun e => e.2.2.1)
theorem pzk_4_100 : pz_cst 4 100 = some 100000 := by decide +kernel
theorem pzk_7_184 : pz_cst 7 184 = some 100000 := by decide +kernel
theorem pzk_9_265 : pz_cst 9 265 = some 1431655765 := by decide +kernel
theorem pzk_9_266 : pz_cst 9 266 = some 858993459 := by decide +kernel
theorem pzk_9_267 : pz_cst 9 267 = some 252645135 := by decide +kernel
def pz_dblP (e : Nat × Nat × UInt64 × Nat) : Prop := lw_tbl[e.2.2.2]? = some (.constantDouble (pz_R e.1) e.2.1 e.2.2.1)
def pz_dblL_0 : List (Nat × Nat × UInt64 × Nat) := [(6, 309, 4622945017495814144, 339), (7, 205, 4622945017495814144, 1440)]
theorem pz_dblL_ok0 : ∀ e ∈ pz_dblL_0, pz_dblP e := by unfold pz_dblP; decide +kernel
def pz_dblL : List (Nat × Nat × UInt64 × Nat) := pz_dblL_0
theorem pz_dblL_ok : ∀ e ∈ pz_dblL, pz_dblP e := by
  intro e h
  simp only [pz_dblL, List.mem_append, or_assoc] at h
  rcases h with h
  exact pz_dblL_ok0 e h
def pz_dbl (own idx : Nat) : Option UInt64 := (pz_dblL.find? (fun e => e.1 == own && e.2.1 == idx)).map (fun e => e.2.2.1)
theorem pzd_6_309 : pz_dbl 6 309 = some 4622945017495814144 := by decide +kernel
theorem pzd_7_205 : pz_dbl 7 205 = some 4622945017495814144 := by decide +kernel
def pz_strL : List (Nat × String) := [(61, "the number is out of range or used"), (68, "there are 12 cues"), (85, "no such cue"), (97, "refused"), (105, "no such index"), (121, "not a follow time"), (136, "no such cue or part"), (138, "the tenths are out of range"), (157, "what is not 0 to 6"), (162, "no such channel"), (167, "the level is out of range"), (173, "no such cue, channel or part"), (183, "no such cue or channel"), (207, "what is not 0 to 3"), (219, "one of the cues does not exist"), (221, "no reason was kept"), (233, "there is no next cue"), (242, "there is no cue with a lower number"), (247, "more than 100000 tenths would have passed"), (273, "what is not 0 to 4"), (307, "account is not 0 to 10"), (311, "the character code is out of range"), (316, "the input has 60 characters"), (328, "the input is not a text"), (343, "an entry cannot be done"), (348, "no error position was kept"), (353, "no change is remembered"), (364, "nothing was saved")]
def pz_str (idx : Nat) : Option String := (pz_strL.find? (fun e => e.1 == idx)).map (fun e => e.2)
theorem pzs_61 : pz_str 61 = some "the number is out of range or used" := by decide +kernel
theorem pzs_68 : pz_str 68 = some "there are 12 cues" := by decide +kernel
theorem pzs_85 : pz_str 85 = some "no such cue" := by decide +kernel
theorem pzs_97 : pz_str 97 = some "refused" := by decide +kernel
theorem pzs_105 : pz_str 105 = some "no such index" := by decide +kernel
theorem pzs_121 : pz_str 121 = some "not a follow time" := by decide +kernel
theorem pzs_136 : pz_str 136 = some "no such cue or part" := by decide +kernel
theorem pzs_138 : pz_str 138 = some "the tenths are out of range" := by decide +kernel
theorem pzs_157 : pz_str 157 = some "what is not 0 to 6" := by decide +kernel
theorem pzs_162 : pz_str 162 = some "no such channel" := by decide +kernel
theorem pzs_167 : pz_str 167 = some "the level is out of range" := by decide +kernel
theorem pzs_173 : pz_str 173 = some "no such cue, channel or part" := by decide +kernel
theorem pzs_183 : pz_str 183 = some "no such cue or channel" := by decide +kernel
theorem pzs_207 : pz_str 207 = some "what is not 0 to 3" := by decide +kernel
theorem pzs_219 : pz_str 219 = some "one of the cues does not exist" := by decide +kernel
theorem pzs_221 : pz_str 221 = some "no reason was kept" := by decide +kernel
theorem pzs_233 : pz_str 233 = some "there is no next cue" := by decide +kernel
theorem pzs_242 : pz_str 242 = some "there is no cue with a lower number" := by decide +kernel
theorem pzs_247 : pz_str 247 = some "more than 100000 tenths would have passed" := by decide +kernel
theorem pzs_273 : pz_str 273 = some "what is not 0 to 4" := by decide +kernel
theorem pzs_307 : pz_str 307 = some "account is not 0 to 10" := by decide +kernel
theorem pzs_311 : pz_str 311 = some "the character code is out of range" := by decide +kernel
theorem pzs_316 : pz_str 316 = some "the input has 60 characters" := by decide +kernel
theorem pzs_328 : pz_str 328 = some "the input is not a text" := by decide +kernel
theorem pzs_343 : pz_str 343 = some "an entry cannot be done" := by decide +kernel
theorem pzs_348 : pz_str 348 = some "no error position was kept" := by decide +kernel
theorem pzs_353 : pz_str 353 = some "no change is remembered" := by decide +kernel
theorem pzs_364 : pz_str 364 = some "nothing was saved" := by decide +kernel
def pz_key : Nat × Nat := (231, 233)
end
section
/-! the pure machine: what the instructions do to a frame and to a heap that is a function; a walk is a proof that every set of points that is closed under the rules holds the point -/
abbrev pz_E : Type := (Nat × vp_A) ⊕ (Nat × List Value)
abbrev pz_H : Type := Nat → Option pz_E
abbrev pz_O : Type := (Option Value) ⊕ String
abbrev pz_Q : Type := pz_O → pz_H → Prop
abbrev pz_C : Type := Nat → List Value → pz_H → Nat → Nat → pz_Q → Prop
abbrev pz_P : Type := Nat → List (Option Value) → List Value → pz_H → Nat → Nat → Prop
/-- the script's cell, its length, its ints; the cell of the text of kinds -/
abbrev pz_Env : Type := Nat × Nat × (Nat → Int32) × Nat
def pz_ok (ls : List (Option Value)) (i : Nat) : Bool := match i with
  | 0 => true
  | j + 1 => match ls[j]? with
    | some (some v) => v.category == 1
    | _ => true
def pz_ix (x : Int32) : Int32 := if x = 99 then 0 else if x = 120 then 1 else if x = 115 then 2 else if x = 114 then 3 else if x = 103 then 4 else if x = 106 then 5 else if x = 116 then 6 else -1
def pz_catL : List (Nat × String × Nat) := [(13, "java/lang/IllegalArgumentException", 368), (15, "java/lang/IllegalStateException", 369), (21, "java/lang/IndexOutOfBoundsException", 498), (23, "java/lang/UnsupportedOperationException", 499), (28, "java/util/NoSuchElementException", 591)]
theorem pz_catL_ok : ∀ e ∈ pz_catL, lw_tbl[e.2.2]? = some (.classLink RL e.1 e.2.1) ∧ e.1 ≠ 0 := by decide +kernel
def pz_cat (own c : Nat) : Option String := if own = 8 then (pz_catL.find? (fun e => e.1 == c)).map (fun e => e.2.1) else none
def pz_hnd (own : Nat) (hh : List (Nat × Nat × Nat × Nat)) (pc : Nat) (E : String) : Option Nat := match hh with
  | [] => none
  | q :: r => if q.1 ≤ pc ∧ pc < q.2.1 then (match pz_cat own q.2.2.2 with
      | some nm => if nm = E then some q.2.2.1 else pz_hnd own r pc E
      | none => none) else pz_hnd own r pc E
def pz_r_iconst (d : Nat) (en : pz_Env) (C : pz_C) (own : Nat) (cc : ByteArray) (nL : Nat) (rt : Option FieldType) (hh : List (Nat × Nat × Nat × Nat)) (ini : Bool) (Q : pz_Q) (P : pz_P) : Prop := ∀ (pc : Nat) (ls : List (Option Value)) (st : List Value) (h : pz_H) (nc ns : Nat) (n : Int) (v : Int32), (decode cc pc = .ok (.iconst n, 1)) → (Int32.ofInt n = v) → (P (pc + 1) ls (.int v :: st) h nc ns) → P pc ls st h nc ns
def pz_r_bipush (d : Nat) (en : pz_Env) (C : pz_C) (own : Nat) (cc : ByteArray) (nL : Nat) (rt : Option FieldType) (hh : List (Nat × Nat × Nat × Nat)) (ini : Bool) (Q : pz_Q) (P : pz_P) : Prop := ∀ (pc : Nat) (ls : List (Option Value)) (st : List Value) (h : pz_H) (nc ns : Nat) (n : Int) (v : Int32), (decode cc pc = .ok (.bipush n, 2)) → ((Int8.ofInt n).toInt32 = v) → (P (pc + 2) ls (.int v :: st) h nc ns) → P pc ls st h nc ns
def pz_r_sipush (d : Nat) (en : pz_Env) (C : pz_C) (own : Nat) (cc : ByteArray) (nL : Nat) (rt : Option FieldType) (hh : List (Nat × Nat × Nat × Nat)) (ini : Bool) (Q : pz_Q) (P : pz_P) : Prop := ∀ (pc : Nat) (ls : List (Option Value)) (st : List Value) (h : pz_H) (nc ns : Nat) (n : Int) (v : Int32), (decode cc pc = .ok (.sipush n, 3)) → ((Int16.ofInt n).toInt32 = v) → (P (pc + 3) ls (.int v :: st) h nc ns) → P pc ls st h nc ns
def pz_r_lconst (d : Nat) (en : pz_Env) (C : pz_C) (own : Nat) (cc : ByteArray) (nL : Nat) (rt : Option FieldType) (hh : List (Nat × Nat × Nat × Nat)) (ini : Bool) (Q : pz_Q) (P : pz_P) : Prop := ∀ (pc : Nat) (ls : List (Option Value)) (st : List Value) (h : pz_H) (nc ns : Nat) (n : Fin 2) (v : Int64), (decode cc pc = .ok (.lconst n, 1)) → (Int64.ofNat (n : Nat) = v) → (P (pc + 1) ls (.long v :: st) h nc ns) → P pc ls st h nc ns
def pz_r_ldc (d : Nat) (en : pz_Env) (C : pz_C) (own : Nat) (cc : ByteArray) (nL : Nat) (rt : Option FieldType) (hh : List (Nat × Nat × Nat × Nat)) (ini : Bool) (Q : pz_Q) (P : pz_P) : Prop := ∀ (pc : Nat) (ls : List (Option Value)) (st : List Value) (h : pz_H) (nc ns : Nat) (i : Nat) (v : Int32), (decode cc pc = .ok (.ldc i, 2)) → (pz_cst own i = some v) → (P (pc + 2) ls (.int v :: st) h nc ns) → P pc ls st h nc ns
def pz_r_ldcw (d : Nat) (en : pz_Env) (C : pz_C) (own : Nat) (cc : ByteArray) (nL : Nat) (rt : Option FieldType) (hh : List (Nat × Nat × Nat × Nat)) (ini : Bool) (Q : pz_Q) (P : pz_P) : Prop := ∀ (pc : Nat) (ls : List (Option Value)) (st : List Value) (h : pz_H) (nc ns : Nat) (i : Nat) (v : Int32), (decode cc pc = .ok (.ldc_w i, 3)) → (pz_cst own i = some v) → (P (pc + 3) ls (.int v :: st) h nc ns) → P pc ls st h nc ns
def pz_r_ldc2 (d : Nat) (en : pz_Env) (C : pz_C) (own : Nat) (cc : ByteArray) (nL : Nat) (rt : Option FieldType) (hh : List (Nat × Nat × Nat × Nat)) (ini : Bool) (Q : pz_Q) (P : pz_P) : Prop := ∀ (pc : Nat) (ls : List (Option Value)) (st : List Value) (h : pz_H) (nc ns : Nat) (i : Nat) (v : UInt64), (decode cc pc = .ok (.ldc2_w i, 3)) → (pz_dbl own i = some v) → (P (pc + 3) ls (.double v :: st) h nc ns) → P pc ls st h nc ns
def pz_r_ldcs (d : Nat) (en : pz_Env) (C : pz_C) (own : Nat) (cc : ByteArray) (nL : Nat) (rt : Option FieldType) (hh : List (Nat × Nat × Nat × Nat)) (ini : Bool) (Q : pz_Q) (P : pz_P) : Prop := ∀ (pc : Nat) (ls : List (Option Value)) (st : List Value) (h : pz_H) (nc ns : Nat), (decode cc pc = .ok (.ldc pz_key.1, 2)) → (own = 7) → (P (pc + 2) ls (.ref en.2.2.2 :: st) h nc ns) → P pc ls st h nc ns
def pz_r_iload_n (d : Nat) (en : pz_Env) (C : pz_C) (own : Nat) (cc : ByteArray) (nL : Nat) (rt : Option FieldType) (hh : List (Nat × Nat × Nat × Nat)) (ini : Bool) (Q : pz_Q) (P : pz_P) : Prop := ∀ (pc : Nat) (ls : List (Option Value)) (st : List Value) (h : pz_H) (nc ns : Nat) (n : Fin 4) (x : Int32), (decode cc pc = .ok (.iload_n n, 1)) → (ls[(n : Nat)]? = some (some (.int x))) → (P (pc + 1) ls (.int x :: st) h nc ns) → P pc ls st h nc ns
def pz_r_iload (d : Nat) (en : pz_Env) (C : pz_C) (own : Nat) (cc : ByteArray) (nL : Nat) (rt : Option FieldType) (hh : List (Nat × Nat × Nat × Nat)) (ini : Bool) (Q : pz_Q) (P : pz_P) : Prop := ∀ (pc : Nat) (ls : List (Option Value)) (st : List Value) (h : pz_H) (nc ns : Nat) (i : Nat) (x : Int32), (decode cc pc = .ok (.iload i, 2)) → (ls[i]? = some (some (.int x))) → (P (pc + 2) ls (.int x :: st) h nc ns) → P pc ls st h nc ns
def pz_r_istore_n (d : Nat) (en : pz_Env) (C : pz_C) (own : Nat) (cc : ByteArray) (nL : Nat) (rt : Option FieldType) (hh : List (Nat × Nat × Nat × Nat)) (ini : Bool) (Q : pz_Q) (P : pz_P) : Prop := ∀ (pc : Nat) (ls : List (Option Value)) (st : List Value) (h : pz_H) (nc ns : Nat) (n : Fin 4) (x : Int32), (decode cc pc = .ok (.istore_n n, 1)) → ((n : Nat) < nL) → (pz_ok ls (n : Nat) = true) → (P (pc + 1) (ls.set (n : Nat) (some (.int x))) st h nc ns) → P pc ls (.int x :: st) h nc ns
def pz_r_istore (d : Nat) (en : pz_Env) (C : pz_C) (own : Nat) (cc : ByteArray) (nL : Nat) (rt : Option FieldType) (hh : List (Nat × Nat × Nat × Nat)) (ini : Bool) (Q : pz_Q) (P : pz_P) : Prop := ∀ (pc : Nat) (ls : List (Option Value)) (st : List Value) (h : pz_H) (nc ns : Nat) (i : Nat) (x : Int32), (decode cc pc = .ok (.istore i, 2)) → (i < nL) → (pz_ok ls i = true) → (P (pc + 2) (ls.set i (some (.int x))) st h nc ns) → P pc ls (.int x :: st) h nc ns
def pz_r_aload_n (d : Nat) (en : pz_Env) (C : pz_C) (own : Nat) (cc : ByteArray) (nL : Nat) (rt : Option FieldType) (hh : List (Nat × Nat × Nat × Nat)) (ini : Bool) (Q : pz_Q) (P : pz_P) : Prop := ∀ (pc : Nat) (ls : List (Option Value)) (st : List Value) (h : pz_H) (nc ns : Nat) (n : Fin 4) (x : Nat), (decode cc pc = .ok (.aload_n n, 1)) → (ls[(n : Nat)]? = some (some (.ref x))) → (P (pc + 1) ls (.ref x :: st) h nc ns) → P pc ls st h nc ns
def pz_r_aload (d : Nat) (en : pz_Env) (C : pz_C) (own : Nat) (cc : ByteArray) (nL : Nat) (rt : Option FieldType) (hh : List (Nat × Nat × Nat × Nat)) (ini : Bool) (Q : pz_Q) (P : pz_P) : Prop := ∀ (pc : Nat) (ls : List (Option Value)) (st : List Value) (h : pz_H) (nc ns : Nat) (i : Nat) (x : Nat), (decode cc pc = .ok (.aload i, 2)) → (ls[i]? = some (some (.ref x))) → (P (pc + 2) ls (.ref x :: st) h nc ns) → P pc ls st h nc ns
def pz_r_astore_n (d : Nat) (en : pz_Env) (C : pz_C) (own : Nat) (cc : ByteArray) (nL : Nat) (rt : Option FieldType) (hh : List (Nat × Nat × Nat × Nat)) (ini : Bool) (Q : pz_Q) (P : pz_P) : Prop := ∀ (pc : Nat) (ls : List (Option Value)) (st : List Value) (h : pz_H) (nc ns : Nat) (n : Fin 4) (x : Nat), (decode cc pc = .ok (.astore_n n, 1)) → ((n : Nat) < nL) → (pz_ok ls (n : Nat) = true) → (P (pc + 1) (ls.set (n : Nat) (some (.ref x))) st h nc ns) → P pc ls (.ref x :: st) h nc ns
def pz_r_astore (d : Nat) (en : pz_Env) (C : pz_C) (own : Nat) (cc : ByteArray) (nL : Nat) (rt : Option FieldType) (hh : List (Nat × Nat × Nat × Nat)) (ini : Bool) (Q : pz_Q) (P : pz_P) : Prop := ∀ (pc : Nat) (ls : List (Option Value)) (st : List Value) (h : pz_H) (nc ns : Nat) (i : Nat) (x : Nat), (decode cc pc = .ok (.astore i, 2)) → (i < nL) → (pz_ok ls i = true) → (P (pc + 2) (ls.set i (some (.ref x))) st h nc ns) → P pc ls (.ref x :: st) h nc ns
def pz_r_dload (d : Nat) (en : pz_Env) (C : pz_C) (own : Nat) (cc : ByteArray) (nL : Nat) (rt : Option FieldType) (hh : List (Nat × Nat × Nat × Nat)) (ini : Bool) (Q : pz_Q) (P : pz_P) : Prop := ∀ (pc : Nat) (ls : List (Option Value)) (st : List Value) (h : pz_H) (nc ns : Nat) (i : Nat) (x : UInt64), (decode cc pc = .ok (.dload i, 2)) → (ls[i]? = some (some (.double x))) → (P (pc + 2) ls (.double x :: st) h nc ns) → P pc ls st h nc ns
def pz_r_dstore (d : Nat) (en : pz_Env) (C : pz_C) (own : Nat) (cc : ByteArray) (nL : Nat) (rt : Option FieldType) (hh : List (Nat × Nat × Nat × Nat)) (ini : Bool) (Q : pz_Q) (P : pz_P) : Prop := ∀ (pc : Nat) (ls : List (Option Value)) (st : List Value) (h : pz_H) (nc ns : Nat) (i : Nat) (x : UInt64), (decode cc pc = .ok (.dstore i, 2)) → (i + 1 < nL) → (pz_ok ls i = true) → (P (pc + 2) ((ls.set i (some (.double x))).set (i + 1) none) st h nc ns) → P pc ls (.double x :: st) h nc ns
def pz_r_iinc (d : Nat) (en : pz_Env) (C : pz_C) (own : Nat) (cc : ByteArray) (nL : Nat) (rt : Option FieldType) (hh : List (Nat × Nat × Nat × Nat)) (ini : Bool) (Q : pz_Q) (P : pz_P) : Prop := ∀ (pc : Nat) (ls : List (Option Value)) (st : List Value) (h : pz_H) (nc ns : Nat) (i : Nat) (n : Int) (x v : Int32), (decode cc pc = .ok (.iinc i n, 3)) → (ls[i]? = some (some (.int x))) → (i < nL) → (pz_ok ls i = true) → (x + Int32.ofInt n = v) → (P (pc + 3) (ls.set i (some (.int v))) st h nc ns) → P pc ls st h nc ns
def pz_r_iadd (d : Nat) (en : pz_Env) (C : pz_C) (own : Nat) (cc : ByteArray) (nL : Nat) (rt : Option FieldType) (hh : List (Nat × Nat × Nat × Nat)) (ini : Bool) (Q : pz_Q) (P : pz_P) : Prop := ∀ (pc : Nat) (ls : List (Option Value)) (st : List Value) (h : pz_H) (nc ns : Nat) (x y : Int32), (decode cc pc = .ok (.iadd, 1)) → (P (pc + 1) ls (.int (x + y) :: st) h nc ns) → P pc ls (.int y :: .int x :: st) h nc ns
def pz_r_isub (d : Nat) (en : pz_Env) (C : pz_C) (own : Nat) (cc : ByteArray) (nL : Nat) (rt : Option FieldType) (hh : List (Nat × Nat × Nat × Nat)) (ini : Bool) (Q : pz_Q) (P : pz_P) : Prop := ∀ (pc : Nat) (ls : List (Option Value)) (st : List Value) (h : pz_H) (nc ns : Nat) (x y : Int32), (decode cc pc = .ok (.isub, 1)) → (P (pc + 1) ls (.int (x - y) :: st) h nc ns) → P pc ls (.int y :: .int x :: st) h nc ns
def pz_r_imul (d : Nat) (en : pz_Env) (C : pz_C) (own : Nat) (cc : ByteArray) (nL : Nat) (rt : Option FieldType) (hh : List (Nat × Nat × Nat × Nat)) (ini : Bool) (Q : pz_Q) (P : pz_P) : Prop := ∀ (pc : Nat) (ls : List (Option Value)) (st : List Value) (h : pz_H) (nc ns : Nat) (x y : Int32), (decode cc pc = .ok (.imul, 1)) → (P (pc + 1) ls (.int (x * y) :: st) h nc ns) → P pc ls (.int y :: .int x :: st) h nc ns
def pz_r_iand (d : Nat) (en : pz_Env) (C : pz_C) (own : Nat) (cc : ByteArray) (nL : Nat) (rt : Option FieldType) (hh : List (Nat × Nat × Nat × Nat)) (ini : Bool) (Q : pz_Q) (P : pz_P) : Prop := ∀ (pc : Nat) (ls : List (Option Value)) (st : List Value) (h : pz_H) (nc ns : Nat) (x y : Int32), (decode cc pc = .ok (.iand, 1)) → (P (pc + 1) ls (.int (x &&& y) :: st) h nc ns) → P pc ls (.int y :: .int x :: st) h nc ns
def pz_r_ior (d : Nat) (en : pz_Env) (C : pz_C) (own : Nat) (cc : ByteArray) (nL : Nat) (rt : Option FieldType) (hh : List (Nat × Nat × Nat × Nat)) (ini : Bool) (Q : pz_Q) (P : pz_P) : Prop := ∀ (pc : Nat) (ls : List (Option Value)) (st : List Value) (h : pz_H) (nc ns : Nat) (x y : Int32), (decode cc pc = .ok (.ior, 1)) → (P (pc + 1) ls (.int (x ||| y) :: st) h nc ns) → P pc ls (.int y :: .int x :: st) h nc ns
def pz_r_ishl (d : Nat) (en : pz_Env) (C : pz_C) (own : Nat) (cc : ByteArray) (nL : Nat) (rt : Option FieldType) (hh : List (Nat × Nat × Nat × Nat)) (ini : Bool) (Q : pz_Q) (P : pz_P) : Prop := ∀ (pc : Nat) (ls : List (Option Value)) (st : List Value) (h : pz_H) (nc ns : Nat) (x y : Int32), (decode cc pc = .ok (.ishl, 1)) → (P (pc + 1) ls (.int (x <<< (y &&& 31)) :: st) h nc ns) → P pc ls (.int y :: .int x :: st) h nc ns
def pz_r_iushr (d : Nat) (en : pz_Env) (C : pz_C) (own : Nat) (cc : ByteArray) (nL : Nat) (rt : Option FieldType) (hh : List (Nat × Nat × Nat × Nat)) (ini : Bool) (Q : pz_Q) (P : pz_P) : Prop := ∀ (pc : Nat) (ls : List (Option Value)) (st : List Value) (h : pz_H) (nc ns : Nat) (x y : Int32), (decode cc pc = .ok (.iushr, 1)) → (P (pc + 1) ls (.int ((x.toUInt32 >>> (y.toUInt32 &&& Int32.toUInt32 31)).toInt32) :: st) h nc ns) → P pc ls (.int y :: .int x :: st) h nc ns
def pz_r_idiv (d : Nat) (en : pz_Env) (C : pz_C) (own : Nat) (cc : ByteArray) (nL : Nat) (rt : Option FieldType) (hh : List (Nat × Nat × Nat × Nat)) (ini : Bool) (Q : pz_Q) (P : pz_P) : Prop := ∀ (pc : Nat) (ls : List (Option Value)) (st : List Value) (h : pz_H) (nc ns : Nat) (x y : Int32), (decode cc pc = .ok (.idiv, 1)) → (¬ y = 0) → (P (pc + 1) ls (.int (x / y) :: st) h nc ns) → P pc ls (.int y :: .int x :: st) h nc ns
def pz_r_irem (d : Nat) (en : pz_Env) (C : pz_C) (own : Nat) (cc : ByteArray) (nL : Nat) (rt : Option FieldType) (hh : List (Nat × Nat × Nat × Nat)) (ini : Bool) (Q : pz_Q) (P : pz_P) : Prop := ∀ (pc : Nat) (ls : List (Option Value)) (st : List Value) (h : pz_H) (nc ns : Nat) (x y : Int32), (decode cc pc = .ok (.irem, 1)) → (¬ y = 0) → (P (pc + 1) ls (.int (x - x / y * y) :: st) h nc ns) → P pc ls (.int y :: .int x :: st) h nc ns
def pz_r_ineg (d : Nat) (en : pz_Env) (C : pz_C) (own : Nat) (cc : ByteArray) (nL : Nat) (rt : Option FieldType) (hh : List (Nat × Nat × Nat × Nat)) (ini : Bool) (Q : pz_Q) (P : pz_P) : Prop := ∀ (pc : Nat) (ls : List (Option Value)) (st : List Value) (h : pz_H) (nc ns : Nat) (x : Int32), (decode cc pc = .ok (.ineg, 1)) → (P (pc + 1) ls (.int (-x) :: st) h nc ns) → P pc ls (.int x :: st) h nc ns
def pz_r_i2l (d : Nat) (en : pz_Env) (C : pz_C) (own : Nat) (cc : ByteArray) (nL : Nat) (rt : Option FieldType) (hh : List (Nat × Nat × Nat × Nat)) (ini : Bool) (Q : pz_Q) (P : pz_P) : Prop := ∀ (pc : Nat) (ls : List (Option Value)) (st : List Value) (h : pz_H) (nc ns : Nat) (x : Int32), (decode cc pc = .ok (.i2l, 1)) → (P (pc + 1) ls (.long x.toInt64 :: st) h nc ns) → P pc ls (.int x :: st) h nc ns
def pz_r_i2c (d : Nat) (en : pz_Env) (C : pz_C) (own : Nat) (cc : ByteArray) (nL : Nat) (rt : Option FieldType) (hh : List (Nat × Nat × Nat × Nat)) (ini : Bool) (Q : pz_Q) (P : pz_P) : Prop := ∀ (pc : Nat) (ls : List (Option Value)) (st : List Value) (h : pz_H) (nc ns : Nat) (x : Int32), (decode cc pc = .ok (.i2c, 1)) → (P (pc + 1) ls (.int (x.toUInt32 % 65536).toInt32 :: st) h nc ns) → P pc ls (.int x :: st) h nc ns
def pz_r_i2d (d : Nat) (en : pz_Env) (C : pz_C) (own : Nat) (cc : ByteArray) (nL : Nat) (rt : Option FieldType) (hh : List (Nat × Nat × Nat × Nat)) (ini : Bool) (Q : pz_Q) (P : pz_P) : Prop := ∀ (pc : Nat) (ls : List (Option Value)) (st : List Value) (h : pz_H) (nc ns : Nat) (x : Int32), (decode cc pc = .ok (.i2d, 1)) → (P (pc + 1) ls (.double (FP.i2d x) :: st) h nc ns) → P pc ls (.int x :: st) h nc ns
def pz_r_ddiv (d : Nat) (en : pz_Env) (C : pz_C) (own : Nat) (cc : ByteArray) (nL : Nat) (rt : Option FieldType) (hh : List (Nat × Nat × Nat × Nat)) (ini : Bool) (Q : pz_Q) (P : pz_P) : Prop := ∀ (pc : Nat) (ls : List (Option Value)) (st : List Value) (h : pz_H) (nc ns : Nat) (x y : UInt64), (decode cc pc = .ok (.ddiv, 1)) → (vf_n64 (FP.ddiv x y)) → (P (pc + 1) ls (.double (FP.ddiv x y) :: st) h nc ns) → P pc ls (.double y :: .double x :: st) h nc ns
def pz_r_dcmp (d : Nat) (en : pz_Env) (C : pz_C) (own : Nat) (cc : ByteArray) (nL : Nat) (rt : Option FieldType) (hh : List (Nat × Nat × Nat × Nat)) (ini : Bool) (Q : pz_Q) (P : pz_P) : Prop := ∀ (pc : Nat) (ls : List (Option Value)) (st : List Value) (h : pz_H) (nc ns : Nat) (x y : UInt64) (op : CmpOp), (decode cc pc = .ok (.dcmp op, 1)) → (P (pc + 1) ls (.int (Op.cmpValue (FP.dcmp x y) op) :: st) h nc ns) → P pc ls (.double y :: .double x :: st) h nc ns
def pz_r_lcmp (d : Nat) (en : pz_Env) (C : pz_C) (own : Nat) (cc : ByteArray) (nL : Nat) (rt : Option FieldType) (hh : List (Nat × Nat × Nat × Nat)) (ini : Bool) (Q : pz_Q) (P : pz_P) : Prop := ∀ (pc : Nat) (ls : List (Option Value)) (st : List Value) (h : pz_H) (nc ns : Nat) (x y : Int64), (decode cc pc = .ok (.lcmp, 1)) → (P (pc + 1) ls (.int (lg_cmp x y) :: st) h nc ns) → P pc ls (.long y :: .long x :: st) h nc ns
def pz_r_dup (d : Nat) (en : pz_Env) (C : pz_C) (own : Nat) (cc : ByteArray) (nL : Nat) (rt : Option FieldType) (hh : List (Nat × Nat × Nat × Nat)) (ini : Bool) (Q : pz_Q) (P : pz_P) : Prop := ∀ (pc : Nat) (ls : List (Option Value)) (st : List Value) (h : pz_H) (nc ns : Nat) (v : Value), (decode cc pc = .ok (.dup, 1)) → (v.category = 1) → (P (pc + 1) ls (v :: v :: st) h nc ns) → P pc ls (v :: st) h nc ns
def pz_r_dup2 (d : Nat) (en : pz_Env) (C : pz_C) (own : Nat) (cc : ByteArray) (nL : Nat) (rt : Option FieldType) (hh : List (Nat × Nat × Nat × Nat)) (ini : Bool) (Q : pz_Q) (P : pz_P) : Prop := ∀ (pc : Nat) (ls : List (Option Value)) (st : List Value) (h : pz_H) (nc ns : Nat) (v u : Value), (decode cc pc = .ok (.dup2, 1)) → (v.category = 1) → (u.category = 1) → (P (pc + 1) ls (v :: u :: v :: u :: st) h nc ns) → P pc ls (v :: u :: st) h nc ns
def pz_r_pop (d : Nat) (en : pz_Env) (C : pz_C) (own : Nat) (cc : ByteArray) (nL : Nat) (rt : Option FieldType) (hh : List (Nat × Nat × Nat × Nat)) (ini : Bool) (Q : pz_Q) (P : pz_P) : Prop := ∀ (pc : Nat) (ls : List (Option Value)) (st : List Value) (h : pz_H) (nc ns : Nat) (v : Value), (decode cc pc = .ok (.pop, 1)) → (v.category = 1) → (P (pc + 1) ls st h nc ns) → P pc ls (v :: st) h nc ns
def pz_r_if_eq (d : Nat) (en : pz_Env) (C : pz_C) (own : Nat) (cc : ByteArray) (nL : Nat) (rt : Option FieldType) (hh : List (Nat × Nat × Nat × Nat)) (ini : Bool) (Q : pz_Q) (P : pz_P) : Prop := ∀ (pc : Nat) (ls : List (Option Value)) (st : List Value) (h : pz_H) (nc ns : Nat) (x : Int32) (off : Int) (tgt : Nat), (decode cc pc = .ok (.ifCond .eq off, 3)) → ((pc : Int) + off = (tgt : Int)) → (x = 0 → P tgt ls st h nc ns) → (¬ x = 0 → P (pc + 3) ls st h nc ns) → P pc ls (.int x :: st) h nc ns
def pz_r_if_ne (d : Nat) (en : pz_Env) (C : pz_C) (own : Nat) (cc : ByteArray) (nL : Nat) (rt : Option FieldType) (hh : List (Nat × Nat × Nat × Nat)) (ini : Bool) (Q : pz_Q) (P : pz_P) : Prop := ∀ (pc : Nat) (ls : List (Option Value)) (st : List Value) (h : pz_H) (nc ns : Nat) (x : Int32) (off : Int) (tgt : Nat), (decode cc pc = .ok (.ifCond .ne off, 3)) → ((pc : Int) + off = (tgt : Int)) → (¬ x = 0 → P tgt ls st h nc ns) → (x = 0 → P (pc + 3) ls st h nc ns) → P pc ls (.int x :: st) h nc ns
def pz_r_if_lt (d : Nat) (en : pz_Env) (C : pz_C) (own : Nat) (cc : ByteArray) (nL : Nat) (rt : Option FieldType) (hh : List (Nat × Nat × Nat × Nat)) (ini : Bool) (Q : pz_Q) (P : pz_P) : Prop := ∀ (pc : Nat) (ls : List (Option Value)) (st : List Value) (h : pz_H) (nc ns : Nat) (x : Int32) (off : Int) (tgt : Nat), (decode cc pc = .ok (.ifCond .lt off, 3)) → ((pc : Int) + off = (tgt : Int)) → (x < 0 → P tgt ls st h nc ns) → (¬ x < 0 → P (pc + 3) ls st h nc ns) → P pc ls (.int x :: st) h nc ns
def pz_r_if_ge (d : Nat) (en : pz_Env) (C : pz_C) (own : Nat) (cc : ByteArray) (nL : Nat) (rt : Option FieldType) (hh : List (Nat × Nat × Nat × Nat)) (ini : Bool) (Q : pz_Q) (P : pz_P) : Prop := ∀ (pc : Nat) (ls : List (Option Value)) (st : List Value) (h : pz_H) (nc ns : Nat) (x : Int32) (off : Int) (tgt : Nat), (decode cc pc = .ok (.ifCond .ge off, 3)) → ((pc : Int) + off = (tgt : Int)) → (0 ≤ x → P tgt ls st h nc ns) → (¬ 0 ≤ x → P (pc + 3) ls st h nc ns) → P pc ls (.int x :: st) h nc ns
def pz_r_if_gt (d : Nat) (en : pz_Env) (C : pz_C) (own : Nat) (cc : ByteArray) (nL : Nat) (rt : Option FieldType) (hh : List (Nat × Nat × Nat × Nat)) (ini : Bool) (Q : pz_Q) (P : pz_P) : Prop := ∀ (pc : Nat) (ls : List (Option Value)) (st : List Value) (h : pz_H) (nc ns : Nat) (x : Int32) (off : Int) (tgt : Nat), (decode cc pc = .ok (.ifCond .gt off, 3)) → ((pc : Int) + off = (tgt : Int)) → (0 < x → P tgt ls st h nc ns) → (¬ 0 < x → P (pc + 3) ls st h nc ns) → P pc ls (.int x :: st) h nc ns
def pz_r_if_le (d : Nat) (en : pz_Env) (C : pz_C) (own : Nat) (cc : ByteArray) (nL : Nat) (rt : Option FieldType) (hh : List (Nat × Nat × Nat × Nat)) (ini : Bool) (Q : pz_Q) (P : pz_P) : Prop := ∀ (pc : Nat) (ls : List (Option Value)) (st : List Value) (h : pz_H) (nc ns : Nat) (x : Int32) (off : Int) (tgt : Nat), (decode cc pc = .ok (.ifCond .le off, 3)) → ((pc : Int) + off = (tgt : Int)) → (x ≤ 0 → P tgt ls st h nc ns) → (¬ x ≤ 0 → P (pc + 3) ls st h nc ns) → P pc ls (.int x :: st) h nc ns
def pz_r_icmp_eq (d : Nat) (en : pz_Env) (C : pz_C) (own : Nat) (cc : ByteArray) (nL : Nat) (rt : Option FieldType) (hh : List (Nat × Nat × Nat × Nat)) (ini : Bool) (Q : pz_Q) (P : pz_P) : Prop := ∀ (pc : Nat) (ls : List (Option Value)) (st : List Value) (h : pz_H) (nc ns : Nat) (x y : Int32) (off : Int) (tgt : Nat), (decode cc pc = .ok (.if_icmp .eq off, 3)) → ((pc : Int) + off = (tgt : Int)) → (x = y → P tgt ls st h nc ns) → (¬ x = y → P (pc + 3) ls st h nc ns) → P pc ls (.int y :: .int x :: st) h nc ns
def pz_r_icmp_ne (d : Nat) (en : pz_Env) (C : pz_C) (own : Nat) (cc : ByteArray) (nL : Nat) (rt : Option FieldType) (hh : List (Nat × Nat × Nat × Nat)) (ini : Bool) (Q : pz_Q) (P : pz_P) : Prop := ∀ (pc : Nat) (ls : List (Option Value)) (st : List Value) (h : pz_H) (nc ns : Nat) (x y : Int32) (off : Int) (tgt : Nat), (decode cc pc = .ok (.if_icmp .ne off, 3)) → ((pc : Int) + off = (tgt : Int)) → (¬ x = y → P tgt ls st h nc ns) → (x = y → P (pc + 3) ls st h nc ns) → P pc ls (.int y :: .int x :: st) h nc ns
def pz_r_icmp_lt (d : Nat) (en : pz_Env) (C : pz_C) (own : Nat) (cc : ByteArray) (nL : Nat) (rt : Option FieldType) (hh : List (Nat × Nat × Nat × Nat)) (ini : Bool) (Q : pz_Q) (P : pz_P) : Prop := ∀ (pc : Nat) (ls : List (Option Value)) (st : List Value) (h : pz_H) (nc ns : Nat) (x y : Int32) (off : Int) (tgt : Nat), (decode cc pc = .ok (.if_icmp .lt off, 3)) → ((pc : Int) + off = (tgt : Int)) → (x < y → P tgt ls st h nc ns) → (¬ x < y → P (pc + 3) ls st h nc ns) → P pc ls (.int y :: .int x :: st) h nc ns
def pz_r_icmp_ge (d : Nat) (en : pz_Env) (C : pz_C) (own : Nat) (cc : ByteArray) (nL : Nat) (rt : Option FieldType) (hh : List (Nat × Nat × Nat × Nat)) (ini : Bool) (Q : pz_Q) (P : pz_P) : Prop := ∀ (pc : Nat) (ls : List (Option Value)) (st : List Value) (h : pz_H) (nc ns : Nat) (x y : Int32) (off : Int) (tgt : Nat), (decode cc pc = .ok (.if_icmp .ge off, 3)) → ((pc : Int) + off = (tgt : Int)) → (y ≤ x → P tgt ls st h nc ns) → (¬ y ≤ x → P (pc + 3) ls st h nc ns) → P pc ls (.int y :: .int x :: st) h nc ns
def pz_r_icmp_gt (d : Nat) (en : pz_Env) (C : pz_C) (own : Nat) (cc : ByteArray) (nL : Nat) (rt : Option FieldType) (hh : List (Nat × Nat × Nat × Nat)) (ini : Bool) (Q : pz_Q) (P : pz_P) : Prop := ∀ (pc : Nat) (ls : List (Option Value)) (st : List Value) (h : pz_H) (nc ns : Nat) (x y : Int32) (off : Int) (tgt : Nat), (decode cc pc = .ok (.if_icmp .gt off, 3)) → ((pc : Int) + off = (tgt : Int)) → (y < x → P tgt ls st h nc ns) → (¬ y < x → P (pc + 3) ls st h nc ns) → P pc ls (.int y :: .int x :: st) h nc ns
def pz_r_icmp_le (d : Nat) (en : pz_Env) (C : pz_C) (own : Nat) (cc : ByteArray) (nL : Nat) (rt : Option FieldType) (hh : List (Nat × Nat × Nat × Nat)) (ini : Bool) (Q : pz_Q) (P : pz_P) : Prop := ∀ (pc : Nat) (ls : List (Option Value)) (st : List Value) (h : pz_H) (nc ns : Nat) (x y : Int32) (off : Int) (tgt : Nat), (decode cc pc = .ok (.if_icmp .le off, 3)) → ((pc : Int) + off = (tgt : Int)) → (x ≤ y → P tgt ls st h nc ns) → (¬ x ≤ y → P (pc + 3) ls st h nc ns) → P pc ls (.int y :: .int x :: st) h nc ns
def pz_r_goto (d : Nat) (en : pz_Env) (C : pz_C) (own : Nat) (cc : ByteArray) (nL : Nat) (rt : Option FieldType) (hh : List (Nat × Nat × Nat × Nat)) (ini : Bool) (Q : pz_Q) (P : pz_P) : Prop := ∀ (pc : Nat) (ls : List (Option Value)) (st : List Value) (h : pz_H) (nc ns : Nat) (off : Int) (tgt : Nat), (decode cc pc = .ok (.goto off, 3)) → ((pc : Int) + off = (tgt : Int)) → (P tgt ls st h nc ns) → P pc ls st h nc ns
def pz_r_tsin (d : Nat) (en : pz_Env) (C : pz_C) (own : Nat) (cc : ByteArray) (nL : Nat) (rt : Option FieldType) (hh : List (Nat × Nat × Nat × Nat)) (ini : Bool) (Q : pz_Q) (P : pz_P) : Prop := ∀ (pc : Nat) (ls : List (Option Value)) (st : List Value) (h : pz_H) (nc ns : Nat) (dflt lo hi : Int) (offs : Array Int) (len : Nat) (x : Int32) (off : Int) (tgt : Nat), (decode cc pc = .ok (.tableswitch dflt lo hi offs, len)) → (¬ x.toInt < lo) → (¬ hi < x.toInt) → (offs[(x.toInt - lo).toNat]? = some off) → ((pc : Int) + off = (tgt : Int)) → (P tgt ls st h nc ns) → P pc ls (.int x :: st) h nc ns
def pz_r_tsout (d : Nat) (en : pz_Env) (C : pz_C) (own : Nat) (cc : ByteArray) (nL : Nat) (rt : Option FieldType) (hh : List (Nat × Nat × Nat × Nat)) (ini : Bool) (Q : pz_Q) (P : pz_P) : Prop := ∀ (pc : Nat) (ls : List (Option Value)) (st : List Value) (h : pz_H) (nc ns : Nat) (dflt lo hi : Int) (offs : Array Int) (len : Nat) (x : Int32) (tgt : Nat), (decode cc pc = .ok (.tableswitch dflt lo hi offs, len)) → (x.toInt < lo ∨ hi < x.toInt) → ((pc : Int) + dflt = (tgt : Int)) → (P tgt ls st h nc ns) → P pc ls (.int x :: st) h nc ns
def pz_r_lsw (d : Nat) (en : pz_Env) (C : pz_C) (own : Nat) (cc : ByteArray) (nL : Nat) (rt : Option FieldType) (hh : List (Nat × Nat × Nat × Nat)) (ini : Bool) (Q : pz_Q) (P : pz_P) : Prop := ∀ (pc : Nat) (ls : List (Option Value)) (st : List Value) (h : pz_H) (nc ns : Nat) (dflt : Int) (ps : Array (Int × Int)) (len : Nat) (x : Int32) (off : Int) (tgt : Nat), (decode cc pc = .ok (.lookupswitch dflt ps, len)) → ((ps.toList.zip (ps.toList.drop 1)).all (fun (a, next) => a.1 < next.1) = true) → (Op.lookupswitch.offset ps.toList dflt x.toInt = off) → ((pc : Int) + off = (tgt : Int)) → (P tgt ls st h nc ns) → P pc ls (.int x :: st) h nc ns
def pz_r_getf (d : Nat) (en : pz_Env) (C : pz_C) (own : Nat) (cc : ByteArray) (nL : Nat) (rt : Option FieldType) (hh : List (Nat × Nat × Nat × Nat)) (ini : Bool) (Q : pz_Q) (P : pz_P) : Prop := ∀ (pc : Nat) (ls : List (Option Value)) (st : List Value) (h : pz_H) (nc ns : Nat) (i ci k : Nat) (a : Nat) (fs : List Value) (v : Value), (decode cc pc = .ok (.getfield i, 3)) → (pz_fld own i = some (ci, k)) → (h a = some (.inr (ci, fs))) → (fs[k]? = some v) → (P (pc + 3) ls (v :: st) h nc ns) → P pc ls (.ref a :: st) h nc ns
def pz_r_putf (d : Nat) (en : pz_Env) (C : pz_C) (own : Nat) (cc : ByteArray) (nL : Nat) (rt : Option FieldType) (hh : List (Nat × Nat × Nat × Nat)) (ini : Bool) (Q : pz_Q) (P : pz_P) : Prop := ∀ (pc : Nat) (ls : List (Option Value)) (st : List Value) (h : pz_H) (nc ns : Nat) (i ci k : Nat) (a : Nat) (fs : List Value) (v : Value) (h2 : pz_H), (decode cc pc = .ok (.putfield i, 3)) → (pz_fld own i = some (ci, k)) → ((pz_T ci k).2.2.2 = false ∨ (ini = true ∧ ci = own)) → (h a = some (.inr (ci, fs))) → (k < fs.length) → (narrow (pz_ty ci k) v = v) → (fits (pz_ty ci k) v = true) → (va_up h a (some (.inr (ci, fs.set k v))) = h2) → (P (pc + 3) ls st h2 nc ns) → P pc ls (v :: .ref a :: st) h nc ns
def pz_r_new (d : Nat) (en : pz_Env) (C : pz_C) (own : Nat) (cc : ByteArray) (nL : Nat) (rt : Option FieldType) (hh : List (Nat × Nat × Nat × Nat)) (ini : Bool) (Q : pz_Q) (P : pz_P) : Prop := ∀ (pc : Nat) (ls : List (Option Value)) (st : List Value) (h : pz_H) (nc ns : Nat) (i ci N : Nat), (decode cc pc = .ok (.new i, 3)) → (pz_cls own i = some ci) → (pz_N ci = N) → (∀ q, h q = none → P (pc + 3) ls (.ref q :: st) (va_up h q (some (.inr (ci, pz_blank ci)))) nc ns) → P pc ls st h (nc + 1) (ns + N)
def pz_r_newai (d : Nat) (en : pz_Env) (C : pz_C) (own : Nat) (cc : ByteArray) (nL : Nat) (rt : Option FieldType) (hh : List (Nat × Nat × Nat × Nat)) (ini : Bool) (Q : pz_Q) (P : pz_P) : Prop := ∀ (pc : Nat) (ls : List (Option Value)) (st : List Value) (h : pz_H) (nc ns : Nat) (n : Int32) (N : Nat), (decode cc pc = .ok (.newarray .int, 2)) → (n.toInt = (N : Int)) → (N ≤ 100000) → (∀ q, h q = none → P (pc + 2) ls (.ref q :: st) (va_up h q (some (.inl (0, N, .inl (fun _ => 0))))) nc ns) → P pc ls (.int n :: st) h (nc + 1) (ns + N)
def pz_r_newac (d : Nat) (en : pz_Env) (C : pz_C) (own : Nat) (cc : ByteArray) (nL : Nat) (rt : Option FieldType) (hh : List (Nat × Nat × Nat × Nat)) (ini : Bool) (Q : pz_Q) (P : pz_P) : Prop := ∀ (pc : Nat) (ls : List (Option Value)) (st : List Value) (h : pz_H) (nc ns : Nat) (n : Int32) (N : Nat), (decode cc pc = .ok (.newarray .char, 2)) → (n.toInt = (N : Int)) → (N ≤ 100000) → (∀ q, h q = none → P (pc + 2) ls (.ref q :: st) (va_up h q (some (.inl (1, N, .inl (fun _ => 0))))) nc ns) → P pc ls (.int n :: st) h (nc + 1) (ns + N)
def pz_r_newal (d : Nat) (en : pz_Env) (C : pz_C) (own : Nat) (cc : ByteArray) (nL : Nat) (rt : Option FieldType) (hh : List (Nat × Nat × Nat × Nat)) (ini : Bool) (Q : pz_Q) (P : pz_P) : Prop := ∀ (pc : Nat) (ls : List (Option Value)) (st : List Value) (h : pz_H) (nc ns : Nat) (n : Int32) (N : Nat), (decode cc pc = .ok (.newarray .long, 2)) → (n.toInt = (N : Int)) → (N ≤ 100000) → (∀ q, h q = none → P (pc + 2) ls (.ref q :: st) (va_up h q (some (.inl (2, N, .inr (.inl (fun _ => 0)))))) nc ns) → P pc ls (.int n :: st) h (nc + 1) (ns + N)
def pz_r_newaq (d : Nat) (en : pz_Env) (C : pz_C) (own : Nat) (cc : ByteArray) (nL : Nat) (rt : Option FieldType) (hh : List (Nat × Nat × Nat × Nat)) (ini : Bool) (Q : pz_Q) (P : pz_P) : Prop := ∀ (pc : Nat) (ls : List (Option Value)) (st : List Value) (h : pz_H) (nc ns : Nat) (i ci kq : Nat) (n : Int32) (N : Nat), (decode cc pc = .ok (.anewarray i, 3)) → (pz_cls own i = some ci) → ((kq = 3 ∧ ci = 0) ∨ (kq = 4 ∧ ci = 5)) → (n.toInt = (N : Int)) → (N ≤ 100000) → (∀ q, h q = none → P (pc + 3) ls (.ref q :: st) (va_up h q (some (.inl (kq, N, .inr (.inr (.inr (.inr (fun _ => none)))))))) nc ns) → P pc ls (.int n :: st) h (nc + 1) (ns + N)
def pz_r_iald (d : Nat) (en : pz_Env) (C : pz_C) (own : Nat) (cc : ByteArray) (nL : Nat) (rt : Option FieldType) (hh : List (Nat × Nat × Nat × Nat)) (ini : Bool) (Q : pz_Q) (P : pz_P) : Prop := ∀ (pc : Nat) (ls : List (Option Value)) (st : List Value) (h : pz_H) (nc ns : Nat) (a : Nat) (i : Int32) (k n : Nat) (f : Nat → Int32), (decode cc pc = .ok (.iaload, 1)) → (h a = some (.inl (0, n, .inl f))) → (i.toInt = (k : Int)) → (k < n) → (P (pc + 1) ls (.int (f k) :: st) h nc ns) → P pc ls (.int i :: .ref a :: st) h nc ns
def pz_r_cald (d : Nat) (en : pz_Env) (C : pz_C) (own : Nat) (cc : ByteArray) (nL : Nat) (rt : Option FieldType) (hh : List (Nat × Nat × Nat × Nat)) (ini : Bool) (Q : pz_Q) (P : pz_P) : Prop := ∀ (pc : Nat) (ls : List (Option Value)) (st : List Value) (h : pz_H) (nc ns : Nat) (a : Nat) (i : Int32) (k n : Nat) (f : Nat → Int32), (decode cc pc = .ok (.caload, 1)) → (h a = some (.inl (1, n, .inl f))) → (i.toInt = (k : Int)) → (k < n) → (P (pc + 1) ls (.int (f k) :: st) h nc ns) → P pc ls (.int i :: .ref a :: st) h nc ns
def pz_r_lald (d : Nat) (en : pz_Env) (C : pz_C) (own : Nat) (cc : ByteArray) (nL : Nat) (rt : Option FieldType) (hh : List (Nat × Nat × Nat × Nat)) (ini : Bool) (Q : pz_Q) (P : pz_P) : Prop := ∀ (pc : Nat) (ls : List (Option Value)) (st : List Value) (h : pz_H) (nc ns : Nat) (a : Nat) (i : Int32) (k n : Nat) (f : Nat → Int64), (decode cc pc = .ok (.laload, 1)) → (h a = some (.inl (2, n, .inr (.inl f)))) → (i.toInt = (k : Int)) → (k < n) → (P (pc + 1) ls (.long (f k) :: st) h nc ns) → P pc ls (.int i :: .ref a :: st) h nc ns
def pz_r_aald (d : Nat) (en : pz_Env) (C : pz_C) (own : Nat) (cc : ByteArray) (nL : Nat) (rt : Option FieldType) (hh : List (Nat × Nat × Nat × Nat)) (ini : Bool) (Q : pz_Q) (P : pz_P) : Prop := ∀ (pc : Nat) (ls : List (Option Value)) (st : List Value) (h : pz_H) (nc ns : Nat) (a kq : Nat) (i : Int32) (k n : Nat) (f : Nat → Option Nat) (r : Nat), (decode cc pc = .ok (.aaload, 1)) → (h a = some (.inl (kq, n, .inr (.inr (.inr (.inr f)))))) → (kq = 3 ∨ kq = 4) → (i.toInt = (k : Int)) → (k < n) → (f k = some r) → (P (pc + 1) ls (.ref r :: st) h nc ns) → P pc ls (.int i :: .ref a :: st) h nc ns
def pz_r_iast (d : Nat) (en : pz_Env) (C : pz_C) (own : Nat) (cc : ByteArray) (nL : Nat) (rt : Option FieldType) (hh : List (Nat × Nat × Nat × Nat)) (ini : Bool) (Q : pz_Q) (P : pz_P) : Prop := ∀ (pc : Nat) (ls : List (Option Value)) (st : List Value) (h : pz_H) (nc ns : Nat) (a : Nat) (i x : Int32) (k n : Nat) (f : Nat → Int32) (h2 : pz_H), (decode cc pc = .ok (.iastore, 1)) → (h a = some (.inl (0, n, .inl f))) → (i.toInt = (k : Int)) → (k < n) → (va_up h a (some (.inl (0, n, .inl (va_up f k x)))) = h2) → (P (pc + 1) ls st h2 nc ns) → P pc ls (.int x :: .int i :: .ref a :: st) h nc ns
def pz_r_cast (d : Nat) (en : pz_Env) (C : pz_C) (own : Nat) (cc : ByteArray) (nL : Nat) (rt : Option FieldType) (hh : List (Nat × Nat × Nat × Nat)) (ini : Bool) (Q : pz_Q) (P : pz_P) : Prop := ∀ (pc : Nat) (ls : List (Option Value)) (st : List Value) (h : pz_H) (nc ns : Nat) (a : Nat) (i x : Int32) (k n : Nat) (f : Nat → Int32) (h2 : pz_H), (decode cc pc = .ok (.castore, 1)) → (h a = some (.inl (1, n, .inl f))) → (i.toInt = (k : Int)) → (k < n) → (vp_nar .char x = x) → (va_up h a (some (.inl (1, n, .inl (va_up f k x)))) = h2) → (P (pc + 1) ls st h2 nc ns) → P pc ls (.int x :: .int i :: .ref a :: st) h nc ns
def pz_r_last (d : Nat) (en : pz_Env) (C : pz_C) (own : Nat) (cc : ByteArray) (nL : Nat) (rt : Option FieldType) (hh : List (Nat × Nat × Nat × Nat)) (ini : Bool) (Q : pz_Q) (P : pz_P) : Prop := ∀ (pc : Nat) (ls : List (Option Value)) (st : List Value) (h : pz_H) (nc ns : Nat) (a : Nat) (i : Int32) (x : Int64) (k n : Nat) (f : Nat → Int64) (h2 : pz_H), (decode cc pc = .ok (.lastore, 1)) → (h a = some (.inl (2, n, .inr (.inl f)))) → (i.toInt = (k : Int)) → (k < n) → (va_up h a (some (.inl (2, n, .inr (.inl (va_up f k x))))) = h2) → (P (pc + 1) ls st h2 nc ns) → P pc ls (.long x :: .int i :: .ref a :: st) h nc ns
def pz_r_aast (d : Nat) (en : pz_Env) (C : pz_C) (own : Nat) (cc : ByteArray) (nL : Nat) (rt : Option FieldType) (hh : List (Nat × Nat × Nat × Nat)) (ini : Bool) (Q : pz_Q) (P : pz_P) : Prop := ∀ (pc : Nat) (ls : List (Option Value)) (st : List Value) (h : pz_H) (nc ns : Nat) (a kq ci v : Nat) (vs : List Value) (i : Int32) (k n : Nat) (f : Nat → Option Nat) (h2 : pz_H), (decode cc pc = .ok (.aastore, 1)) → (h a = some (.inl (kq, n, .inr (.inr (.inr (.inr f)))))) → ((kq = 3 ∧ ci = 0) ∨ (kq = 4 ∧ ci = 5)) → (h v = some (.inr (ci, vs))) → (i.toInt = (k : Int)) → (k < n) → (va_up h a (some (.inl (kq, n, .inr (.inr (.inr (.inr (va_up f k (some v)))))))) = h2) → (P (pc + 1) ls st h2 nc ns) → P pc ls (.ref v :: .int i :: .ref a :: st) h nc ns
def pz_r_slen (d : Nat) (en : pz_Env) (C : pz_C) (own : Nat) (cc : ByteArray) (nL : Nat) (rt : Option FieldType) (hh : List (Nat × Nat × Nat × Nat)) (ini : Bool) (Q : pz_Q) (P : pz_P) : Prop := ∀ (pc : Nat) (ls : List (Option Value)) (st : List Value) (h : pz_H) (nc ns : Nat), (decode cc pc = .ok (.arraylength, 1)) → (P (pc + 1) ls (.int (Int32.ofNat en.2.1) :: st) h nc ns) → P pc ls (.ref en.1 :: st) h nc ns
def pz_r_sld (d : Nat) (en : pz_Env) (C : pz_C) (own : Nat) (cc : ByteArray) (nL : Nat) (rt : Option FieldType) (hh : List (Nat × Nat × Nat × Nat)) (ini : Bool) (Q : pz_Q) (P : pz_P) : Prop := ∀ (pc : Nat) (ls : List (Option Value)) (st : List Value) (h : pz_H) (nc ns : Nat) (i : Int32) (k : Nat), (decode cc pc = .ok (.iaload, 1)) → (i.toInt = (k : Int)) → (k < en.2.1) → (P (pc + 1) ls (.int (en.2.2.1 k) :: st) h nc ns) → P pc ls (.int i :: .ref en.1 :: st) h nc ns
def pz_r_copy (d : Nat) (en : pz_Env) (C : pz_C) (own : Nat) (cc : ByteArray) (nL : Nat) (rt : Option FieldType) (hh : List (Nat × Nat × Nat × Nat)) (ini : Bool) (Q : pz_Q) (P : pz_P) : Prop := ∀ (pc : Nat) (ls : List (Option Value)) (st : List Value) (h : pz_H) (nc ns : Nat) (ix a0 a n0 n1 i0 j0 N : Nat) (sp dp n : Int32) (f g : Nat → Int32) (h2 : pz_H), (decode cc pc = .ok (.invokestatic ix, 3)) → (pz_nat own ix = some 2) → (1 ≤ d) → (h a0 = some (.inl (0, n0, .inl f))) → (h a = some (.inl (0, n1, .inl g))) → (sp.toInt = (i0 : Int)) → (dp.toInt = (j0 : Int)) → (n.toInt = (N : Int)) → (i0 + N ≤ n0) → (j0 + N ≤ n1) → (st.length ≤ 3) → (va_up h a (some (.inl (0, n1, .inl (va_cpy f g i0 j0 N)))) = h2) → (P (pc + 3) ls st h2 nc ns) → P pc ls (.int n :: .int dp :: .ref a :: .int sp :: .ref a0 :: st) h nc ns
def pz_r_max (d : Nat) (en : pz_Env) (C : pz_C) (own : Nat) (cc : ByteArray) (nL : Nat) (rt : Option FieldType) (hh : List (Nat × Nat × Nat × Nat)) (ini : Bool) (Q : pz_Q) (P : pz_P) : Prop := ∀ (pc : Nat) (ls : List (Option Value)) (st : List Value) (h : pz_H) (nc ns : Nat) (ix : Nat) (x y : Int32), (decode cc pc = .ok (.invokestatic ix, 3)) → (pz_nat own ix = some 0) → (1 ≤ d) → (st.length ≤ 3) → (P (pc + 3) ls (.int (if x < y then y else x) :: st) h nc ns) → P pc ls (.int y :: .int x :: st) h nc ns
def pz_r_min (d : Nat) (en : pz_Env) (C : pz_C) (own : Nat) (cc : ByteArray) (nL : Nat) (rt : Option FieldType) (hh : List (Nat × Nat × Nat × Nat)) (ini : Bool) (Q : pz_Q) (P : pz_P) : Prop := ∀ (pc : Nat) (ls : List (Option Value)) (st : List Value) (h : pz_H) (nc ns : Nat) (ix : Nat) (x y : Int32), (decode cc pc = .ok (.invokestatic ix, 3)) → (pz_nat own ix = some 1) → (1 ≤ d) → (st.length ≤ 3) → (P (pc + 3) ls (.int (if y < x then y else x) :: st) h nc ns) → P pc ls (.int y :: .int x :: st) h nc ns
def pz_r_obj (d : Nat) (en : pz_Env) (C : pz_C) (own : Nat) (cc : ByteArray) (nL : Nat) (rt : Option FieldType) (hh : List (Nat × Nat × Nat × Nat)) (ini : Bool) (Q : pz_Q) (P : pz_P) : Prop := ∀ (pc : Nat) (ls : List (Option Value)) (st : List Value) (h : pz_H) (nc ns : Nat) (ix a : Nat), (decode cc pc = .ok (.invokespecial ix, 3)) → (pz_obj own ix = true) → (1 ≤ d) → (st.length ≤ 3) → (P (pc + 3) ls st h nc ns) → P pc ls (.ref a :: st) h nc ns
def pz_r_idx (d : Nat) (en : pz_Env) (C : pz_C) (own : Nat) (cc : ByteArray) (nL : Nat) (rt : Option FieldType) (hh : List (Nat × Nat × Nat × Nat)) (ini : Bool) (Q : pz_Q) (P : pz_P) : Prop := ∀ (pc : Nat) (ls : List (Option Value)) (st : List Value) (h : pz_H) (nc ns : Nat) (x : Int32), (decode cc pc = .ok (.invokevirtual pz_key.2, 3)) → (own = 7) → (6 ≤ d) → (0 ≤ x.toInt ∧ x.toInt < 65536) → (st.length ≤ 3) → (P (pc + 3) ls (.int (pz_ix x) :: st) h nc ns) → P pc ls (.int x :: .ref en.2.2.2 :: st) h nc ns
def pz_r_callv (d : Nat) (en : pz_Env) (C : pz_C) (own : Nat) (cc : ByteArray) (nL : Nat) (rt : Option FieldType) (hh : List (Nat × Nat × Nat × Nat)) (ini : Bool) (Q : pz_Q) (P : pz_P) : Prop := ∀ (pc : Nat) (ls : List (Option Value)) (st : List Value) (h : pz_H) (nc ns : Nat) (ix b : Nat) (as rest : List Value) (fs : List Value) (mc ms : Nat) (y : Nat) (yn : MethodName) (bs : ByteArray) (mL : Nat) (mr : Option FieldType) (mo np : Nat) (ps : List Nat), (decode cc pc = .ok (.invokevirtual ix, 3)) → (pz_mth own ix = some y) → (pz_tab y = some (yn, bs, mL, mr, mo, np, 1, [], ps)) → (st = as.reverse ++ .ref b :: rest) → (as.length = np) → (h b = some (.inr (mo, fs))) → (rest.length ≤ 3) → (mo < 8) → (C y (.ref b :: as) h mc ms (fun o h2 => match o with | .inl v => P (pc + 3) ls (v.toList ++ rest) h2 nc ns | .inr E => ∃ tgt, pz_hnd own hh pc E = some tgt ∧ ∀ q, P tgt ls [.ref q] h2 nc ns)) → P pc ls st h (nc + mc) (ns + ms)
def pz_r_calls (d : Nat) (en : pz_Env) (C : pz_C) (own : Nat) (cc : ByteArray) (nL : Nat) (rt : Option FieldType) (hh : List (Nat × Nat × Nat × Nat)) (ini : Bool) (Q : pz_Q) (P : pz_P) : Prop := ∀ (pc : Nat) (ls : List (Option Value)) (st : List Value) (h : pz_H) (nc ns : Nat) (ix : Nat) (as rest : List Value) (mc ms : Nat) (y : Nat) (yn : MethodName) (bs : ByteArray) (mL : Nat) (mr : Option FieldType) (mo np : Nat) (mh : List (Nat × Nat × Nat × Nat)) (ps : List Nat), (decode cc pc = .ok (.invokestatic ix, 3)) → (pz_mth own ix = some y) → (pz_tab y = some (yn, bs, mL, mr, mo, np, 0, mh, ps)) → (st = as.reverse ++ rest) → (as.length = np) → (rest.length ≤ 3) → (C y as h mc ms (fun o h2 => match o with | .inl v => P (pc + 3) ls (v.toList ++ rest) h2 nc ns | .inr E => ∃ tgt, pz_hnd own hh pc E = some tgt ∧ ∀ q, P tgt ls [.ref q] h2 nc ns)) → P pc ls st h (nc + mc) (ns + ms)
def pz_r_calli (d : Nat) (en : pz_Env) (C : pz_C) (own : Nat) (cc : ByteArray) (nL : Nat) (rt : Option FieldType) (hh : List (Nat × Nat × Nat × Nat)) (ini : Bool) (Q : pz_Q) (P : pz_P) : Prop := ∀ (pc : Nat) (ls : List (Option Value)) (st : List Value) (h : pz_H) (nc ns : Nat) (ix b : Nat) (as rest : List Value) (mc ms : Nat) (y : Nat) (yn : MethodName) (bs : ByteArray) (mL : Nat) (mo np : Nat) (ps : List Nat), (decode cc pc = .ok (.invokespecial ix, 3)) → (pz_mth own ix = some y) → (pz_tab y = some (yn, bs, mL, none, mo, np, 2, [], ps)) → (st = as.reverse ++ .ref b :: rest) → (as.length = np) → (rest.length ≤ 3) → (C y (.ref b :: as) h mc ms (fun o h2 => o = .inl none ∧ P (pc + 3) ls rest h2 nc ns)) → P pc ls st h (nc + mc) (ns + ms)
def pz_r_calln (d : Nat) (en : pz_Env) (C : pz_C) (own : Nat) (cc : ByteArray) (nL : Nat) (rt : Option FieldType) (hh : List (Nat × Nat × Nat × Nat)) (ini : Bool) (Q : pz_Q) (P : pz_P) : Prop := ∀ (pc : Nat) (ls : List (Option Value)) (st : List Value) (h : pz_H) (nc ns : Nat) (ix b : Nat) (as rest : List Value) (mc ms : Nat) (y : Nat) (yn : MethodName) (bs : ByteArray) (mL : Nat) (mo np : Nat) (ps : List Nat), (decode cc pc = .ok (.invokespecial ix, 3)) → (pz_nest own ix = some y) → (pz_tab y = some (yn, bs, mL, none, mo, np, 2, [], ps)) → (st = as.reverse ++ .ref b :: rest) → (as.length = np) → (rest.length ≤ 3) → (C y (.ref b :: as) h mc ms (fun o h2 => o = .inl none ∧ P (pc + 3) ls rest h2 nc ns)) → P pc ls st h (nc + mc) (ns + ms)
def pz_r_iret (d : Nat) (en : pz_Env) (C : pz_C) (own : Nat) (cc : ByteArray) (nL : Nat) (rt : Option FieldType) (hh : List (Nat × Nat × Nat × Nat)) (ini : Bool) (Q : pz_Q) (P : pz_P) : Prop := ∀ (pc : Nat) (ls : List (Option Value)) (st : List Value) (h : pz_H) (nc ns : Nat) (v : Int32) (ty : FieldType), (decode cc pc = .ok (.ireturn, 1)) → (rt = some ty) → (narrow ty (.int v) = .int v) → (Q (.inl (some (.int v))) h) → P pc ls [.int v] h nc ns
def pz_r_vret (d : Nat) (en : pz_Env) (C : pz_C) (own : Nat) (cc : ByteArray) (nL : Nat) (rt : Option FieldType) (hh : List (Nat × Nat × Nat × Nat)) (ini : Bool) (Q : pz_Q) (P : pz_P) : Prop := ∀ (pc : Nat) (ls : List (Option Value)) (st : List Value) (h : pz_H) (nc ns : Nat), (decode cc pc = .ok (.return_, 1)) → (rt = none) → (Q (.inl none) h) → P pc ls [] h nc ns
def pz_r_aret (d : Nat) (en : pz_Env) (C : pz_C) (own : Nat) (cc : ByteArray) (nL : Nat) (rt : Option FieldType) (hh : List (Nat × Nat × Nat × Nat)) (ini : Bool) (Q : pz_Q) (P : pz_P) : Prop := ∀ (pc : Nat) (ls : List (Option Value)) (st : List Value) (h : pz_H) (nc ns : Nat) (a : Nat) (ty : FieldType), (decode cc pc = .ok (.areturn, 1)) → (rt = some (.array ty)) → (Q (.inl (some (.ref a))) h) → P pc ls [.ref a] h nc ns
def pz_r_dret (d : Nat) (en : pz_Env) (C : pz_C) (own : Nat) (cc : ByteArray) (nL : Nat) (rt : Option FieldType) (hh : List (Nat × Nat × Nat × Nat)) (ini : Bool) (Q : pz_Q) (P : pz_P) : Prop := ∀ (pc : Nat) (ls : List (Option Value)) (st : List Value) (h : pz_H) (nc ns : Nat) (v : UInt64), (decode cc pc = .ok (.dreturn, 1)) → (rt = some .double) → (Q (.inl (some (.double v))) h) → P pc ls [.double v] h nc ns
def pz_r_thr (d : Nat) (en : pz_Env) (C : pz_C) (own : Nat) (cc : ByteArray) (nL : Nat) (rt : Option FieldType) (hh : List (Nat × Nat × Nat × Nat)) (ini : Bool) (Q : pz_Q) (P : pz_P) : Prop := ∀ (pc : Nat) (ls : List (Option Value)) (st : List Value) (h : pz_H) (nc ns : Nat) (ik ic is : Nat) (E tx : String), (decode cc pc = .ok (.new ik, 3)) → (decode cc (pc + 3) = .ok (.dup, 1)) → (decode cc (pc + 4) = .ok (.ldc is, 2)) → (decode cc (pc + 6) = .ok (.invokespecial ic, 3)) → (decode cc (pc + 9) = .ok (.athrow, 1)) → (pz_exc own ik = some (E, ic)) → (pz_str is = some tx) → (own = 6) → (6 ≤ d) → (hh = []) → (Q (.inr E) h) → P pc ls [] h (nc + 1) (ns + 6)
def pz_r_thrw (d : Nat) (en : pz_Env) (C : pz_C) (own : Nat) (cc : ByteArray) (nL : Nat) (rt : Option FieldType) (hh : List (Nat × Nat × Nat × Nat)) (ini : Bool) (Q : pz_Q) (P : pz_P) : Prop := ∀ (pc : Nat) (ls : List (Option Value)) (st : List Value) (h : pz_H) (nc ns : Nat) (ik ic is : Nat) (E tx : String), (decode cc pc = .ok (.new ik, 3)) → (decode cc (pc + 3) = .ok (.dup, 1)) → (decode cc (pc + 4) = .ok (.ldc_w is, 3)) → (decode cc (pc + 7) = .ok (.invokespecial ic, 3)) → (decode cc (pc + 10) = .ok (.athrow, 1)) → (pz_exc own ik = some (E, ic)) → (pz_str is = some tx) → (own = 6) → (6 ≤ d) → (hh = []) → (Q (.inr E) h) → P pc ls [] h (nc + 1) (ns + 6)
def pz_r_forget (d : Nat) (en : pz_Env) (C : pz_C) (own : Nat) (cc : ByteArray) (nL : Nat) (rt : Option FieldType) (hh : List (Nat × Nat × Nat × Nat)) (ini : Bool) (Q : pz_Q) (P : pz_P) : Prop := ∀ (pc : Nat) (ls : List (Option Value)) (st : List Value) (h : pz_H) (nc ns : Nat) (ls2 : List (Option Value)), (∀ (i : Nat) (v : Value), ls2[i]? = some (some v) → ls[i]? = some (some v)) → (P pc ls2 st h nc ns) → P pc ls st h nc ns
def pz_Cl (d : Nat) (en : pz_Env) (C : pz_C) (own : Nat) (cc : ByteArray) (nL : Nat) (rt : Option FieldType) (hh : List (Nat × Nat × Nat × Nat)) (ini : Bool) (Q : pz_Q) (P : pz_P) : Prop := pz_r_iconst d en C own cc nL rt hh ini Q P ∧ pz_r_bipush d en C own cc nL rt hh ini Q P ∧ pz_r_sipush d en C own cc nL rt hh ini Q P ∧ pz_r_lconst d en C own cc nL rt hh ini Q P ∧ pz_r_ldc d en C own cc nL rt hh ini Q P ∧ pz_r_ldcw d en C own cc nL rt hh ini Q P ∧ pz_r_ldc2 d en C own cc nL rt hh ini Q P ∧ pz_r_ldcs d en C own cc nL rt hh ini Q P ∧ pz_r_iload_n d en C own cc nL rt hh ini Q P ∧ pz_r_iload d en C own cc nL rt hh ini Q P ∧ pz_r_istore_n d en C own cc nL rt hh ini Q P ∧ pz_r_istore d en C own cc nL rt hh ini Q P ∧ pz_r_aload_n d en C own cc nL rt hh ini Q P ∧ pz_r_aload d en C own cc nL rt hh ini Q P ∧ pz_r_astore_n d en C own cc nL rt hh ini Q P ∧ pz_r_astore d en C own cc nL rt hh ini Q P ∧ pz_r_dload d en C own cc nL rt hh ini Q P ∧ pz_r_dstore d en C own cc nL rt hh ini Q P ∧ pz_r_iinc d en C own cc nL rt hh ini Q P ∧ pz_r_iadd d en C own cc nL rt hh ini Q P ∧ pz_r_isub d en C own cc nL rt hh ini Q P ∧ pz_r_imul d en C own cc nL rt hh ini Q P ∧ pz_r_iand d en C own cc nL rt hh ini Q P ∧ pz_r_ior d en C own cc nL rt hh ini Q P ∧ pz_r_ishl d en C own cc nL rt hh ini Q P ∧ pz_r_iushr d en C own cc nL rt hh ini Q P ∧ pz_r_idiv d en C own cc nL rt hh ini Q P ∧ pz_r_irem d en C own cc nL rt hh ini Q P ∧ pz_r_ineg d en C own cc nL rt hh ini Q P ∧ pz_r_i2l d en C own cc nL rt hh ini Q P ∧ pz_r_i2c d en C own cc nL rt hh ini Q P ∧ pz_r_i2d d en C own cc nL rt hh ini Q P ∧ pz_r_ddiv d en C own cc nL rt hh ini Q P ∧ pz_r_dcmp d en C own cc nL rt hh ini Q P ∧ pz_r_lcmp d en C own cc nL rt hh ini Q P ∧ pz_r_dup d en C own cc nL rt hh ini Q P ∧ pz_r_dup2 d en C own cc nL rt hh ini Q P ∧ pz_r_pop d en C own cc nL rt hh ini Q P ∧ pz_r_if_eq d en C own cc nL rt hh ini Q P ∧ pz_r_if_ne d en C own cc nL rt hh ini Q P ∧ pz_r_if_lt d en C own cc nL rt hh ini Q P ∧ pz_r_if_ge d en C own cc nL rt hh ini Q P ∧ pz_r_if_gt d en C own cc nL rt hh ini Q P ∧ pz_r_if_le d en C own cc nL rt hh ini Q P ∧ pz_r_icmp_eq d en C own cc nL rt hh ini Q P ∧ pz_r_icmp_ne d en C own cc nL rt hh ini Q P ∧ pz_r_icmp_lt d en C own cc nL rt hh ini Q P ∧ pz_r_icmp_ge d en C own cc nL rt hh ini Q P ∧ pz_r_icmp_gt d en C own cc nL rt hh ini Q P ∧ pz_r_icmp_le d en C own cc nL rt hh ini Q P ∧ pz_r_goto d en C own cc nL rt hh ini Q P ∧ pz_r_tsin d en C own cc nL rt hh ini Q P ∧ pz_r_tsout d en C own cc nL rt hh ini Q P ∧ pz_r_lsw d en C own cc nL rt hh ini Q P ∧ pz_r_getf d en C own cc nL rt hh ini Q P ∧ pz_r_putf d en C own cc nL rt hh ini Q P ∧ pz_r_new d en C own cc nL rt hh ini Q P ∧ pz_r_newai d en C own cc nL rt hh ini Q P ∧ pz_r_newac d en C own cc nL rt hh ini Q P ∧ pz_r_newal d en C own cc nL rt hh ini Q P ∧ pz_r_newaq d en C own cc nL rt hh ini Q P ∧ pz_r_iald d en C own cc nL rt hh ini Q P ∧ pz_r_cald d en C own cc nL rt hh ini Q P ∧ pz_r_lald d en C own cc nL rt hh ini Q P ∧ pz_r_aald d en C own cc nL rt hh ini Q P ∧ pz_r_iast d en C own cc nL rt hh ini Q P ∧ pz_r_cast d en C own cc nL rt hh ini Q P ∧ pz_r_last d en C own cc nL rt hh ini Q P ∧ pz_r_aast d en C own cc nL rt hh ini Q P ∧ pz_r_slen d en C own cc nL rt hh ini Q P ∧ pz_r_sld d en C own cc nL rt hh ini Q P ∧ pz_r_copy d en C own cc nL rt hh ini Q P ∧ pz_r_max d en C own cc nL rt hh ini Q P ∧ pz_r_min d en C own cc nL rt hh ini Q P ∧ pz_r_obj d en C own cc nL rt hh ini Q P ∧ pz_r_idx d en C own cc nL rt hh ini Q P ∧ pz_r_callv d en C own cc nL rt hh ini Q P ∧ pz_r_calls d en C own cc nL rt hh ini Q P ∧ pz_r_calli d en C own cc nL rt hh ini Q P ∧ pz_r_calln d en C own cc nL rt hh ini Q P ∧ pz_r_iret d en C own cc nL rt hh ini Q P ∧ pz_r_vret d en C own cc nL rt hh ini Q P ∧ pz_r_aret d en C own cc nL rt hh ini Q P ∧ pz_r_dret d en C own cc nL rt hh ini Q P ∧ pz_r_thr d en C own cc nL rt hh ini Q P ∧ pz_r_thrw d en C own cc nL rt hh ini Q P ∧ pz_r_forget d en C own cc nL rt hh ini Q P
def pz_WP (d : Nat) (en : pz_Env) (C : pz_C) (own : Nat) (cc : ByteArray) (nL : Nat) (rt : Option FieldType) (hh : List (Nat × Nat × Nat × Nat)) (ini : Bool) (Q : pz_Q) (pc : Nat) (ls : List (Option Value)) (st : List Value) (h : pz_H) (nc ns : Nat) : Prop := ∀ P : pz_P, pz_Cl d en C own cc nL rt hh ini Q P → P pc ls st h nc ns
section pz_rows
variable {d : Nat} {en : pz_Env} {C : pz_C} {own : Nat} {cc : ByteArray} {nL : Nat} {rt : Option FieldType} {hh : List (Nat × Nat × Nat × Nat)} {ini : Bool} {Q : pz_Q}
variable {pc : Nat} {ls : List (Option Value)} {st : List Value} {h : pz_H} {nc ns : Nat}
theorem pr_iconst {n : Int} {v : Int32} (hd : decode cc pc = .ok (.iconst n, 1)) (hv : Int32.ofInt n = v) (k : pz_WP d en C own cc nL rt hh ini Q (pc + 1) ls (.int v :: st) h nc ns) : pz_WP d en C own cc nL rt hh ini Q pc ls st h nc ns := fun P hP => hP.1 _ _ _ _ _ _ n v hd hv (k P hP)
theorem pr_bipush {n : Int} {v : Int32} (hd : decode cc pc = .ok (.bipush n, 2)) (hv : (Int8.ofInt n).toInt32 = v) (k : pz_WP d en C own cc nL rt hh ini Q (pc + 2) ls (.int v :: st) h nc ns) : pz_WP d en C own cc nL rt hh ini Q pc ls st h nc ns := fun P hP => hP.2.1 _ _ _ _ _ _ n v hd hv (k P hP)
theorem pr_sipush {n : Int} {v : Int32} (hd : decode cc pc = .ok (.sipush n, 3)) (hv : (Int16.ofInt n).toInt32 = v) (k : pz_WP d en C own cc nL rt hh ini Q (pc + 3) ls (.int v :: st) h nc ns) : pz_WP d en C own cc nL rt hh ini Q pc ls st h nc ns := fun P hP => hP.2.2.1 _ _ _ _ _ _ n v hd hv (k P hP)
theorem pr_lconst {n : Fin 2} {v : Int64} (hd : decode cc pc = .ok (.lconst n, 1)) (hv : Int64.ofNat (n : Nat) = v) (k : pz_WP d en C own cc nL rt hh ini Q (pc + 1) ls (.long v :: st) h nc ns) : pz_WP d en C own cc nL rt hh ini Q pc ls st h nc ns := fun P hP => hP.2.2.2.1 _ _ _ _ _ _ n v hd hv (k P hP)
theorem pr_ldc {i : Nat} {v : Int32} (hd : decode cc pc = .ok (.ldc i, 2)) (hc : pz_cst own i = some v) (k : pz_WP d en C own cc nL rt hh ini Q (pc + 2) ls (.int v :: st) h nc ns) : pz_WP d en C own cc nL rt hh ini Q pc ls st h nc ns := fun P hP => hP.2.2.2.2.1 _ _ _ _ _ _ i v hd hc (k P hP)
theorem pr_ldcw {i : Nat} {v : Int32} (hd : decode cc pc = .ok (.ldc_w i, 3)) (hc : pz_cst own i = some v) (k : pz_WP d en C own cc nL rt hh ini Q (pc + 3) ls (.int v :: st) h nc ns) : pz_WP d en C own cc nL rt hh ini Q pc ls st h nc ns := fun P hP => hP.2.2.2.2.2.1 _ _ _ _ _ _ i v hd hc (k P hP)
theorem pr_ldc2 {i : Nat} {v : UInt64} (hd : decode cc pc = .ok (.ldc2_w i, 3)) (hc : pz_dbl own i = some v) (k : pz_WP d en C own cc nL rt hh ini Q (pc + 3) ls (.double v :: st) h nc ns) : pz_WP d en C own cc nL rt hh ini Q pc ls st h nc ns := fun P hP => hP.2.2.2.2.2.2.1 _ _ _ _ _ _ i v hd hc (k P hP)
theorem pr_ldcs  (hd : decode cc pc = .ok (.ldc pz_key.1, 2)) (ho : own = 7) (k : pz_WP d en C own cc nL rt hh ini Q (pc + 2) ls (.ref en.2.2.2 :: st) h nc ns) : pz_WP d en C own cc nL rt hh ini Q pc ls st h nc ns := fun P hP => hP.2.2.2.2.2.2.2.1 _ _ _ _ _ _ hd ho (k P hP)
theorem pr_iload_n {n : Fin 4} {x : Int32} (hd : decode cc pc = .ok (.iload_n n, 1)) (hl : ls[(n : Nat)]? = some (some (.int x))) (k : pz_WP d en C own cc nL rt hh ini Q (pc + 1) ls (.int x :: st) h nc ns) : pz_WP d en C own cc nL rt hh ini Q pc ls st h nc ns := fun P hP => hP.2.2.2.2.2.2.2.2.1 _ _ _ _ _ _ n x hd hl (k P hP)
theorem pr_iload {i : Nat} {x : Int32} (hd : decode cc pc = .ok (.iload i, 2)) (hl : ls[i]? = some (some (.int x))) (k : pz_WP d en C own cc nL rt hh ini Q (pc + 2) ls (.int x :: st) h nc ns) : pz_WP d en C own cc nL rt hh ini Q pc ls st h nc ns := fun P hP => hP.2.2.2.2.2.2.2.2.2.1 _ _ _ _ _ _ i x hd hl (k P hP)
theorem pr_istore_n {n : Fin 4} {x : Int32} (hd : decode cc pc = .ok (.istore_n n, 1)) (hn : (n : Nat) < nL) (ho : pz_ok ls (n : Nat) = true) (k : pz_WP d en C own cc nL rt hh ini Q (pc + 1) (ls.set (n : Nat) (some (.int x))) st h nc ns) : pz_WP d en C own cc nL rt hh ini Q pc ls (.int x :: st) h nc ns := fun P hP => hP.2.2.2.2.2.2.2.2.2.2.1 _ _ _ _ _ _ n x hd hn ho (k P hP)
theorem pr_istore {i : Nat} {x : Int32} (hd : decode cc pc = .ok (.istore i, 2)) (hn : i < nL) (ho : pz_ok ls i = true) (k : pz_WP d en C own cc nL rt hh ini Q (pc + 2) (ls.set i (some (.int x))) st h nc ns) : pz_WP d en C own cc nL rt hh ini Q pc ls (.int x :: st) h nc ns := fun P hP => hP.2.2.2.2.2.2.2.2.2.2.2.1 _ _ _ _ _ _ i x hd hn ho (k P hP)
theorem pr_aload_n {n : Fin 4} {x : Nat} (hd : decode cc pc = .ok (.aload_n n, 1)) (hl : ls[(n : Nat)]? = some (some (.ref x))) (k : pz_WP d en C own cc nL rt hh ini Q (pc + 1) ls (.ref x :: st) h nc ns) : pz_WP d en C own cc nL rt hh ini Q pc ls st h nc ns := fun P hP => hP.2.2.2.2.2.2.2.2.2.2.2.2.1 _ _ _ _ _ _ n x hd hl (k P hP)
theorem pr_aload {i : Nat} {x : Nat} (hd : decode cc pc = .ok (.aload i, 2)) (hl : ls[i]? = some (some (.ref x))) (k : pz_WP d en C own cc nL rt hh ini Q (pc + 2) ls (.ref x :: st) h nc ns) : pz_WP d en C own cc nL rt hh ini Q pc ls st h nc ns := fun P hP => hP.2.2.2.2.2.2.2.2.2.2.2.2.2.1 _ _ _ _ _ _ i x hd hl (k P hP)
theorem pr_astore_n {n : Fin 4} {x : Nat} (hd : decode cc pc = .ok (.astore_n n, 1)) (hn : (n : Nat) < nL) (ho : pz_ok ls (n : Nat) = true) (k : pz_WP d en C own cc nL rt hh ini Q (pc + 1) (ls.set (n : Nat) (some (.ref x))) st h nc ns) : pz_WP d en C own cc nL rt hh ini Q pc ls (.ref x :: st) h nc ns := fun P hP => hP.2.2.2.2.2.2.2.2.2.2.2.2.2.2.1 _ _ _ _ _ _ n x hd hn ho (k P hP)
theorem pr_astore {i : Nat} {x : Nat} (hd : decode cc pc = .ok (.astore i, 2)) (hn : i < nL) (ho : pz_ok ls i = true) (k : pz_WP d en C own cc nL rt hh ini Q (pc + 2) (ls.set i (some (.ref x))) st h nc ns) : pz_WP d en C own cc nL rt hh ini Q pc ls (.ref x :: st) h nc ns := fun P hP => hP.2.2.2.2.2.2.2.2.2.2.2.2.2.2.2.1 _ _ _ _ _ _ i x hd hn ho (k P hP)
theorem pr_dload {i : Nat} {x : UInt64} (hd : decode cc pc = .ok (.dload i, 2)) (hl : ls[i]? = some (some (.double x))) (k : pz_WP d en C own cc nL rt hh ini Q (pc + 2) ls (.double x :: st) h nc ns) : pz_WP d en C own cc nL rt hh ini Q pc ls st h nc ns := fun P hP => hP.2.2.2.2.2.2.2.2.2.2.2.2.2.2.2.2.1 _ _ _ _ _ _ i x hd hl (k P hP)
theorem pr_dstore {i : Nat} {x : UInt64} (hd : decode cc pc = .ok (.dstore i, 2)) (hn : i + 1 < nL) (ho : pz_ok ls i = true) (k : pz_WP d en C own cc nL rt hh ini Q (pc + 2) ((ls.set i (some (.double x))).set (i + 1) none) st h nc ns) : pz_WP d en C own cc nL rt hh ini Q pc ls (.double x :: st) h nc ns := fun P hP => hP.2.2.2.2.2.2.2.2.2.2.2.2.2.2.2.2.2.1 _ _ _ _ _ _ i x hd hn ho (k P hP)
theorem pr_iinc {i : Nat} {n : Int} {x v : Int32} (hd : decode cc pc = .ok (.iinc i n, 3)) (hl : ls[i]? = some (some (.int x))) (hn : i < nL) (ho : pz_ok ls i = true) (hv : x + Int32.ofInt n = v) (k : pz_WP d en C own cc nL rt hh ini Q (pc + 3) (ls.set i (some (.int v))) st h nc ns) : pz_WP d en C own cc nL rt hh ini Q pc ls st h nc ns := fun P hP => hP.2.2.2.2.2.2.2.2.2.2.2.2.2.2.2.2.2.2.1 _ _ _ _ _ _ i n x v hd hl hn ho hv (k P hP)
theorem pr_iadd {x y : Int32} (hd : decode cc pc = .ok (.iadd, 1)) (k : pz_WP d en C own cc nL rt hh ini Q (pc + 1) ls (.int (x + y) :: st) h nc ns) : pz_WP d en C own cc nL rt hh ini Q pc ls (.int y :: .int x :: st) h nc ns := fun P hP => hP.2.2.2.2.2.2.2.2.2.2.2.2.2.2.2.2.2.2.2.1 _ _ _ _ _ _ x y hd (k P hP)
theorem pr_isub {x y : Int32} (hd : decode cc pc = .ok (.isub, 1)) (k : pz_WP d en C own cc nL rt hh ini Q (pc + 1) ls (.int (x - y) :: st) h nc ns) : pz_WP d en C own cc nL rt hh ini Q pc ls (.int y :: .int x :: st) h nc ns := fun P hP => hP.2.2.2.2.2.2.2.2.2.2.2.2.2.2.2.2.2.2.2.2.1 _ _ _ _ _ _ x y hd (k P hP)
theorem pr_imul {x y : Int32} (hd : decode cc pc = .ok (.imul, 1)) (k : pz_WP d en C own cc nL rt hh ini Q (pc + 1) ls (.int (x * y) :: st) h nc ns) : pz_WP d en C own cc nL rt hh ini Q pc ls (.int y :: .int x :: st) h nc ns := fun P hP => hP.2.2.2.2.2.2.2.2.2.2.2.2.2.2.2.2.2.2.2.2.2.1 _ _ _ _ _ _ x y hd (k P hP)
theorem pr_iand {x y : Int32} (hd : decode cc pc = .ok (.iand, 1)) (k : pz_WP d en C own cc nL rt hh ini Q (pc + 1) ls (.int (x &&& y) :: st) h nc ns) : pz_WP d en C own cc nL rt hh ini Q pc ls (.int y :: .int x :: st) h nc ns := fun P hP => hP.2.2.2.2.2.2.2.2.2.2.2.2.2.2.2.2.2.2.2.2.2.2.1 _ _ _ _ _ _ x y hd (k P hP)
theorem pr_ior {x y : Int32} (hd : decode cc pc = .ok (.ior, 1)) (k : pz_WP d en C own cc nL rt hh ini Q (pc + 1) ls (.int (x ||| y) :: st) h nc ns) : pz_WP d en C own cc nL rt hh ini Q pc ls (.int y :: .int x :: st) h nc ns := fun P hP => hP.2.2.2.2.2.2.2.2.2.2.2.2.2.2.2.2.2.2.2.2.2.2.2.1 _ _ _ _ _ _ x y hd (k P hP)
theorem pr_ishl {x y : Int32} (hd : decode cc pc = .ok (.ishl, 1)) (k : pz_WP d en C own cc nL rt hh ini Q (pc + 1) ls (.int (x <<< (y &&& 31)) :: st) h nc ns) : pz_WP d en C own cc nL rt hh ini Q pc ls (.int y :: .int x :: st) h nc ns := fun P hP => hP.2.2.2.2.2.2.2.2.2.2.2.2.2.2.2.2.2.2.2.2.2.2.2.2.1 _ _ _ _ _ _ x y hd (k P hP)
theorem pr_iushr {x y : Int32} (hd : decode cc pc = .ok (.iushr, 1)) (k : pz_WP d en C own cc nL rt hh ini Q (pc + 1) ls (.int ((x.toUInt32 >>> (y.toUInt32 &&& Int32.toUInt32 31)).toInt32) :: st) h nc ns) : pz_WP d en C own cc nL rt hh ini Q pc ls (.int y :: .int x :: st) h nc ns := fun P hP => hP.2.2.2.2.2.2.2.2.2.2.2.2.2.2.2.2.2.2.2.2.2.2.2.2.2.1 _ _ _ _ _ _ x y hd (k P hP)
theorem pr_idiv {x y : Int32} (hd : decode cc pc = .ok (.idiv, 1)) (hne : ¬ y = 0) (k : pz_WP d en C own cc nL rt hh ini Q (pc + 1) ls (.int (x / y) :: st) h nc ns) : pz_WP d en C own cc nL rt hh ini Q pc ls (.int y :: .int x :: st) h nc ns := fun P hP => hP.2.2.2.2.2.2.2.2.2.2.2.2.2.2.2.2.2.2.2.2.2.2.2.2.2.2.1 _ _ _ _ _ _ x y hd hne (k P hP)
theorem pr_irem {x y : Int32} (hd : decode cc pc = .ok (.irem, 1)) (hne : ¬ y = 0) (k : pz_WP d en C own cc nL rt hh ini Q (pc + 1) ls (.int (x - x / y * y) :: st) h nc ns) : pz_WP d en C own cc nL rt hh ini Q pc ls (.int y :: .int x :: st) h nc ns := fun P hP => hP.2.2.2.2.2.2.2.2.2.2.2.2.2.2.2.2.2.2.2.2.2.2.2.2.2.2.2.1 _ _ _ _ _ _ x y hd hne (k P hP)
theorem pr_ineg {x : Int32} (hd : decode cc pc = .ok (.ineg, 1)) (k : pz_WP d en C own cc nL rt hh ini Q (pc + 1) ls (.int (-x) :: st) h nc ns) : pz_WP d en C own cc nL rt hh ini Q pc ls (.int x :: st) h nc ns := fun P hP => hP.2.2.2.2.2.2.2.2.2.2.2.2.2.2.2.2.2.2.2.2.2.2.2.2.2.2.2.2.1 _ _ _ _ _ _ x hd (k P hP)
theorem pr_i2l {x : Int32} (hd : decode cc pc = .ok (.i2l, 1)) (k : pz_WP d en C own cc nL rt hh ini Q (pc + 1) ls (.long x.toInt64 :: st) h nc ns) : pz_WP d en C own cc nL rt hh ini Q pc ls (.int x :: st) h nc ns := fun P hP => hP.2.2.2.2.2.2.2.2.2.2.2.2.2.2.2.2.2.2.2.2.2.2.2.2.2.2.2.2.2.1 _ _ _ _ _ _ x hd (k P hP)
theorem pr_i2c {x : Int32} (hd : decode cc pc = .ok (.i2c, 1)) (k : pz_WP d en C own cc nL rt hh ini Q (pc + 1) ls (.int (x.toUInt32 % 65536).toInt32 :: st) h nc ns) : pz_WP d en C own cc nL rt hh ini Q pc ls (.int x :: st) h nc ns := fun P hP => hP.2.2.2.2.2.2.2.2.2.2.2.2.2.2.2.2.2.2.2.2.2.2.2.2.2.2.2.2.2.2.1 _ _ _ _ _ _ x hd (k P hP)
theorem pr_i2d {x : Int32} (hd : decode cc pc = .ok (.i2d, 1)) (k : pz_WP d en C own cc nL rt hh ini Q (pc + 1) ls (.double (FP.i2d x) :: st) h nc ns) : pz_WP d en C own cc nL rt hh ini Q pc ls (.int x :: st) h nc ns := fun P hP => hP.2.2.2.2.2.2.2.2.2.2.2.2.2.2.2.2.2.2.2.2.2.2.2.2.2.2.2.2.2.2.2.1 _ _ _ _ _ _ x hd (k P hP)
theorem pr_ddiv {x y : UInt64} (hd : decode cc pc = .ok (.ddiv, 1)) (hne : vf_n64 (FP.ddiv x y)) (k : pz_WP d en C own cc nL rt hh ini Q (pc + 1) ls (.double (FP.ddiv x y) :: st) h nc ns) : pz_WP d en C own cc nL rt hh ini Q pc ls (.double y :: .double x :: st) h nc ns := fun P hP => hP.2.2.2.2.2.2.2.2.2.2.2.2.2.2.2.2.2.2.2.2.2.2.2.2.2.2.2.2.2.2.2.2.1 _ _ _ _ _ _ x y hd hne (k P hP)
theorem pr_dcmp {x y : UInt64} {op : CmpOp} (hd : decode cc pc = .ok (.dcmp op, 1)) (k : pz_WP d en C own cc nL rt hh ini Q (pc + 1) ls (.int (Op.cmpValue (FP.dcmp x y) op) :: st) h nc ns) : pz_WP d en C own cc nL rt hh ini Q pc ls (.double y :: .double x :: st) h nc ns := fun P hP => hP.2.2.2.2.2.2.2.2.2.2.2.2.2.2.2.2.2.2.2.2.2.2.2.2.2.2.2.2.2.2.2.2.2.1 _ _ _ _ _ _ x y op hd (k P hP)
theorem pr_lcmp {x y : Int64} (hd : decode cc pc = .ok (.lcmp, 1)) (k : pz_WP d en C own cc nL rt hh ini Q (pc + 1) ls (.int (lg_cmp x y) :: st) h nc ns) : pz_WP d en C own cc nL rt hh ini Q pc ls (.long y :: .long x :: st) h nc ns := fun P hP => hP.2.2.2.2.2.2.2.2.2.2.2.2.2.2.2.2.2.2.2.2.2.2.2.2.2.2.2.2.2.2.2.2.2.2.1 _ _ _ _ _ _ x y hd (k P hP)
theorem pr_dup {v : Value} (hd : decode cc pc = .ok (.dup, 1)) (hc : v.category = 1) (k : pz_WP d en C own cc nL rt hh ini Q (pc + 1) ls (v :: v :: st) h nc ns) : pz_WP d en C own cc nL rt hh ini Q pc ls (v :: st) h nc ns := fun P hP => hP.2.2.2.2.2.2.2.2.2.2.2.2.2.2.2.2.2.2.2.2.2.2.2.2.2.2.2.2.2.2.2.2.2.2.2.1 _ _ _ _ _ _ v hd hc (k P hP)
theorem pr_dup2 {v u : Value} (hd : decode cc pc = .ok (.dup2, 1)) (hc : v.category = 1) (hc2 : u.category = 1) (k : pz_WP d en C own cc nL rt hh ini Q (pc + 1) ls (v :: u :: v :: u :: st) h nc ns) : pz_WP d en C own cc nL rt hh ini Q pc ls (v :: u :: st) h nc ns := fun P hP => hP.2.2.2.2.2.2.2.2.2.2.2.2.2.2.2.2.2.2.2.2.2.2.2.2.2.2.2.2.2.2.2.2.2.2.2.2.1 _ _ _ _ _ _ v u hd hc hc2 (k P hP)
theorem pr_pop {v : Value} (hd : decode cc pc = .ok (.pop, 1)) (hc : v.category = 1) (k : pz_WP d en C own cc nL rt hh ini Q (pc + 1) ls st h nc ns) : pz_WP d en C own cc nL rt hh ini Q pc ls (v :: st) h nc ns := fun P hP => hP.2.2.2.2.2.2.2.2.2.2.2.2.2.2.2.2.2.2.2.2.2.2.2.2.2.2.2.2.2.2.2.2.2.2.2.2.2.1 _ _ _ _ _ _ v hd hc (k P hP)
theorem pr_if_eq {x : Int32} {off : Int} {tgt : Nat} (hd : decode cc pc = .ok (.ifCond .eq off, 3)) (ht : (pc : Int) + off = (tgt : Int)) (kt : x = 0 → pz_WP d en C own cc nL rt hh ini Q tgt ls st h nc ns) (kf : ¬ x = 0 → pz_WP d en C own cc nL rt hh ini Q (pc + 3) ls st h nc ns) : pz_WP d en C own cc nL rt hh ini Q pc ls (.int x :: st) h nc ns := fun P hP => hP.2.2.2.2.2.2.2.2.2.2.2.2.2.2.2.2.2.2.2.2.2.2.2.2.2.2.2.2.2.2.2.2.2.2.2.2.2.2.1 _ _ _ _ _ _ x off tgt hd ht (fun z => kt z P hP) (fun z => kf z P hP)
theorem pr_if_ne {x : Int32} {off : Int} {tgt : Nat} (hd : decode cc pc = .ok (.ifCond .ne off, 3)) (ht : (pc : Int) + off = (tgt : Int)) (kt : ¬ x = 0 → pz_WP d en C own cc nL rt hh ini Q tgt ls st h nc ns) (kf : x = 0 → pz_WP d en C own cc nL rt hh ini Q (pc + 3) ls st h nc ns) : pz_WP d en C own cc nL rt hh ini Q pc ls (.int x :: st) h nc ns := fun P hP => hP.2.2.2.2.2.2.2.2.2.2.2.2.2.2.2.2.2.2.2.2.2.2.2.2.2.2.2.2.2.2.2.2.2.2.2.2.2.2.2.1 _ _ _ _ _ _ x off tgt hd ht (fun z => kt z P hP) (fun z => kf z P hP)
theorem pr_if_lt {x : Int32} {off : Int} {tgt : Nat} (hd : decode cc pc = .ok (.ifCond .lt off, 3)) (ht : (pc : Int) + off = (tgt : Int)) (kt : x < 0 → pz_WP d en C own cc nL rt hh ini Q tgt ls st h nc ns) (kf : ¬ x < 0 → pz_WP d en C own cc nL rt hh ini Q (pc + 3) ls st h nc ns) : pz_WP d en C own cc nL rt hh ini Q pc ls (.int x :: st) h nc ns := fun P hP => hP.2.2.2.2.2.2.2.2.2.2.2.2.2.2.2.2.2.2.2.2.2.2.2.2.2.2.2.2.2.2.2.2.2.2.2.2.2.2.2.2.1 _ _ _ _ _ _ x off tgt hd ht (fun z => kt z P hP) (fun z => kf z P hP)
theorem pr_if_ge {x : Int32} {off : Int} {tgt : Nat} (hd : decode cc pc = .ok (.ifCond .ge off, 3)) (ht : (pc : Int) + off = (tgt : Int)) (kt : 0 ≤ x → pz_WP d en C own cc nL rt hh ini Q tgt ls st h nc ns) (kf : ¬ 0 ≤ x → pz_WP d en C own cc nL rt hh ini Q (pc + 3) ls st h nc ns) : pz_WP d en C own cc nL rt hh ini Q pc ls (.int x :: st) h nc ns := fun P hP => hP.2.2.2.2.2.2.2.2.2.2.2.2.2.2.2.2.2.2.2.2.2.2.2.2.2.2.2.2.2.2.2.2.2.2.2.2.2.2.2.2.2.1 _ _ _ _ _ _ x off tgt hd ht (fun z => kt z P hP) (fun z => kf z P hP)
theorem pr_if_gt {x : Int32} {off : Int} {tgt : Nat} (hd : decode cc pc = .ok (.ifCond .gt off, 3)) (ht : (pc : Int) + off = (tgt : Int)) (kt : 0 < x → pz_WP d en C own cc nL rt hh ini Q tgt ls st h nc ns) (kf : ¬ 0 < x → pz_WP d en C own cc nL rt hh ini Q (pc + 3) ls st h nc ns) : pz_WP d en C own cc nL rt hh ini Q pc ls (.int x :: st) h nc ns := fun P hP => hP.2.2.2.2.2.2.2.2.2.2.2.2.2.2.2.2.2.2.2.2.2.2.2.2.2.2.2.2.2.2.2.2.2.2.2.2.2.2.2.2.2.2.1 _ _ _ _ _ _ x off tgt hd ht (fun z => kt z P hP) (fun z => kf z P hP)
theorem pr_if_le {x : Int32} {off : Int} {tgt : Nat} (hd : decode cc pc = .ok (.ifCond .le off, 3)) (ht : (pc : Int) + off = (tgt : Int)) (kt : x ≤ 0 → pz_WP d en C own cc nL rt hh ini Q tgt ls st h nc ns) (kf : ¬ x ≤ 0 → pz_WP d en C own cc nL rt hh ini Q (pc + 3) ls st h nc ns) : pz_WP d en C own cc nL rt hh ini Q pc ls (.int x :: st) h nc ns := fun P hP => hP.2.2.2.2.2.2.2.2.2.2.2.2.2.2.2.2.2.2.2.2.2.2.2.2.2.2.2.2.2.2.2.2.2.2.2.2.2.2.2.2.2.2.2.1 _ _ _ _ _ _ x off tgt hd ht (fun z => kt z P hP) (fun z => kf z P hP)
theorem pr_icmp_eq {x y : Int32} {off : Int} {tgt : Nat} (hd : decode cc pc = .ok (.if_icmp .eq off, 3)) (ht : (pc : Int) + off = (tgt : Int)) (kt : x = y → pz_WP d en C own cc nL rt hh ini Q tgt ls st h nc ns) (kf : ¬ x = y → pz_WP d en C own cc nL rt hh ini Q (pc + 3) ls st h nc ns) : pz_WP d en C own cc nL rt hh ini Q pc ls (.int y :: .int x :: st) h nc ns := fun P hP => hP.2.2.2.2.2.2.2.2.2.2.2.2.2.2.2.2.2.2.2.2.2.2.2.2.2.2.2.2.2.2.2.2.2.2.2.2.2.2.2.2.2.2.2.2.1 _ _ _ _ _ _ x y off tgt hd ht (fun z => kt z P hP) (fun z => kf z P hP)
theorem pr_icmp_ne {x y : Int32} {off : Int} {tgt : Nat} (hd : decode cc pc = .ok (.if_icmp .ne off, 3)) (ht : (pc : Int) + off = (tgt : Int)) (kt : ¬ x = y → pz_WP d en C own cc nL rt hh ini Q tgt ls st h nc ns) (kf : x = y → pz_WP d en C own cc nL rt hh ini Q (pc + 3) ls st h nc ns) : pz_WP d en C own cc nL rt hh ini Q pc ls (.int y :: .int x :: st) h nc ns := fun P hP => hP.2.2.2.2.2.2.2.2.2.2.2.2.2.2.2.2.2.2.2.2.2.2.2.2.2.2.2.2.2.2.2.2.2.2.2.2.2.2.2.2.2.2.2.2.2.1 _ _ _ _ _ _ x y off tgt hd ht (fun z => kt z P hP) (fun z => kf z P hP)
theorem pr_icmp_lt {x y : Int32} {off : Int} {tgt : Nat} (hd : decode cc pc = .ok (.if_icmp .lt off, 3)) (ht : (pc : Int) + off = (tgt : Int)) (kt : x < y → pz_WP d en C own cc nL rt hh ini Q tgt ls st h nc ns) (kf : ¬ x < y → pz_WP d en C own cc nL rt hh ini Q (pc + 3) ls st h nc ns) : pz_WP d en C own cc nL rt hh ini Q pc ls (.int y :: .int x :: st) h nc ns := fun P hP => hP.2.2.2.2.2.2.2.2.2.2.2.2.2.2.2.2.2.2.2.2.2.2.2.2.2.2.2.2.2.2.2.2.2.2.2.2.2.2.2.2.2.2.2.2.2.2.1 _ _ _ _ _ _ x y off tgt hd ht (fun z => kt z P hP) (fun z => kf z P hP)
theorem pr_icmp_ge {x y : Int32} {off : Int} {tgt : Nat} (hd : decode cc pc = .ok (.if_icmp .ge off, 3)) (ht : (pc : Int) + off = (tgt : Int)) (kt : y ≤ x → pz_WP d en C own cc nL rt hh ini Q tgt ls st h nc ns) (kf : ¬ y ≤ x → pz_WP d en C own cc nL rt hh ini Q (pc + 3) ls st h nc ns) : pz_WP d en C own cc nL rt hh ini Q pc ls (.int y :: .int x :: st) h nc ns := fun P hP => hP.2.2.2.2.2.2.2.2.2.2.2.2.2.2.2.2.2.2.2.2.2.2.2.2.2.2.2.2.2.2.2.2.2.2.2.2.2.2.2.2.2.2.2.2.2.2.2.1 _ _ _ _ _ _ x y off tgt hd ht (fun z => kt z P hP) (fun z => kf z P hP)
theorem pr_icmp_gt {x y : Int32} {off : Int} {tgt : Nat} (hd : decode cc pc = .ok (.if_icmp .gt off, 3)) (ht : (pc : Int) + off = (tgt : Int)) (kt : y < x → pz_WP d en C own cc nL rt hh ini Q tgt ls st h nc ns) (kf : ¬ y < x → pz_WP d en C own cc nL rt hh ini Q (pc + 3) ls st h nc ns) : pz_WP d en C own cc nL rt hh ini Q pc ls (.int y :: .int x :: st) h nc ns := fun P hP => hP.2.2.2.2.2.2.2.2.2.2.2.2.2.2.2.2.2.2.2.2.2.2.2.2.2.2.2.2.2.2.2.2.2.2.2.2.2.2.2.2.2.2.2.2.2.2.2.2.1 _ _ _ _ _ _ x y off tgt hd ht (fun z => kt z P hP) (fun z => kf z P hP)
theorem pr_icmp_le {x y : Int32} {off : Int} {tgt : Nat} (hd : decode cc pc = .ok (.if_icmp .le off, 3)) (ht : (pc : Int) + off = (tgt : Int)) (kt : x ≤ y → pz_WP d en C own cc nL rt hh ini Q tgt ls st h nc ns) (kf : ¬ x ≤ y → pz_WP d en C own cc nL rt hh ini Q (pc + 3) ls st h nc ns) : pz_WP d en C own cc nL rt hh ini Q pc ls (.int y :: .int x :: st) h nc ns := fun P hP => hP.2.2.2.2.2.2.2.2.2.2.2.2.2.2.2.2.2.2.2.2.2.2.2.2.2.2.2.2.2.2.2.2.2.2.2.2.2.2.2.2.2.2.2.2.2.2.2.2.2.1 _ _ _ _ _ _ x y off tgt hd ht (fun z => kt z P hP) (fun z => kf z P hP)
theorem pr_goto {off : Int} {tgt : Nat} (hd : decode cc pc = .ok (.goto off, 3)) (ht : (pc : Int) + off = (tgt : Int)) (k : pz_WP d en C own cc nL rt hh ini Q tgt ls st h nc ns) : pz_WP d en C own cc nL rt hh ini Q pc ls st h nc ns := fun P hP => hP.2.2.2.2.2.2.2.2.2.2.2.2.2.2.2.2.2.2.2.2.2.2.2.2.2.2.2.2.2.2.2.2.2.2.2.2.2.2.2.2.2.2.2.2.2.2.2.2.2.2.1 _ _ _ _ _ _ off tgt hd ht (k P hP)
theorem pr_tsin {dflt lo hi : Int} {offs : Array Int} {len : Nat} {x : Int32} {off : Int} {tgt : Nat} (hd : decode cc pc = .ok (.tableswitch dflt lo hi offs, len)) (h1 : ¬ x.toInt < lo) (h2 : ¬ hi < x.toInt) (ho : offs[(x.toInt - lo).toNat]? = some off) (ht : (pc : Int) + off = (tgt : Int)) (k : pz_WP d en C own cc nL rt hh ini Q tgt ls st h nc ns) : pz_WP d en C own cc nL rt hh ini Q pc ls (.int x :: st) h nc ns := fun P hP => hP.2.2.2.2.2.2.2.2.2.2.2.2.2.2.2.2.2.2.2.2.2.2.2.2.2.2.2.2.2.2.2.2.2.2.2.2.2.2.2.2.2.2.2.2.2.2.2.2.2.2.2.1 _ _ _ _ _ _ dflt lo hi offs len x off tgt hd h1 h2 ho ht (k P hP)
theorem pr_tsout {dflt lo hi : Int} {offs : Array Int} {len : Nat} {x : Int32} {tgt : Nat} (hd : decode cc pc = .ok (.tableswitch dflt lo hi offs, len)) (h1 : x.toInt < lo ∨ hi < x.toInt) (ht : (pc : Int) + dflt = (tgt : Int)) (k : pz_WP d en C own cc nL rt hh ini Q tgt ls st h nc ns) : pz_WP d en C own cc nL rt hh ini Q pc ls (.int x :: st) h nc ns := fun P hP => hP.2.2.2.2.2.2.2.2.2.2.2.2.2.2.2.2.2.2.2.2.2.2.2.2.2.2.2.2.2.2.2.2.2.2.2.2.2.2.2.2.2.2.2.2.2.2.2.2.2.2.2.2.1 _ _ _ _ _ _ dflt lo hi offs len x tgt hd h1 ht (k P hP)
theorem pr_lsw {dflt : Int} {ps : Array (Int × Int)} {len : Nat} {x : Int32} {off : Int} {tgt : Nat} (hd : decode cc pc = .ok (.lookupswitch dflt ps, len)) (hp : (ps.toList.zip (ps.toList.drop 1)).all (fun (a, next) => a.1 < next.1) = true) (ho : Op.lookupswitch.offset ps.toList dflt x.toInt = off) (ht : (pc : Int) + off = (tgt : Int)) (k : pz_WP d en C own cc nL rt hh ini Q tgt ls st h nc ns) : pz_WP d en C own cc nL rt hh ini Q pc ls (.int x :: st) h nc ns := fun P hP => hP.2.2.2.2.2.2.2.2.2.2.2.2.2.2.2.2.2.2.2.2.2.2.2.2.2.2.2.2.2.2.2.2.2.2.2.2.2.2.2.2.2.2.2.2.2.2.2.2.2.2.2.2.2.1 _ _ _ _ _ _ dflt ps len x off tgt hd hp ho ht (k P hP)
theorem pr_getf {i ci k : Nat} {a : Nat} {fs : List Value} {v : Value} (hd : decode cc pc = .ok (.getfield i, 3)) (hf : pz_fld own i = some (ci, k)) (ha : h a = some (.inr (ci, fs))) (hv : fs[k]? = some v) (kk : pz_WP d en C own cc nL rt hh ini Q (pc + 3) ls (v :: st) h nc ns) : pz_WP d en C own cc nL rt hh ini Q pc ls (.ref a :: st) h nc ns := fun P hP => hP.2.2.2.2.2.2.2.2.2.2.2.2.2.2.2.2.2.2.2.2.2.2.2.2.2.2.2.2.2.2.2.2.2.2.2.2.2.2.2.2.2.2.2.2.2.2.2.2.2.2.2.2.2.2.1 _ _ _ _ _ _ i ci k a fs v hd hf ha hv (kk P hP)
theorem pr_putf {i ci k : Nat} {a : Nat} {fs : List Value} {v : Value} {h2 : pz_H} (hd : decode cc pc = .ok (.putfield i, 3)) (hf : pz_fld own i = some (ci, k)) (hfin : (pz_T ci k).2.2.2 = false ∨ (ini = true ∧ ci = own)) (ha : h a = some (.inr (ci, fs))) (hl : k < fs.length) (hn : narrow (pz_ty ci k) v = v) (hfit : fits (pz_ty ci k) v = true) (hu : va_up h a (some (.inr (ci, fs.set k v))) = h2) (kk : pz_WP d en C own cc nL rt hh ini Q (pc + 3) ls st h2 nc ns) : pz_WP d en C own cc nL rt hh ini Q pc ls (v :: .ref a :: st) h nc ns := fun P hP => hP.2.2.2.2.2.2.2.2.2.2.2.2.2.2.2.2.2.2.2.2.2.2.2.2.2.2.2.2.2.2.2.2.2.2.2.2.2.2.2.2.2.2.2.2.2.2.2.2.2.2.2.2.2.2.2.1 _ _ _ _ _ _ i ci k a fs v h2 hd hf hfin ha hl hn hfit hu (kk P hP)
theorem pr_new {i ci N : Nat} (hd : decode cc pc = .ok (.new i, 3)) (hc : pz_cls own i = some ci) (hN : pz_N ci = N) (k : ∀ q, h q = none → pz_WP d en C own cc nL rt hh ini Q (pc + 3) ls (.ref q :: st) (va_up h q (some (.inr (ci, pz_blank ci)))) nc ns) : pz_WP d en C own cc nL rt hh ini Q pc ls st h (nc + 1) (ns + N) := fun P hP => hP.2.2.2.2.2.2.2.2.2.2.2.2.2.2.2.2.2.2.2.2.2.2.2.2.2.2.2.2.2.2.2.2.2.2.2.2.2.2.2.2.2.2.2.2.2.2.2.2.2.2.2.2.2.2.2.2.1 _ _ _ _ _ _ i ci N hd hc hN (fun q z => k q z P hP)
theorem pr_newai {n : Int32} {N : Nat} (hd : decode cc pc = .ok (.newarray .int, 2)) (hk : n.toInt = (N : Int)) (hN : N ≤ 100000) (k : ∀ q, h q = none → pz_WP d en C own cc nL rt hh ini Q (pc + 2) ls (.ref q :: st) (va_up h q (some (.inl (0, N, .inl (fun _ => 0))))) nc ns) : pz_WP d en C own cc nL rt hh ini Q pc ls (.int n :: st) h (nc + 1) (ns + N) := fun P hP => hP.2.2.2.2.2.2.2.2.2.2.2.2.2.2.2.2.2.2.2.2.2.2.2.2.2.2.2.2.2.2.2.2.2.2.2.2.2.2.2.2.2.2.2.2.2.2.2.2.2.2.2.2.2.2.2.2.2.1 _ _ _ _ _ _ n N hd hk hN (fun q z => k q z P hP)
theorem pr_newac {n : Int32} {N : Nat} (hd : decode cc pc = .ok (.newarray .char, 2)) (hk : n.toInt = (N : Int)) (hN : N ≤ 100000) (k : ∀ q, h q = none → pz_WP d en C own cc nL rt hh ini Q (pc + 2) ls (.ref q :: st) (va_up h q (some (.inl (1, N, .inl (fun _ => 0))))) nc ns) : pz_WP d en C own cc nL rt hh ini Q pc ls (.int n :: st) h (nc + 1) (ns + N) := fun P hP => hP.2.2.2.2.2.2.2.2.2.2.2.2.2.2.2.2.2.2.2.2.2.2.2.2.2.2.2.2.2.2.2.2.2.2.2.2.2.2.2.2.2.2.2.2.2.2.2.2.2.2.2.2.2.2.2.2.2.2.1 _ _ _ _ _ _ n N hd hk hN (fun q z => k q z P hP)
theorem pr_newal {n : Int32} {N : Nat} (hd : decode cc pc = .ok (.newarray .long, 2)) (hk : n.toInt = (N : Int)) (hN : N ≤ 100000) (k : ∀ q, h q = none → pz_WP d en C own cc nL rt hh ini Q (pc + 2) ls (.ref q :: st) (va_up h q (some (.inl (2, N, .inr (.inl (fun _ => 0)))))) nc ns) : pz_WP d en C own cc nL rt hh ini Q pc ls (.int n :: st) h (nc + 1) (ns + N) := fun P hP => hP.2.2.2.2.2.2.2.2.2.2.2.2.2.2.2.2.2.2.2.2.2.2.2.2.2.2.2.2.2.2.2.2.2.2.2.2.2.2.2.2.2.2.2.2.2.2.2.2.2.2.2.2.2.2.2.2.2.2.2.1 _ _ _ _ _ _ n N hd hk hN (fun q z => k q z P hP)
theorem pr_newaq {i ci kq : Nat} {n : Int32} {N : Nat} (hd : decode cc pc = .ok (.anewarray i, 3)) (hc : pz_cls own i = some ci) (hq : (kq = 3 ∧ ci = 0) ∨ (kq = 4 ∧ ci = 5)) (hk : n.toInt = (N : Int)) (hN : N ≤ 100000) (k : ∀ q, h q = none → pz_WP d en C own cc nL rt hh ini Q (pc + 3) ls (.ref q :: st) (va_up h q (some (.inl (kq, N, .inr (.inr (.inr (.inr (fun _ => none)))))))) nc ns) : pz_WP d en C own cc nL rt hh ini Q pc ls (.int n :: st) h (nc + 1) (ns + N) := fun P hP => hP.2.2.2.2.2.2.2.2.2.2.2.2.2.2.2.2.2.2.2.2.2.2.2.2.2.2.2.2.2.2.2.2.2.2.2.2.2.2.2.2.2.2.2.2.2.2.2.2.2.2.2.2.2.2.2.2.2.2.2.2.1 _ _ _ _ _ _ i ci kq n N hd hc hq hk hN (fun q z => k q z P hP)
theorem pr_iald {a : Nat} {i : Int32} {k n : Nat} {f : Nat → Int32} (hd : decode cc pc = .ok (.iaload, 1)) (ha : h a = some (.inl (0, n, .inl f))) (hk : i.toInt = (k : Int)) (hn : k < n) (kk : pz_WP d en C own cc nL rt hh ini Q (pc + 1) ls (.int (f k) :: st) h nc ns) : pz_WP d en C own cc nL rt hh ini Q pc ls (.int i :: .ref a :: st) h nc ns := fun P hP => hP.2.2.2.2.2.2.2.2.2.2.2.2.2.2.2.2.2.2.2.2.2.2.2.2.2.2.2.2.2.2.2.2.2.2.2.2.2.2.2.2.2.2.2.2.2.2.2.2.2.2.2.2.2.2.2.2.2.2.2.2.2.1 _ _ _ _ _ _ a i k n f hd ha hk hn (kk P hP)
theorem pr_cald {a : Nat} {i : Int32} {k n : Nat} {f : Nat → Int32} (hd : decode cc pc = .ok (.caload, 1)) (ha : h a = some (.inl (1, n, .inl f))) (hk : i.toInt = (k : Int)) (hn : k < n) (kk : pz_WP d en C own cc nL rt hh ini Q (pc + 1) ls (.int (f k) :: st) h nc ns) : pz_WP d en C own cc nL rt hh ini Q pc ls (.int i :: .ref a :: st) h nc ns := fun P hP => hP.2.2.2.2.2.2.2.2.2.2.2.2.2.2.2.2.2.2.2.2.2.2.2.2.2.2.2.2.2.2.2.2.2.2.2.2.2.2.2.2.2.2.2.2.2.2.2.2.2.2.2.2.2.2.2.2.2.2.2.2.2.2.1 _ _ _ _ _ _ a i k n f hd ha hk hn (kk P hP)
theorem pr_lald {a : Nat} {i : Int32} {k n : Nat} {f : Nat → Int64} (hd : decode cc pc = .ok (.laload, 1)) (ha : h a = some (.inl (2, n, .inr (.inl f)))) (hk : i.toInt = (k : Int)) (hn : k < n) (kk : pz_WP d en C own cc nL rt hh ini Q (pc + 1) ls (.long (f k) :: st) h nc ns) : pz_WP d en C own cc nL rt hh ini Q pc ls (.int i :: .ref a :: st) h nc ns := fun P hP => hP.2.2.2.2.2.2.2.2.2.2.2.2.2.2.2.2.2.2.2.2.2.2.2.2.2.2.2.2.2.2.2.2.2.2.2.2.2.2.2.2.2.2.2.2.2.2.2.2.2.2.2.2.2.2.2.2.2.2.2.2.2.2.2.1 _ _ _ _ _ _ a i k n f hd ha hk hn (kk P hP)
theorem pr_aald {a kq : Nat} {i : Int32} {k n : Nat} {f : Nat → Option Nat} {r : Nat} (hd : decode cc pc = .ok (.aaload, 1)) (ha : h a = some (.inl (kq, n, .inr (.inr (.inr (.inr f)))))) (hq : kq = 3 ∨ kq = 4) (hk : i.toInt = (k : Int)) (hn : k < n) (hr : f k = some r) (kk : pz_WP d en C own cc nL rt hh ini Q (pc + 1) ls (.ref r :: st) h nc ns) : pz_WP d en C own cc nL rt hh ini Q pc ls (.int i :: .ref a :: st) h nc ns := fun P hP => hP.2.2.2.2.2.2.2.2.2.2.2.2.2.2.2.2.2.2.2.2.2.2.2.2.2.2.2.2.2.2.2.2.2.2.2.2.2.2.2.2.2.2.2.2.2.2.2.2.2.2.2.2.2.2.2.2.2.2.2.2.2.2.2.2.1 _ _ _ _ _ _ a kq i k n f r hd ha hq hk hn hr (kk P hP)
theorem pr_iast {a : Nat} {i x : Int32} {k n : Nat} {f : Nat → Int32} {h2 : pz_H} (hd : decode cc pc = .ok (.iastore, 1)) (ha : h a = some (.inl (0, n, .inl f))) (hk : i.toInt = (k : Int)) (hn : k < n) (hu : va_up h a (some (.inl (0, n, .inl (va_up f k x)))) = h2) (kk : pz_WP d en C own cc nL rt hh ini Q (pc + 1) ls st h2 nc ns) : pz_WP d en C own cc nL rt hh ini Q pc ls (.int x :: .int i :: .ref a :: st) h nc ns := fun P hP => hP.2.2.2.2.2.2.2.2.2.2.2.2.2.2.2.2.2.2.2.2.2.2.2.2.2.2.2.2.2.2.2.2.2.2.2.2.2.2.2.2.2.2.2.2.2.2.2.2.2.2.2.2.2.2.2.2.2.2.2.2.2.2.2.2.2.1 _ _ _ _ _ _ a i x k n f h2 hd ha hk hn hu (kk P hP)
theorem pr_cast {a : Nat} {i x : Int32} {k n : Nat} {f : Nat → Int32} {h2 : pz_H} (hd : decode cc pc = .ok (.castore, 1)) (ha : h a = some (.inl (1, n, .inl f))) (hk : i.toInt = (k : Int)) (hn : k < n) (hx : vp_nar .char x = x) (hu : va_up h a (some (.inl (1, n, .inl (va_up f k x)))) = h2) (kk : pz_WP d en C own cc nL rt hh ini Q (pc + 1) ls st h2 nc ns) : pz_WP d en C own cc nL rt hh ini Q pc ls (.int x :: .int i :: .ref a :: st) h nc ns := fun P hP => hP.2.2.2.2.2.2.2.2.2.2.2.2.2.2.2.2.2.2.2.2.2.2.2.2.2.2.2.2.2.2.2.2.2.2.2.2.2.2.2.2.2.2.2.2.2.2.2.2.2.2.2.2.2.2.2.2.2.2.2.2.2.2.2.2.2.2.1 _ _ _ _ _ _ a i x k n f h2 hd ha hk hn hx hu (kk P hP)
theorem pr_last {a : Nat} {i : Int32} {x : Int64} {k n : Nat} {f : Nat → Int64} {h2 : pz_H} (hd : decode cc pc = .ok (.lastore, 1)) (ha : h a = some (.inl (2, n, .inr (.inl f)))) (hk : i.toInt = (k : Int)) (hn : k < n) (hu : va_up h a (some (.inl (2, n, .inr (.inl (va_up f k x))))) = h2) (kk : pz_WP d en C own cc nL rt hh ini Q (pc + 1) ls st h2 nc ns) : pz_WP d en C own cc nL rt hh ini Q pc ls (.long x :: .int i :: .ref a :: st) h nc ns := fun P hP => hP.2.2.2.2.2.2.2.2.2.2.2.2.2.2.2.2.2.2.2.2.2.2.2.2.2.2.2.2.2.2.2.2.2.2.2.2.2.2.2.2.2.2.2.2.2.2.2.2.2.2.2.2.2.2.2.2.2.2.2.2.2.2.2.2.2.2.2.1 _ _ _ _ _ _ a i x k n f h2 hd ha hk hn hu (kk P hP)
theorem pr_aast {a kq ci v : Nat} {vs : List Value} {i : Int32} {k n : Nat} {f : Nat → Option Nat} {h2 : pz_H} (hd : decode cc pc = .ok (.aastore, 1)) (ha : h a = some (.inl (kq, n, .inr (.inr (.inr (.inr f)))))) (hq : (kq = 3 ∧ ci = 0) ∨ (kq = 4 ∧ ci = 5)) (hv : h v = some (.inr (ci, vs))) (hk : i.toInt = (k : Int)) (hn : k < n) (hu : va_up h a (some (.inl (kq, n, .inr (.inr (.inr (.inr (va_up f k (some v)))))))) = h2) (kk : pz_WP d en C own cc nL rt hh ini Q (pc + 1) ls st h2 nc ns) : pz_WP d en C own cc nL rt hh ini Q pc ls (.ref v :: .int i :: .ref a :: st) h nc ns := fun P hP => hP.2.2.2.2.2.2.2.2.2.2.2.2.2.2.2.2.2.2.2.2.2.2.2.2.2.2.2.2.2.2.2.2.2.2.2.2.2.2.2.2.2.2.2.2.2.2.2.2.2.2.2.2.2.2.2.2.2.2.2.2.2.2.2.2.2.2.2.2.1 _ _ _ _ _ _ a kq ci v vs i k n f h2 hd ha hq hv hk hn hu (kk P hP)
theorem pr_slen  (hd : decode cc pc = .ok (.arraylength, 1)) (kk : pz_WP d en C own cc nL rt hh ini Q (pc + 1) ls (.int (Int32.ofNat en.2.1) :: st) h nc ns) : pz_WP d en C own cc nL rt hh ini Q pc ls (.ref en.1 :: st) h nc ns := fun P hP => hP.2.2.2.2.2.2.2.2.2.2.2.2.2.2.2.2.2.2.2.2.2.2.2.2.2.2.2.2.2.2.2.2.2.2.2.2.2.2.2.2.2.2.2.2.2.2.2.2.2.2.2.2.2.2.2.2.2.2.2.2.2.2.2.2.2.2.2.2.2.1 _ _ _ _ _ _ hd (kk P hP)
theorem pr_sld {i : Int32} {k : Nat} (hd : decode cc pc = .ok (.iaload, 1)) (hk : i.toInt = (k : Int)) (hn : k < en.2.1) (kk : pz_WP d en C own cc nL rt hh ini Q (pc + 1) ls (.int (en.2.2.1 k) :: st) h nc ns) : pz_WP d en C own cc nL rt hh ini Q pc ls (.int i :: .ref en.1 :: st) h nc ns := fun P hP => hP.2.2.2.2.2.2.2.2.2.2.2.2.2.2.2.2.2.2.2.2.2.2.2.2.2.2.2.2.2.2.2.2.2.2.2.2.2.2.2.2.2.2.2.2.2.2.2.2.2.2.2.2.2.2.2.2.2.2.2.2.2.2.2.2.2.2.2.2.2.2.1 _ _ _ _ _ _ i k hd hk hn (kk P hP)
theorem pr_copy {ix a0 a n0 n1 i0 j0 N : Nat} {sp dp n : Int32} {f g : Nat → Int32} {h2 : pz_H} (hd : decode cc pc = .ok (.invokestatic ix, 3)) (hm : pz_nat own ix = some 2) (hd1 : 1 ≤ d) (ha0 : h a0 = some (.inl (0, n0, .inl f))) (ha : h a = some (.inl (0, n1, .inl g))) (hi : sp.toInt = (i0 : Int)) (hj : dp.toInt = (j0 : Int)) (hN : n.toInt = (N : Int)) (h4 : i0 + N ≤ n0) (h5 : j0 + N ≤ n1) (hr : st.length ≤ 3) (hu : va_up h a (some (.inl (0, n1, .inl (va_cpy f g i0 j0 N)))) = h2) (kk : pz_WP d en C own cc nL rt hh ini Q (pc + 3) ls st h2 nc ns) : pz_WP d en C own cc nL rt hh ini Q pc ls (.int n :: .int dp :: .ref a :: .int sp :: .ref a0 :: st) h nc ns := fun P hP => hP.2.2.2.2.2.2.2.2.2.2.2.2.2.2.2.2.2.2.2.2.2.2.2.2.2.2.2.2.2.2.2.2.2.2.2.2.2.2.2.2.2.2.2.2.2.2.2.2.2.2.2.2.2.2.2.2.2.2.2.2.2.2.2.2.2.2.2.2.2.2.2.1 _ _ _ _ _ _ ix a0 a n0 n1 i0 j0 N sp dp n f g h2 hd hm hd1 ha0 ha hi hj hN h4 h5 hr hu (kk P hP)
theorem pr_max {ix : Nat} {x y : Int32} (hd : decode cc pc = .ok (.invokestatic ix, 3)) (hm : pz_nat own ix = some 0) (hd1 : 1 ≤ d) (hr : st.length ≤ 3) (kk : pz_WP d en C own cc nL rt hh ini Q (pc + 3) ls (.int (if x < y then y else x) :: st) h nc ns) : pz_WP d en C own cc nL rt hh ini Q pc ls (.int y :: .int x :: st) h nc ns := fun P hP => hP.2.2.2.2.2.2.2.2.2.2.2.2.2.2.2.2.2.2.2.2.2.2.2.2.2.2.2.2.2.2.2.2.2.2.2.2.2.2.2.2.2.2.2.2.2.2.2.2.2.2.2.2.2.2.2.2.2.2.2.2.2.2.2.2.2.2.2.2.2.2.2.2.1 _ _ _ _ _ _ ix x y hd hm hd1 hr (kk P hP)
theorem pr_min {ix : Nat} {x y : Int32} (hd : decode cc pc = .ok (.invokestatic ix, 3)) (hm : pz_nat own ix = some 1) (hd1 : 1 ≤ d) (hr : st.length ≤ 3) (kk : pz_WP d en C own cc nL rt hh ini Q (pc + 3) ls (.int (if y < x then y else x) :: st) h nc ns) : pz_WP d en C own cc nL rt hh ini Q pc ls (.int y :: .int x :: st) h nc ns := fun P hP => hP.2.2.2.2.2.2.2.2.2.2.2.2.2.2.2.2.2.2.2.2.2.2.2.2.2.2.2.2.2.2.2.2.2.2.2.2.2.2.2.2.2.2.2.2.2.2.2.2.2.2.2.2.2.2.2.2.2.2.2.2.2.2.2.2.2.2.2.2.2.2.2.2.2.1 _ _ _ _ _ _ ix x y hd hm hd1 hr (kk P hP)
theorem pr_obj {ix a : Nat} (hd : decode cc pc = .ok (.invokespecial ix, 3)) (hm : pz_obj own ix = true) (hd1 : 1 ≤ d) (hr : st.length ≤ 3) (kk : pz_WP d en C own cc nL rt hh ini Q (pc + 3) ls st h nc ns) : pz_WP d en C own cc nL rt hh ini Q pc ls (.ref a :: st) h nc ns := fun P hP => hP.2.2.2.2.2.2.2.2.2.2.2.2.2.2.2.2.2.2.2.2.2.2.2.2.2.2.2.2.2.2.2.2.2.2.2.2.2.2.2.2.2.2.2.2.2.2.2.2.2.2.2.2.2.2.2.2.2.2.2.2.2.2.2.2.2.2.2.2.2.2.2.2.2.2.1 _ _ _ _ _ _ ix a hd hm hd1 hr (kk P hP)
theorem pr_idx {x : Int32} (hd : decode cc pc = .ok (.invokevirtual pz_key.2, 3)) (ho : own = 7) (hd1 : 6 ≤ d) (hx : 0 ≤ x.toInt ∧ x.toInt < 65536) (hr : st.length ≤ 3) (kk : pz_WP d en C own cc nL rt hh ini Q (pc + 3) ls (.int (pz_ix x) :: st) h nc ns) : pz_WP d en C own cc nL rt hh ini Q pc ls (.int x :: .ref en.2.2.2 :: st) h nc ns := fun P hP => hP.2.2.2.2.2.2.2.2.2.2.2.2.2.2.2.2.2.2.2.2.2.2.2.2.2.2.2.2.2.2.2.2.2.2.2.2.2.2.2.2.2.2.2.2.2.2.2.2.2.2.2.2.2.2.2.2.2.2.2.2.2.2.2.2.2.2.2.2.2.2.2.2.2.2.2.1 _ _ _ _ _ _ x hd ho hd1 hx hr (kk P hP)
theorem pr_callv {ix b : Nat} {as rest : List Value} {fs : List Value} {mc ms : Nat} {y : Nat} {yn : MethodName} {bs : ByteArray} {mL : Nat} {mr : Option FieldType} {mo np : Nat} {ps : List Nat} (hd : decode cc pc = .ok (.invokevirtual ix, 3)) (hm : pz_mth own ix = some y) (ht : pz_tab y = some (yn, bs, mL, mr, mo, np, 1, [], ps)) (hst : st = as.reverse ++ .ref b :: rest) (hlen : as.length = np) (hb : h b = some (.inr (mo, fs))) (hr : rest.length ≤ 3) (hmo : mo < 8) (hmono : ∀ y a h mc ms (Q1 Q2 : pz_Q), (∀ o h2, Q1 o h2 → Q2 o h2) → C y a h mc ms Q1 → C y a h mc ms Q2) {Qs : pz_Q} (hC : C y (.ref b :: as) h mc ms Qs) (k : ∀ o h2, Qs o h2 → (fun o h2 => match o with | .inl v => pz_WP d en C own cc nL rt hh ini Q (pc + 3) ls (v.toList ++ rest) h2 nc ns | .inr E => ∃ tgt, pz_hnd own hh pc E = some tgt ∧ ∀ q, pz_WP d en C own cc nL rt hh ini Q tgt ls [.ref q] h2 nc ns) o h2) : pz_WP d en C own cc nL rt hh ini Q pc ls st h (nc + mc) (ns + ms) := by
  intro P hP
  refine hP.2.2.2.2.2.2.2.2.2.2.2.2.2.2.2.2.2.2.2.2.2.2.2.2.2.2.2.2.2.2.2.2.2.2.2.2.2.2.2.2.2.2.2.2.2.2.2.2.2.2.2.2.2.2.2.2.2.2.2.2.2.2.2.2.2.2.2.2.2.2.2.2.2.2.2.2.1 pc ls st h nc ns ix b as rest fs mc ms y yn bs mL mr mo np ps hd hm ht hst hlen hb hr hmo (hmono _ _ _ _ _ _ _ (fun o h2 hq => ?_) hC)
  have hk := k o h2 hq
  cases o with
  | inl v => exact hk P hP
  | inr E => exact ⟨hk.choose, hk.choose_spec.1, fun q => hk.choose_spec.2 q P hP⟩
theorem pr_calls {ix : Nat} {as rest : List Value} {mc ms : Nat} {y : Nat} {yn : MethodName} {bs : ByteArray} {mL : Nat} {mr : Option FieldType} {mo np : Nat} {mh : List (Nat × Nat × Nat × Nat)} {ps : List Nat} (hd : decode cc pc = .ok (.invokestatic ix, 3)) (hm : pz_mth own ix = some y) (ht : pz_tab y = some (yn, bs, mL, mr, mo, np, 0, mh, ps)) (hst : st = as.reverse ++ rest) (hlen : as.length = np) (hr : rest.length ≤ 3) (hmono : ∀ y a h mc ms (Q1 Q2 : pz_Q), (∀ o h2, Q1 o h2 → Q2 o h2) → C y a h mc ms Q1 → C y a h mc ms Q2) {Qs : pz_Q} (hC : C y as h mc ms Qs) (k : ∀ o h2, Qs o h2 → (fun o h2 => match o with | .inl v => pz_WP d en C own cc nL rt hh ini Q (pc + 3) ls (v.toList ++ rest) h2 nc ns | .inr E => ∃ tgt, pz_hnd own hh pc E = some tgt ∧ ∀ q, pz_WP d en C own cc nL rt hh ini Q tgt ls [.ref q] h2 nc ns) o h2) : pz_WP d en C own cc nL rt hh ini Q pc ls st h (nc + mc) (ns + ms) := by
  intro P hP
  refine hP.2.2.2.2.2.2.2.2.2.2.2.2.2.2.2.2.2.2.2.2.2.2.2.2.2.2.2.2.2.2.2.2.2.2.2.2.2.2.2.2.2.2.2.2.2.2.2.2.2.2.2.2.2.2.2.2.2.2.2.2.2.2.2.2.2.2.2.2.2.2.2.2.2.2.2.2.2.1 pc ls st h nc ns ix as rest mc ms y yn bs mL mr mo np mh ps hd hm ht hst hlen hr (hmono _ _ _ _ _ _ _ (fun o h2 hq => ?_) hC)
  have hk := k o h2 hq
  cases o with
  | inl v => exact hk P hP
  | inr E => exact ⟨hk.choose, hk.choose_spec.1, fun q => hk.choose_spec.2 q P hP⟩
theorem pr_calli {ix b : Nat} {as rest : List Value} {mc ms : Nat} {y : Nat} {yn : MethodName} {bs : ByteArray} {mL : Nat} {mo np : Nat} {ps : List Nat} (hd : decode cc pc = .ok (.invokespecial ix, 3)) (hm : pz_mth own ix = some y) (ht : pz_tab y = some (yn, bs, mL, none, mo, np, 2, [], ps)) (hst : st = as.reverse ++ .ref b :: rest) (hlen : as.length = np) (hr : rest.length ≤ 3) (hmono : ∀ y a h mc ms (Q1 Q2 : pz_Q), (∀ o h2, Q1 o h2 → Q2 o h2) → C y a h mc ms Q1 → C y a h mc ms Q2) {Qs : pz_Q} (hC : C y (.ref b :: as) h mc ms Qs) (k : ∀ o h2, Qs o h2 → (fun o h2 => o = .inl none ∧ pz_WP d en C own cc nL rt hh ini Q (pc + 3) ls rest h2 nc ns) o h2) : pz_WP d en C own cc nL rt hh ini Q pc ls st h (nc + mc) (ns + ms) := by
  intro P hP
  exact hP.2.2.2.2.2.2.2.2.2.2.2.2.2.2.2.2.2.2.2.2.2.2.2.2.2.2.2.2.2.2.2.2.2.2.2.2.2.2.2.2.2.2.2.2.2.2.2.2.2.2.2.2.2.2.2.2.2.2.2.2.2.2.2.2.2.2.2.2.2.2.2.2.2.2.2.2.2.2.1 pc ls st h nc ns ix b as rest mc ms y yn bs mL mo np ps hd hm ht hst hlen hr (hmono _ _ _ _ _ _ _ (fun o h2 hq => ⟨(k o h2 hq).1, (k o h2 hq).2 P hP⟩) hC)
theorem pr_calln {ix b : Nat} {as rest : List Value} {mc ms : Nat} {y : Nat} {yn : MethodName} {bs : ByteArray} {mL : Nat} {mo np : Nat} {ps : List Nat} (hd : decode cc pc = .ok (.invokespecial ix, 3)) (hm : pz_nest own ix = some y) (ht : pz_tab y = some (yn, bs, mL, none, mo, np, 2, [], ps)) (hst : st = as.reverse ++ .ref b :: rest) (hlen : as.length = np) (hr : rest.length ≤ 3) (hmono : ∀ y a h mc ms (Q1 Q2 : pz_Q), (∀ o h2, Q1 o h2 → Q2 o h2) → C y a h mc ms Q1 → C y a h mc ms Q2) {Qs : pz_Q} (hC : C y (.ref b :: as) h mc ms Qs) (k : ∀ o h2, Qs o h2 → (fun o h2 => o = .inl none ∧ pz_WP d en C own cc nL rt hh ini Q (pc + 3) ls rest h2 nc ns) o h2) : pz_WP d en C own cc nL rt hh ini Q pc ls st h (nc + mc) (ns + ms) := by
  intro P hP
  exact hP.2.2.2.2.2.2.2.2.2.2.2.2.2.2.2.2.2.2.2.2.2.2.2.2.2.2.2.2.2.2.2.2.2.2.2.2.2.2.2.2.2.2.2.2.2.2.2.2.2.2.2.2.2.2.2.2.2.2.2.2.2.2.2.2.2.2.2.2.2.2.2.2.2.2.2.2.2.2.2.1 pc ls st h nc ns ix b as rest mc ms y yn bs mL mo np ps hd hm ht hst hlen hr (hmono _ _ _ _ _ _ _ (fun o h2 hq => ⟨(k o h2 hq).1, (k o h2 hq).2 P hP⟩) hC)
theorem pr_iret {v : Int32} {ty : FieldType} (hd : decode cc pc = .ok (.ireturn, 1)) (hr : rt = some ty) (hn : narrow ty (.int v) = .int v) (hq : Q (.inl (some (.int v))) h) : pz_WP d en C own cc nL rt hh ini Q pc ls [.int v] h nc ns := fun P hP => hP.2.2.2.2.2.2.2.2.2.2.2.2.2.2.2.2.2.2.2.2.2.2.2.2.2.2.2.2.2.2.2.2.2.2.2.2.2.2.2.2.2.2.2.2.2.2.2.2.2.2.2.2.2.2.2.2.2.2.2.2.2.2.2.2.2.2.2.2.2.2.2.2.2.2.2.2.2.2.2.2.1 _ _ [] _ _ _ v ty hd hr hn hq
theorem pr_vret  (hd : decode cc pc = .ok (.return_, 1)) (hr : rt = none) (hq : Q (.inl none) h) : pz_WP d en C own cc nL rt hh ini Q pc ls [] h nc ns := fun P hP => hP.2.2.2.2.2.2.2.2.2.2.2.2.2.2.2.2.2.2.2.2.2.2.2.2.2.2.2.2.2.2.2.2.2.2.2.2.2.2.2.2.2.2.2.2.2.2.2.2.2.2.2.2.2.2.2.2.2.2.2.2.2.2.2.2.2.2.2.2.2.2.2.2.2.2.2.2.2.2.2.2.2.1 _ _ [] _ _ _ hd hr hq
theorem pr_aret {a : Nat} {ty : FieldType} (hd : decode cc pc = .ok (.areturn, 1)) (hr : rt = some (.array ty)) (hq : Q (.inl (some (.ref a))) h) : pz_WP d en C own cc nL rt hh ini Q pc ls [.ref a] h nc ns := fun P hP => hP.2.2.2.2.2.2.2.2.2.2.2.2.2.2.2.2.2.2.2.2.2.2.2.2.2.2.2.2.2.2.2.2.2.2.2.2.2.2.2.2.2.2.2.2.2.2.2.2.2.2.2.2.2.2.2.2.2.2.2.2.2.2.2.2.2.2.2.2.2.2.2.2.2.2.2.2.2.2.2.2.2.2.1 _ _ [] _ _ _ a ty hd hr hq
theorem pr_dret {v : UInt64} (hd : decode cc pc = .ok (.dreturn, 1)) (hr : rt = some .double) (hq : Q (.inl (some (.double v))) h) : pz_WP d en C own cc nL rt hh ini Q pc ls [.double v] h nc ns := fun P hP => hP.2.2.2.2.2.2.2.2.2.2.2.2.2.2.2.2.2.2.2.2.2.2.2.2.2.2.2.2.2.2.2.2.2.2.2.2.2.2.2.2.2.2.2.2.2.2.2.2.2.2.2.2.2.2.2.2.2.2.2.2.2.2.2.2.2.2.2.2.2.2.2.2.2.2.2.2.2.2.2.2.2.2.2.1 _ _ [] _ _ _ v hd hr hq
theorem pr_thr {ik ic is : Nat} {E tx : String} (d0 : decode cc pc = .ok (.new ik, 3)) (d3 : decode cc (pc + 3) = .ok (.dup, 1)) (d4 : decode cc (pc + 4) = .ok (.ldc is, 2)) (d6 : decode cc (pc + 6) = .ok (.invokespecial ic, 3)) (d9 : decode cc (pc + 9) = .ok (.athrow, 1)) (he : pz_exc own ik = some (E, ic)) (hs : pz_str is = some tx) (ho : own = 6) (hd6 : 6 ≤ d) (hhh : hh = []) (hq : Q (.inr E) h) : pz_WP d en C own cc nL rt hh ini Q pc ls [] h (nc + 1) (ns + 6) := fun P hP => hP.2.2.2.2.2.2.2.2.2.2.2.2.2.2.2.2.2.2.2.2.2.2.2.2.2.2.2.2.2.2.2.2.2.2.2.2.2.2.2.2.2.2.2.2.2.2.2.2.2.2.2.2.2.2.2.2.2.2.2.2.2.2.2.2.2.2.2.2.2.2.2.2.2.2.2.2.2.2.2.2.2.2.2.2.1 _ _ [] _ _ _ ik ic is E tx d0 d3 d4 d6 d9 he hs ho hd6 hhh hq
theorem pr_thrw {ik ic is : Nat} {E tx : String} (d0 : decode cc pc = .ok (.new ik, 3)) (d3 : decode cc (pc + 3) = .ok (.dup, 1)) (d4 : decode cc (pc + 4) = .ok (.ldc_w is, 3)) (d6 : decode cc (pc + 7) = .ok (.invokespecial ic, 3)) (d9 : decode cc (pc + 10) = .ok (.athrow, 1)) (he : pz_exc own ik = some (E, ic)) (hs : pz_str is = some tx) (ho : own = 6) (hd6 : 6 ≤ d) (hhh : hh = []) (hq : Q (.inr E) h) : pz_WP d en C own cc nL rt hh ini Q pc ls [] h (nc + 1) (ns + 6) := fun P hP => hP.2.2.2.2.2.2.2.2.2.2.2.2.2.2.2.2.2.2.2.2.2.2.2.2.2.2.2.2.2.2.2.2.2.2.2.2.2.2.2.2.2.2.2.2.2.2.2.2.2.2.2.2.2.2.2.2.2.2.2.2.2.2.2.2.2.2.2.2.2.2.2.2.2.2.2.2.2.2.2.2.2.2.2.2.2.1 _ _ [] _ _ _ ik ic is E tx d0 d3 d4 d6 d9 he hs ho hd6 hhh hq
theorem pr_forget {ls2 : List (Option Value)} (hl : ∀ (i : Nat) (v : Value), ls2[i]? = some (some v) → ls[i]? = some (some v)) (k : pz_WP d en C own cc nL rt hh ini Q pc ls2 st h nc ns) : pz_WP d en C own cc nL rt hh ini Q pc ls st h nc ns := fun P hP => hP.2.2.2.2.2.2.2.2.2.2.2.2.2.2.2.2.2.2.2.2.2.2.2.2.2.2.2.2.2.2.2.2.2.2.2.2.2.2.2.2.2.2.2.2.2.2.2.2.2.2.2.2.2.2.2.2.2.2.2.2.2.2.2.2.2.2.2.2.2.2.2.2.2.2.2.2.2.2.2.2.2.2.2.2.2.2 _ _ _ _ _ _ ls2 hl (k P hP)
end pz_rows
def pz_entry (args : List Value) (nL : Nat) : List (Option Value) := args.map some ++ List.replicate (nL - args.length) none
def pz_Cd (en : pz_Env) : Nat → pz_C
  | 0 => fun _ _ _ _ _ _ => False
  | d + 1 => fun y args h nc ns Q => match pz_tab y with
    | some (_, cc, nL, rt, own, _, kd, hh, _) => args.all (fun v => v.category == 1) = true ∧ args.length ≤ nL ∧ pz_WP (d + 1) en (pz_Cd en d) own cc nL rt hh (kd == 2) Q 0 (pz_entry args nL) [] h nc ns
    | none => False
theorem pz_Cl_mono {d1 d2 : Nat} {en : pz_Env} {C1 C2 : pz_C} {own : Nat} {cc : ByteArray} {nL : Nat} {rt : Option FieldType} {hh : List (Nat × Nat × Nat × Nat)} {ini : Bool} {Q1 Q2 : pz_Q} {P : pz_P} (hdd : d1 ≤ d2) (hC : ∀ y a h mc ms (Q : pz_Q), C1 y a h mc ms Q → C2 y a h mc ms Q) (hQ : ∀ o h, Q1 o h → Q2 o h) (hP : pz_Cl d2 en C2 own cc nL rt hh ini Q2 P) : pz_Cl d1 en C1 own cc nL rt hh ini Q1 P :=
  ⟨hP.1,
   hP.2.1,
   hP.2.2.1,
   hP.2.2.2.1,
   hP.2.2.2.2.1,
   hP.2.2.2.2.2.1,
   hP.2.2.2.2.2.2.1,
   hP.2.2.2.2.2.2.2.1,
   hP.2.2.2.2.2.2.2.2.1,
   hP.2.2.2.2.2.2.2.2.2.1,
   hP.2.2.2.2.2.2.2.2.2.2.1,
   hP.2.2.2.2.2.2.2.2.2.2.2.1,
   hP.2.2.2.2.2.2.2.2.2.2.2.2.1,
   hP.2.2.2.2.2.2.2.2.2.2.2.2.2.1,
   hP.2.2.2.2.2.2.2.2.2.2.2.2.2.2.1,
   hP.2.2.2.2.2.2.2.2.2.2.2.2.2.2.2.1,
   hP.2.2.2.2.2.2.2.2.2.2.2.2.2.2.2.2.1,
   hP.2.2.2.2.2.2.2.2.2.2.2.2.2.2.2.2.2.1,
   hP.2.2.2.2.2.2.2.2.2.2.2.2.2.2.2.2.2.2.1,
   hP.2.2.2.2.2.2.2.2.2.2.2.2.2.2.2.2.2.2.2.1,
   hP.2.2.2.2.2.2.2.2.2.2.2.2.2.2.2.2.2.2.2.2.1,
   hP.2.2.2.2.2.2.2.2.2.2.2.2.2.2.2.2.2.2.2.2.2.1,
   hP.2.2.2.2.2.2.2.2.2.2.2.2.2.2.2.2.2.2.2.2.2.2.1,
   hP.2.2.2.2.2.2.2.2.2.2.2.2.2.2.2.2.2.2.2.2.2.2.2.1,
   hP.2.2.2.2.2.2.2.2.2.2.2.2.2.2.2.2.2.2.2.2.2.2.2.2.1,
   hP.2.2.2.2.2.2.2.2.2.2.2.2.2.2.2.2.2.2.2.2.2.2.2.2.2.1,
   hP.2.2.2.2.2.2.2.2.2.2.2.2.2.2.2.2.2.2.2.2.2.2.2.2.2.2.1,
   hP.2.2.2.2.2.2.2.2.2.2.2.2.2.2.2.2.2.2.2.2.2.2.2.2.2.2.2.1,
   hP.2.2.2.2.2.2.2.2.2.2.2.2.2.2.2.2.2.2.2.2.2.2.2.2.2.2.2.2.1,
   hP.2.2.2.2.2.2.2.2.2.2.2.2.2.2.2.2.2.2.2.2.2.2.2.2.2.2.2.2.2.1,
   hP.2.2.2.2.2.2.2.2.2.2.2.2.2.2.2.2.2.2.2.2.2.2.2.2.2.2.2.2.2.2.1,
   hP.2.2.2.2.2.2.2.2.2.2.2.2.2.2.2.2.2.2.2.2.2.2.2.2.2.2.2.2.2.2.2.1,
   hP.2.2.2.2.2.2.2.2.2.2.2.2.2.2.2.2.2.2.2.2.2.2.2.2.2.2.2.2.2.2.2.2.1,
   hP.2.2.2.2.2.2.2.2.2.2.2.2.2.2.2.2.2.2.2.2.2.2.2.2.2.2.2.2.2.2.2.2.2.1,
   hP.2.2.2.2.2.2.2.2.2.2.2.2.2.2.2.2.2.2.2.2.2.2.2.2.2.2.2.2.2.2.2.2.2.2.1,
   hP.2.2.2.2.2.2.2.2.2.2.2.2.2.2.2.2.2.2.2.2.2.2.2.2.2.2.2.2.2.2.2.2.2.2.2.1,
   hP.2.2.2.2.2.2.2.2.2.2.2.2.2.2.2.2.2.2.2.2.2.2.2.2.2.2.2.2.2.2.2.2.2.2.2.2.1,
   hP.2.2.2.2.2.2.2.2.2.2.2.2.2.2.2.2.2.2.2.2.2.2.2.2.2.2.2.2.2.2.2.2.2.2.2.2.2.1,
   hP.2.2.2.2.2.2.2.2.2.2.2.2.2.2.2.2.2.2.2.2.2.2.2.2.2.2.2.2.2.2.2.2.2.2.2.2.2.2.1,
   hP.2.2.2.2.2.2.2.2.2.2.2.2.2.2.2.2.2.2.2.2.2.2.2.2.2.2.2.2.2.2.2.2.2.2.2.2.2.2.2.1,
   hP.2.2.2.2.2.2.2.2.2.2.2.2.2.2.2.2.2.2.2.2.2.2.2.2.2.2.2.2.2.2.2.2.2.2.2.2.2.2.2.2.1,
   hP.2.2.2.2.2.2.2.2.2.2.2.2.2.2.2.2.2.2.2.2.2.2.2.2.2.2.2.2.2.2.2.2.2.2.2.2.2.2.2.2.2.1,
   hP.2.2.2.2.2.2.2.2.2.2.2.2.2.2.2.2.2.2.2.2.2.2.2.2.2.2.2.2.2.2.2.2.2.2.2.2.2.2.2.2.2.2.1,
   hP.2.2.2.2.2.2.2.2.2.2.2.2.2.2.2.2.2.2.2.2.2.2.2.2.2.2.2.2.2.2.2.2.2.2.2.2.2.2.2.2.2.2.2.1,
   hP.2.2.2.2.2.2.2.2.2.2.2.2.2.2.2.2.2.2.2.2.2.2.2.2.2.2.2.2.2.2.2.2.2.2.2.2.2.2.2.2.2.2.2.2.1,
   hP.2.2.2.2.2.2.2.2.2.2.2.2.2.2.2.2.2.2.2.2.2.2.2.2.2.2.2.2.2.2.2.2.2.2.2.2.2.2.2.2.2.2.2.2.2.1,
   hP.2.2.2.2.2.2.2.2.2.2.2.2.2.2.2.2.2.2.2.2.2.2.2.2.2.2.2.2.2.2.2.2.2.2.2.2.2.2.2.2.2.2.2.2.2.2.1,
   hP.2.2.2.2.2.2.2.2.2.2.2.2.2.2.2.2.2.2.2.2.2.2.2.2.2.2.2.2.2.2.2.2.2.2.2.2.2.2.2.2.2.2.2.2.2.2.2.1,
   hP.2.2.2.2.2.2.2.2.2.2.2.2.2.2.2.2.2.2.2.2.2.2.2.2.2.2.2.2.2.2.2.2.2.2.2.2.2.2.2.2.2.2.2.2.2.2.2.2.1,
   hP.2.2.2.2.2.2.2.2.2.2.2.2.2.2.2.2.2.2.2.2.2.2.2.2.2.2.2.2.2.2.2.2.2.2.2.2.2.2.2.2.2.2.2.2.2.2.2.2.2.1,
   hP.2.2.2.2.2.2.2.2.2.2.2.2.2.2.2.2.2.2.2.2.2.2.2.2.2.2.2.2.2.2.2.2.2.2.2.2.2.2.2.2.2.2.2.2.2.2.2.2.2.2.1,
   hP.2.2.2.2.2.2.2.2.2.2.2.2.2.2.2.2.2.2.2.2.2.2.2.2.2.2.2.2.2.2.2.2.2.2.2.2.2.2.2.2.2.2.2.2.2.2.2.2.2.2.2.1,
   hP.2.2.2.2.2.2.2.2.2.2.2.2.2.2.2.2.2.2.2.2.2.2.2.2.2.2.2.2.2.2.2.2.2.2.2.2.2.2.2.2.2.2.2.2.2.2.2.2.2.2.2.2.1,
   hP.2.2.2.2.2.2.2.2.2.2.2.2.2.2.2.2.2.2.2.2.2.2.2.2.2.2.2.2.2.2.2.2.2.2.2.2.2.2.2.2.2.2.2.2.2.2.2.2.2.2.2.2.2.1,
   hP.2.2.2.2.2.2.2.2.2.2.2.2.2.2.2.2.2.2.2.2.2.2.2.2.2.2.2.2.2.2.2.2.2.2.2.2.2.2.2.2.2.2.2.2.2.2.2.2.2.2.2.2.2.2.1,
   hP.2.2.2.2.2.2.2.2.2.2.2.2.2.2.2.2.2.2.2.2.2.2.2.2.2.2.2.2.2.2.2.2.2.2.2.2.2.2.2.2.2.2.2.2.2.2.2.2.2.2.2.2.2.2.2.1,
   hP.2.2.2.2.2.2.2.2.2.2.2.2.2.2.2.2.2.2.2.2.2.2.2.2.2.2.2.2.2.2.2.2.2.2.2.2.2.2.2.2.2.2.2.2.2.2.2.2.2.2.2.2.2.2.2.2.1,
   hP.2.2.2.2.2.2.2.2.2.2.2.2.2.2.2.2.2.2.2.2.2.2.2.2.2.2.2.2.2.2.2.2.2.2.2.2.2.2.2.2.2.2.2.2.2.2.2.2.2.2.2.2.2.2.2.2.2.1,
   hP.2.2.2.2.2.2.2.2.2.2.2.2.2.2.2.2.2.2.2.2.2.2.2.2.2.2.2.2.2.2.2.2.2.2.2.2.2.2.2.2.2.2.2.2.2.2.2.2.2.2.2.2.2.2.2.2.2.2.1,
   hP.2.2.2.2.2.2.2.2.2.2.2.2.2.2.2.2.2.2.2.2.2.2.2.2.2.2.2.2.2.2.2.2.2.2.2.2.2.2.2.2.2.2.2.2.2.2.2.2.2.2.2.2.2.2.2.2.2.2.2.1,
   hP.2.2.2.2.2.2.2.2.2.2.2.2.2.2.2.2.2.2.2.2.2.2.2.2.2.2.2.2.2.2.2.2.2.2.2.2.2.2.2.2.2.2.2.2.2.2.2.2.2.2.2.2.2.2.2.2.2.2.2.2.1,
   hP.2.2.2.2.2.2.2.2.2.2.2.2.2.2.2.2.2.2.2.2.2.2.2.2.2.2.2.2.2.2.2.2.2.2.2.2.2.2.2.2.2.2.2.2.2.2.2.2.2.2.2.2.2.2.2.2.2.2.2.2.2.1,
   hP.2.2.2.2.2.2.2.2.2.2.2.2.2.2.2.2.2.2.2.2.2.2.2.2.2.2.2.2.2.2.2.2.2.2.2.2.2.2.2.2.2.2.2.2.2.2.2.2.2.2.2.2.2.2.2.2.2.2.2.2.2.2.1,
   hP.2.2.2.2.2.2.2.2.2.2.2.2.2.2.2.2.2.2.2.2.2.2.2.2.2.2.2.2.2.2.2.2.2.2.2.2.2.2.2.2.2.2.2.2.2.2.2.2.2.2.2.2.2.2.2.2.2.2.2.2.2.2.2.1,
   hP.2.2.2.2.2.2.2.2.2.2.2.2.2.2.2.2.2.2.2.2.2.2.2.2.2.2.2.2.2.2.2.2.2.2.2.2.2.2.2.2.2.2.2.2.2.2.2.2.2.2.2.2.2.2.2.2.2.2.2.2.2.2.2.2.1,
   hP.2.2.2.2.2.2.2.2.2.2.2.2.2.2.2.2.2.2.2.2.2.2.2.2.2.2.2.2.2.2.2.2.2.2.2.2.2.2.2.2.2.2.2.2.2.2.2.2.2.2.2.2.2.2.2.2.2.2.2.2.2.2.2.2.2.1,
   hP.2.2.2.2.2.2.2.2.2.2.2.2.2.2.2.2.2.2.2.2.2.2.2.2.2.2.2.2.2.2.2.2.2.2.2.2.2.2.2.2.2.2.2.2.2.2.2.2.2.2.2.2.2.2.2.2.2.2.2.2.2.2.2.2.2.2.1,
   hP.2.2.2.2.2.2.2.2.2.2.2.2.2.2.2.2.2.2.2.2.2.2.2.2.2.2.2.2.2.2.2.2.2.2.2.2.2.2.2.2.2.2.2.2.2.2.2.2.2.2.2.2.2.2.2.2.2.2.2.2.2.2.2.2.2.2.2.1,
   hP.2.2.2.2.2.2.2.2.2.2.2.2.2.2.2.2.2.2.2.2.2.2.2.2.2.2.2.2.2.2.2.2.2.2.2.2.2.2.2.2.2.2.2.2.2.2.2.2.2.2.2.2.2.2.2.2.2.2.2.2.2.2.2.2.2.2.2.2.1,
   hP.2.2.2.2.2.2.2.2.2.2.2.2.2.2.2.2.2.2.2.2.2.2.2.2.2.2.2.2.2.2.2.2.2.2.2.2.2.2.2.2.2.2.2.2.2.2.2.2.2.2.2.2.2.2.2.2.2.2.2.2.2.2.2.2.2.2.2.2.2.1,
   hP.2.2.2.2.2.2.2.2.2.2.2.2.2.2.2.2.2.2.2.2.2.2.2.2.2.2.2.2.2.2.2.2.2.2.2.2.2.2.2.2.2.2.2.2.2.2.2.2.2.2.2.2.2.2.2.2.2.2.2.2.2.2.2.2.2.2.2.2.2.2.1,
   (fun pc ls st h nc ns ix a0 a n0 n1 i0 j0 N sp dp n f g h2 hd hm hd1 ha0 ha hi hj hN h4 h5 hr hu kk => hP.2.2.2.2.2.2.2.2.2.2.2.2.2.2.2.2.2.2.2.2.2.2.2.2.2.2.2.2.2.2.2.2.2.2.2.2.2.2.2.2.2.2.2.2.2.2.2.2.2.2.2.2.2.2.2.2.2.2.2.2.2.2.2.2.2.2.2.2.2.2.2.1 pc ls st h nc ns ix a0 a n0 n1 i0 j0 N sp dp n f g h2 hd hm (Nat.le_trans hd1 hdd) ha0 ha hi hj hN h4 h5 hr hu kk),
   (fun pc ls st h nc ns ix x y hd hm hd1 hr kk => hP.2.2.2.2.2.2.2.2.2.2.2.2.2.2.2.2.2.2.2.2.2.2.2.2.2.2.2.2.2.2.2.2.2.2.2.2.2.2.2.2.2.2.2.2.2.2.2.2.2.2.2.2.2.2.2.2.2.2.2.2.2.2.2.2.2.2.2.2.2.2.2.2.1 pc ls st h nc ns ix x y hd hm (Nat.le_trans hd1 hdd) hr kk),
   (fun pc ls st h nc ns ix x y hd hm hd1 hr kk => hP.2.2.2.2.2.2.2.2.2.2.2.2.2.2.2.2.2.2.2.2.2.2.2.2.2.2.2.2.2.2.2.2.2.2.2.2.2.2.2.2.2.2.2.2.2.2.2.2.2.2.2.2.2.2.2.2.2.2.2.2.2.2.2.2.2.2.2.2.2.2.2.2.2.1 pc ls st h nc ns ix x y hd hm (Nat.le_trans hd1 hdd) hr kk),
   (fun pc ls st h nc ns ix a hd hm hd1 hr kk => hP.2.2.2.2.2.2.2.2.2.2.2.2.2.2.2.2.2.2.2.2.2.2.2.2.2.2.2.2.2.2.2.2.2.2.2.2.2.2.2.2.2.2.2.2.2.2.2.2.2.2.2.2.2.2.2.2.2.2.2.2.2.2.2.2.2.2.2.2.2.2.2.2.2.2.1 pc ls st h nc ns ix a hd hm (Nat.le_trans hd1 hdd) hr kk),
   (fun pc ls st h nc ns x hd ho hd1 hx hr kk => hP.2.2.2.2.2.2.2.2.2.2.2.2.2.2.2.2.2.2.2.2.2.2.2.2.2.2.2.2.2.2.2.2.2.2.2.2.2.2.2.2.2.2.2.2.2.2.2.2.2.2.2.2.2.2.2.2.2.2.2.2.2.2.2.2.2.2.2.2.2.2.2.2.2.2.2.1 pc ls st h nc ns x hd ho (Nat.le_trans hd1 hdd) hx hr kk),
   (fun pc ls st h nc ns ix b as rest fs mc ms y yn bs mL mr mo np ps hd hm ht hst hlen hb hr hmo k => hP.2.2.2.2.2.2.2.2.2.2.2.2.2.2.2.2.2.2.2.2.2.2.2.2.2.2.2.2.2.2.2.2.2.2.2.2.2.2.2.2.2.2.2.2.2.2.2.2.2.2.2.2.2.2.2.2.2.2.2.2.2.2.2.2.2.2.2.2.2.2.2.2.2.2.2.2.1 pc ls st h nc ns ix b as rest fs mc ms y yn bs mL mr mo np ps hd hm ht hst hlen hb hr hmo (hC _ _ _ _ _ _ k)),
   (fun pc ls st h nc ns ix as rest mc ms y yn bs mL mr mo np mh ps hd hm ht hst hlen hr k => hP.2.2.2.2.2.2.2.2.2.2.2.2.2.2.2.2.2.2.2.2.2.2.2.2.2.2.2.2.2.2.2.2.2.2.2.2.2.2.2.2.2.2.2.2.2.2.2.2.2.2.2.2.2.2.2.2.2.2.2.2.2.2.2.2.2.2.2.2.2.2.2.2.2.2.2.2.2.1 pc ls st h nc ns ix as rest mc ms y yn bs mL mr mo np mh ps hd hm ht hst hlen hr (hC _ _ _ _ _ _ k)),
   (fun pc ls st h nc ns ix b as rest mc ms y yn bs mL mo np ps hd hm ht hst hlen hr k => hP.2.2.2.2.2.2.2.2.2.2.2.2.2.2.2.2.2.2.2.2.2.2.2.2.2.2.2.2.2.2.2.2.2.2.2.2.2.2.2.2.2.2.2.2.2.2.2.2.2.2.2.2.2.2.2.2.2.2.2.2.2.2.2.2.2.2.2.2.2.2.2.2.2.2.2.2.2.2.1 pc ls st h nc ns ix b as rest mc ms y yn bs mL mo np ps hd hm ht hst hlen hr (hC _ _ _ _ _ _ k)),
   (fun pc ls st h nc ns ix b as rest mc ms y yn bs mL mo np ps hd hm ht hst hlen hr k => hP.2.2.2.2.2.2.2.2.2.2.2.2.2.2.2.2.2.2.2.2.2.2.2.2.2.2.2.2.2.2.2.2.2.2.2.2.2.2.2.2.2.2.2.2.2.2.2.2.2.2.2.2.2.2.2.2.2.2.2.2.2.2.2.2.2.2.2.2.2.2.2.2.2.2.2.2.2.2.2.1 pc ls st h nc ns ix b as rest mc ms y yn bs mL mo np ps hd hm ht hst hlen hr (hC _ _ _ _ _ _ k)),
   (fun pc ls st h nc ns v ty hd hr hn hq => hP.2.2.2.2.2.2.2.2.2.2.2.2.2.2.2.2.2.2.2.2.2.2.2.2.2.2.2.2.2.2.2.2.2.2.2.2.2.2.2.2.2.2.2.2.2.2.2.2.2.2.2.2.2.2.2.2.2.2.2.2.2.2.2.2.2.2.2.2.2.2.2.2.2.2.2.2.2.2.2.2.1 pc ls st h nc ns v ty hd hr hn (hQ _ _ hq)),
   (fun pc ls st h nc ns hd hr hq => hP.2.2.2.2.2.2.2.2.2.2.2.2.2.2.2.2.2.2.2.2.2.2.2.2.2.2.2.2.2.2.2.2.2.2.2.2.2.2.2.2.2.2.2.2.2.2.2.2.2.2.2.2.2.2.2.2.2.2.2.2.2.2.2.2.2.2.2.2.2.2.2.2.2.2.2.2.2.2.2.2.2.1 pc ls st h nc ns hd hr (hQ _ _ hq)),
   (fun pc ls st h nc ns a ty hd hr hq => hP.2.2.2.2.2.2.2.2.2.2.2.2.2.2.2.2.2.2.2.2.2.2.2.2.2.2.2.2.2.2.2.2.2.2.2.2.2.2.2.2.2.2.2.2.2.2.2.2.2.2.2.2.2.2.2.2.2.2.2.2.2.2.2.2.2.2.2.2.2.2.2.2.2.2.2.2.2.2.2.2.2.2.1 pc ls st h nc ns a ty hd hr (hQ _ _ hq)),
   (fun pc ls st h nc ns v hd hr hq => hP.2.2.2.2.2.2.2.2.2.2.2.2.2.2.2.2.2.2.2.2.2.2.2.2.2.2.2.2.2.2.2.2.2.2.2.2.2.2.2.2.2.2.2.2.2.2.2.2.2.2.2.2.2.2.2.2.2.2.2.2.2.2.2.2.2.2.2.2.2.2.2.2.2.2.2.2.2.2.2.2.2.2.2.1 pc ls st h nc ns v hd hr (hQ _ _ hq)),
   (fun pc ls st h nc ns ik ic is E tx d0 d3 d4 d6 d9 he hs ho hd6 hhh hq => hP.2.2.2.2.2.2.2.2.2.2.2.2.2.2.2.2.2.2.2.2.2.2.2.2.2.2.2.2.2.2.2.2.2.2.2.2.2.2.2.2.2.2.2.2.2.2.2.2.2.2.2.2.2.2.2.2.2.2.2.2.2.2.2.2.2.2.2.2.2.2.2.2.2.2.2.2.2.2.2.2.2.2.2.2.1 pc ls st h nc ns ik ic is E tx d0 d3 d4 d6 d9 he hs ho (Nat.le_trans hd6 hdd) hhh (hQ _ _ hq)),
   (fun pc ls st h nc ns ik ic is E tx d0 d3 d4 d6 d9 he hs ho hd6 hhh hq => hP.2.2.2.2.2.2.2.2.2.2.2.2.2.2.2.2.2.2.2.2.2.2.2.2.2.2.2.2.2.2.2.2.2.2.2.2.2.2.2.2.2.2.2.2.2.2.2.2.2.2.2.2.2.2.2.2.2.2.2.2.2.2.2.2.2.2.2.2.2.2.2.2.2.2.2.2.2.2.2.2.2.2.2.2.2.1 pc ls st h nc ns ik ic is E tx d0 d3 d4 d6 d9 he hs ho (Nat.le_trans hd6 hdd) hhh (hQ _ _ hq)),
   hP.2.2.2.2.2.2.2.2.2.2.2.2.2.2.2.2.2.2.2.2.2.2.2.2.2.2.2.2.2.2.2.2.2.2.2.2.2.2.2.2.2.2.2.2.2.2.2.2.2.2.2.2.2.2.2.2.2.2.2.2.2.2.2.2.2.2.2.2.2.2.2.2.2.2.2.2.2.2.2.2.2.2.2.2.2.2⟩
theorem pz_Cd_mono (en : pz_Env) : ∀ (d1 d2 : Nat), d1 ≤ d2 → ∀ (y : Nat) (a : List Value) (h : pz_H) (mc ms : Nat) (Q1 Q2 : pz_Q), (∀ o h, Q1 o h → Q2 o h) → pz_Cd en d1 y a h mc ms Q1 → pz_Cd en d2 y a h mc ms Q2 := by
  intro d1
  induction d1 with
  | zero => intro d2 _ y a h mc ms Q1 Q2 _ hc; exact hc.elim
  | succ d1 ih =>
    intro d2 hd y a h mc ms Q1 Q2 hQ hc
    cases d2 with
    | zero => exact absurd hd (by omega)
    | succ d2 =>
      unfold pz_Cd at hc ⊢
      split at hc
      · next heq =>
        refine ⟨hc.1, hc.2.1, fun P hP => hc.2.2 P (pz_Cl_mono hd (fun y a h mc ms Q hq => ih d2 (by omega) y a h mc ms Q Q (fun _ _ z => z) hq) hQ hP)⟩
      · exact hc.elim
section pz_calls
variable {d : Nat} {en : pz_Env} {own : Nat} {cc : ByteArray} {nL : Nat} {rt : Option FieldType} {hh : List (Nat × Nat × Nat × Nat)} {ini : Bool} {Q : pz_Q}
variable {pc : Nat} {ls : List (Option Value)} {st : List Value} {h : pz_H} {nc ns : Nat}
theorem pr_cv0 {ix b : Nat} {k0 : Nat} {fs : List Value} {y : Nat} {yn : MethodName} {bs : ByteArray} {mL : Nat} {mr : Option FieldType} {mo np : Nat} {mh : List (Nat × Nat × Nat × Nat)} {ps : List Nat} {Qs : pz_Q} (hd : decode cc pc = .ok (.invokevirtual ix, 3)) (hm : pz_mth own ix = some y) (ht : pz_tab y = some (yn, bs, mL, mr, mo, 0, 1, [], ps)) (hb : h b = some (.inr (mo, fs))) (hC : pz_Cd en k0 y (.ref b :: []) h 0 0 Qs) (k : ∀ o h2, Qs o h2 → ∃ v, o = .inl v ∧ pz_WP d en (pz_Cd en (d - 1)) own cc nL rt hh ini Q (pc + 3) ls (v.toList ++ st) h2 nc ns) (hmo : mo < 8 := by decide) (hk : k0 ≤ d - 1 := by decide) (hr : st.length ≤ 3 := by first | exact Nat.le_of_ble_eq_true rfl | decide) : pz_WP d en (pz_Cd en (d - 1)) own cc nL rt hh ini Q pc ls (.ref b :: st) h nc ns :=
  pr_callv (as := []) (rest := st) (mc := 0) (ms := 0) hd hm ht rfl rfl hb hr hmo (pz_Cd_mono en (d - 1) (d - 1) (Nat.le_refl _)) (Qs := Qs) (pz_Cd_mono en k0 (d - 1) hk _ _ _ _ _ _ _ (fun _ _ z => z) hC) (fun o h2 hq => by obtain ⟨v, e, q⟩ := k o h2 hq; subst e; exact q)
theorem pr_cs0 {ix : Nat} {k0 : Nat} {y : Nat} {yn : MethodName} {bs : ByteArray} {mL : Nat} {mr : Option FieldType} {mo np : Nat} {mh : List (Nat × Nat × Nat × Nat)} {ps : List Nat} {Qs : pz_Q} (hd : decode cc pc = .ok (.invokestatic ix, 3)) (hm : pz_mth own ix = some y) (ht : pz_tab y = some (yn, bs, mL, mr, mo, 0, 0, [], ps)) (hC : pz_Cd en k0 y [] h 0 0 Qs) (k : ∀ o h2, Qs o h2 → ∃ v, o = .inl v ∧ pz_WP d en (pz_Cd en (d - 1)) own cc nL rt hh ini Q (pc + 3) ls (v.toList ++ st) h2 nc ns) (hk : k0 ≤ d - 1 := by decide) (hr : st.length ≤ 3 := by first | exact Nat.le_of_ble_eq_true rfl | decide) : pz_WP d en (pz_Cd en (d - 1)) own cc nL rt hh ini Q pc ls (st) h nc ns :=
  pr_calls (as := []) (rest := st) (mc := 0) (ms := 0) hd hm ht rfl rfl hr (pz_Cd_mono en (d - 1) (d - 1) (Nat.le_refl _)) (Qs := Qs) (pz_Cd_mono en k0 (d - 1) hk _ _ _ _ _ _ _ (fun _ _ z => z) hC) (fun o h2 hq => by obtain ⟨v, e, q⟩ := k o h2 hq; subst e; exact q)
theorem pr_cv1 {ix b : Nat} {k0 : Nat} {fs : List Value} {v1 : Value} {y : Nat} {yn : MethodName} {bs : ByteArray} {mL : Nat} {mr : Option FieldType} {mo np : Nat} {mh : List (Nat × Nat × Nat × Nat)} {ps : List Nat} {Qs : pz_Q} (hd : decode cc pc = .ok (.invokevirtual ix, 3)) (hm : pz_mth own ix = some y) (ht : pz_tab y = some (yn, bs, mL, mr, mo, 1, 1, [], ps)) (hb : h b = some (.inr (mo, fs))) (hC : pz_Cd en k0 y (.ref b :: [v1]) h 0 0 Qs) (k : ∀ o h2, Qs o h2 → ∃ v, o = .inl v ∧ pz_WP d en (pz_Cd en (d - 1)) own cc nL rt hh ini Q (pc + 3) ls (v.toList ++ st) h2 nc ns) (hmo : mo < 8 := by decide) (hk : k0 ≤ d - 1 := by decide) (hr : st.length ≤ 3 := by first | exact Nat.le_of_ble_eq_true rfl | decide) : pz_WP d en (pz_Cd en (d - 1)) own cc nL rt hh ini Q pc ls (v1 :: .ref b :: st) h nc ns :=
  pr_callv (as := [v1]) (rest := st) (mc := 0) (ms := 0) hd hm ht rfl rfl hb hr hmo (pz_Cd_mono en (d - 1) (d - 1) (Nat.le_refl _)) (Qs := Qs) (pz_Cd_mono en k0 (d - 1) hk _ _ _ _ _ _ _ (fun _ _ z => z) hC) (fun o h2 hq => by obtain ⟨v, e, q⟩ := k o h2 hq; subst e; exact q)
theorem pr_cs1 {ix : Nat} {k0 : Nat} {v1 : Value} {y : Nat} {yn : MethodName} {bs : ByteArray} {mL : Nat} {mr : Option FieldType} {mo np : Nat} {mh : List (Nat × Nat × Nat × Nat)} {ps : List Nat} {Qs : pz_Q} (hd : decode cc pc = .ok (.invokestatic ix, 3)) (hm : pz_mth own ix = some y) (ht : pz_tab y = some (yn, bs, mL, mr, mo, 1, 0, [], ps)) (hC : pz_Cd en k0 y [v1] h 0 0 Qs) (k : ∀ o h2, Qs o h2 → ∃ v, o = .inl v ∧ pz_WP d en (pz_Cd en (d - 1)) own cc nL rt hh ini Q (pc + 3) ls (v.toList ++ st) h2 nc ns) (hk : k0 ≤ d - 1 := by decide) (hr : st.length ≤ 3 := by first | exact Nat.le_of_ble_eq_true rfl | decide) : pz_WP d en (pz_Cd en (d - 1)) own cc nL rt hh ini Q pc ls (v1 :: st) h nc ns :=
  pr_calls (as := [v1]) (rest := st) (mc := 0) (ms := 0) hd hm ht rfl rfl hr (pz_Cd_mono en (d - 1) (d - 1) (Nat.le_refl _)) (Qs := Qs) (pz_Cd_mono en k0 (d - 1) hk _ _ _ _ _ _ _ (fun _ _ z => z) hC) (fun o h2 hq => by obtain ⟨v, e, q⟩ := k o h2 hq; subst e; exact q)
theorem pr_cv2 {ix b : Nat} {k0 : Nat} {fs : List Value} {v1 v2 : Value} {y : Nat} {yn : MethodName} {bs : ByteArray} {mL : Nat} {mr : Option FieldType} {mo np : Nat} {mh : List (Nat × Nat × Nat × Nat)} {ps : List Nat} {Qs : pz_Q} (hd : decode cc pc = .ok (.invokevirtual ix, 3)) (hm : pz_mth own ix = some y) (ht : pz_tab y = some (yn, bs, mL, mr, mo, 2, 1, [], ps)) (hb : h b = some (.inr (mo, fs))) (hC : pz_Cd en k0 y (.ref b :: [v1, v2]) h 0 0 Qs) (k : ∀ o h2, Qs o h2 → ∃ v, o = .inl v ∧ pz_WP d en (pz_Cd en (d - 1)) own cc nL rt hh ini Q (pc + 3) ls (v.toList ++ st) h2 nc ns) (hmo : mo < 8 := by decide) (hk : k0 ≤ d - 1 := by decide) (hr : st.length ≤ 3 := by first | exact Nat.le_of_ble_eq_true rfl | decide) : pz_WP d en (pz_Cd en (d - 1)) own cc nL rt hh ini Q pc ls (v2 :: v1 :: .ref b :: st) h nc ns :=
  pr_callv (as := [v1, v2]) (rest := st) (mc := 0) (ms := 0) hd hm ht rfl rfl hb hr hmo (pz_Cd_mono en (d - 1) (d - 1) (Nat.le_refl _)) (Qs := Qs) (pz_Cd_mono en k0 (d - 1) hk _ _ _ _ _ _ _ (fun _ _ z => z) hC) (fun o h2 hq => by obtain ⟨v, e, q⟩ := k o h2 hq; subst e; exact q)
theorem pr_cs2 {ix : Nat} {k0 : Nat} {v1 v2 : Value} {y : Nat} {yn : MethodName} {bs : ByteArray} {mL : Nat} {mr : Option FieldType} {mo np : Nat} {mh : List (Nat × Nat × Nat × Nat)} {ps : List Nat} {Qs : pz_Q} (hd : decode cc pc = .ok (.invokestatic ix, 3)) (hm : pz_mth own ix = some y) (ht : pz_tab y = some (yn, bs, mL, mr, mo, 2, 0, [], ps)) (hC : pz_Cd en k0 y [v1, v2] h 0 0 Qs) (k : ∀ o h2, Qs o h2 → ∃ v, o = .inl v ∧ pz_WP d en (pz_Cd en (d - 1)) own cc nL rt hh ini Q (pc + 3) ls (v.toList ++ st) h2 nc ns) (hk : k0 ≤ d - 1 := by decide) (hr : st.length ≤ 3 := by first | exact Nat.le_of_ble_eq_true rfl | decide) : pz_WP d en (pz_Cd en (d - 1)) own cc nL rt hh ini Q pc ls (v2 :: v1 :: st) h nc ns :=
  pr_calls (as := [v1, v2]) (rest := st) (mc := 0) (ms := 0) hd hm ht rfl rfl hr (pz_Cd_mono en (d - 1) (d - 1) (Nat.le_refl _)) (Qs := Qs) (pz_Cd_mono en k0 (d - 1) hk _ _ _ _ _ _ _ (fun _ _ z => z) hC) (fun o h2 hq => by obtain ⟨v, e, q⟩ := k o h2 hq; subst e; exact q)
theorem pr_cv3 {ix b : Nat} {k0 : Nat} {fs : List Value} {v1 v2 v3 : Value} {y : Nat} {yn : MethodName} {bs : ByteArray} {mL : Nat} {mr : Option FieldType} {mo np : Nat} {mh : List (Nat × Nat × Nat × Nat)} {ps : List Nat} {Qs : pz_Q} (hd : decode cc pc = .ok (.invokevirtual ix, 3)) (hm : pz_mth own ix = some y) (ht : pz_tab y = some (yn, bs, mL, mr, mo, 3, 1, [], ps)) (hb : h b = some (.inr (mo, fs))) (hC : pz_Cd en k0 y (.ref b :: [v1, v2, v3]) h 0 0 Qs) (k : ∀ o h2, Qs o h2 → ∃ v, o = .inl v ∧ pz_WP d en (pz_Cd en (d - 1)) own cc nL rt hh ini Q (pc + 3) ls (v.toList ++ st) h2 nc ns) (hmo : mo < 8 := by decide) (hk : k0 ≤ d - 1 := by decide) (hr : st.length ≤ 3 := by first | exact Nat.le_of_ble_eq_true rfl | decide) : pz_WP d en (pz_Cd en (d - 1)) own cc nL rt hh ini Q pc ls (v3 :: v2 :: v1 :: .ref b :: st) h nc ns :=
  pr_callv (as := [v1, v2, v3]) (rest := st) (mc := 0) (ms := 0) hd hm ht rfl rfl hb hr hmo (pz_Cd_mono en (d - 1) (d - 1) (Nat.le_refl _)) (Qs := Qs) (pz_Cd_mono en k0 (d - 1) hk _ _ _ _ _ _ _ (fun _ _ z => z) hC) (fun o h2 hq => by obtain ⟨v, e, q⟩ := k o h2 hq; subst e; exact q)
theorem pr_cs3 {ix : Nat} {k0 : Nat} {v1 v2 v3 : Value} {y : Nat} {yn : MethodName} {bs : ByteArray} {mL : Nat} {mr : Option FieldType} {mo np : Nat} {mh : List (Nat × Nat × Nat × Nat)} {ps : List Nat} {Qs : pz_Q} (hd : decode cc pc = .ok (.invokestatic ix, 3)) (hm : pz_mth own ix = some y) (ht : pz_tab y = some (yn, bs, mL, mr, mo, 3, 0, [], ps)) (hC : pz_Cd en k0 y [v1, v2, v3] h 0 0 Qs) (k : ∀ o h2, Qs o h2 → ∃ v, o = .inl v ∧ pz_WP d en (pz_Cd en (d - 1)) own cc nL rt hh ini Q (pc + 3) ls (v.toList ++ st) h2 nc ns) (hk : k0 ≤ d - 1 := by decide) (hr : st.length ≤ 3 := by first | exact Nat.le_of_ble_eq_true rfl | decide) : pz_WP d en (pz_Cd en (d - 1)) own cc nL rt hh ini Q pc ls (v3 :: v2 :: v1 :: st) h nc ns :=
  pr_calls (as := [v1, v2, v3]) (rest := st) (mc := 0) (ms := 0) hd hm ht rfl rfl hr (pz_Cd_mono en (d - 1) (d - 1) (Nat.le_refl _)) (Qs := Qs) (pz_Cd_mono en k0 (d - 1) hk _ _ _ _ _ _ _ (fun _ _ z => z) hC) (fun o h2 hq => by obtain ⟨v, e, q⟩ := k o h2 hq; subst e; exact q)
theorem pr_cv4 {ix b : Nat} {k0 : Nat} {fs : List Value} {v1 v2 v3 v4 : Value} {y : Nat} {yn : MethodName} {bs : ByteArray} {mL : Nat} {mr : Option FieldType} {mo np : Nat} {mh : List (Nat × Nat × Nat × Nat)} {ps : List Nat} {Qs : pz_Q} (hd : decode cc pc = .ok (.invokevirtual ix, 3)) (hm : pz_mth own ix = some y) (ht : pz_tab y = some (yn, bs, mL, mr, mo, 4, 1, [], ps)) (hb : h b = some (.inr (mo, fs))) (hC : pz_Cd en k0 y (.ref b :: [v1, v2, v3, v4]) h 0 0 Qs) (k : ∀ o h2, Qs o h2 → ∃ v, o = .inl v ∧ pz_WP d en (pz_Cd en (d - 1)) own cc nL rt hh ini Q (pc + 3) ls (v.toList ++ st) h2 nc ns) (hmo : mo < 8 := by decide) (hk : k0 ≤ d - 1 := by decide) (hr : st.length ≤ 3 := by first | exact Nat.le_of_ble_eq_true rfl | decide) : pz_WP d en (pz_Cd en (d - 1)) own cc nL rt hh ini Q pc ls (v4 :: v3 :: v2 :: v1 :: .ref b :: st) h nc ns :=
  pr_callv (as := [v1, v2, v3, v4]) (rest := st) (mc := 0) (ms := 0) hd hm ht rfl rfl hb hr hmo (pz_Cd_mono en (d - 1) (d - 1) (Nat.le_refl _)) (Qs := Qs) (pz_Cd_mono en k0 (d - 1) hk _ _ _ _ _ _ _ (fun _ _ z => z) hC) (fun o h2 hq => by obtain ⟨v, e, q⟩ := k o h2 hq; subst e; exact q)
theorem pr_cs4 {ix : Nat} {k0 : Nat} {v1 v2 v3 v4 : Value} {y : Nat} {yn : MethodName} {bs : ByteArray} {mL : Nat} {mr : Option FieldType} {mo np : Nat} {mh : List (Nat × Nat × Nat × Nat)} {ps : List Nat} {Qs : pz_Q} (hd : decode cc pc = .ok (.invokestatic ix, 3)) (hm : pz_mth own ix = some y) (ht : pz_tab y = some (yn, bs, mL, mr, mo, 4, 0, [], ps)) (hC : pz_Cd en k0 y [v1, v2, v3, v4] h 0 0 Qs) (k : ∀ o h2, Qs o h2 → ∃ v, o = .inl v ∧ pz_WP d en (pz_Cd en (d - 1)) own cc nL rt hh ini Q (pc + 3) ls (v.toList ++ st) h2 nc ns) (hk : k0 ≤ d - 1 := by decide) (hr : st.length ≤ 3 := by first | exact Nat.le_of_ble_eq_true rfl | decide) : pz_WP d en (pz_Cd en (d - 1)) own cc nL rt hh ini Q pc ls (v4 :: v3 :: v2 :: v1 :: st) h nc ns :=
  pr_calls (as := [v1, v2, v3, v4]) (rest := st) (mc := 0) (ms := 0) hd hm ht rfl rfl hr (pz_Cd_mono en (d - 1) (d - 1) (Nat.le_refl _)) (Qs := Qs) (pz_Cd_mono en k0 (d - 1) hk _ _ _ _ _ _ _ (fun _ _ z => z) hC) (fun o h2 hq => by obtain ⟨v, e, q⟩ := k o h2 hq; subst e; exact q)
theorem pr_cv5 {ix b : Nat} {k0 : Nat} {fs : List Value} {v1 v2 v3 v4 v5 : Value} {y : Nat} {yn : MethodName} {bs : ByteArray} {mL : Nat} {mr : Option FieldType} {mo np : Nat} {mh : List (Nat × Nat × Nat × Nat)} {ps : List Nat} {Qs : pz_Q} (hd : decode cc pc = .ok (.invokevirtual ix, 3)) (hm : pz_mth own ix = some y) (ht : pz_tab y = some (yn, bs, mL, mr, mo, 5, 1, [], ps)) (hb : h b = some (.inr (mo, fs))) (hC : pz_Cd en k0 y (.ref b :: [v1, v2, v3, v4, v5]) h 0 0 Qs) (k : ∀ o h2, Qs o h2 → ∃ v, o = .inl v ∧ pz_WP d en (pz_Cd en (d - 1)) own cc nL rt hh ini Q (pc + 3) ls (v.toList ++ st) h2 nc ns) (hmo : mo < 8 := by decide) (hk : k0 ≤ d - 1 := by decide) (hr : st.length ≤ 3 := by first | exact Nat.le_of_ble_eq_true rfl | decide) : pz_WP d en (pz_Cd en (d - 1)) own cc nL rt hh ini Q pc ls (v5 :: v4 :: v3 :: v2 :: v1 :: .ref b :: st) h nc ns :=
  pr_callv (as := [v1, v2, v3, v4, v5]) (rest := st) (mc := 0) (ms := 0) hd hm ht rfl rfl hb hr hmo (pz_Cd_mono en (d - 1) (d - 1) (Nat.le_refl _)) (Qs := Qs) (pz_Cd_mono en k0 (d - 1) hk _ _ _ _ _ _ _ (fun _ _ z => z) hC) (fun o h2 hq => by obtain ⟨v, e, q⟩ := k o h2 hq; subst e; exact q)
theorem pr_cs5 {ix : Nat} {k0 : Nat} {v1 v2 v3 v4 v5 : Value} {y : Nat} {yn : MethodName} {bs : ByteArray} {mL : Nat} {mr : Option FieldType} {mo np : Nat} {mh : List (Nat × Nat × Nat × Nat)} {ps : List Nat} {Qs : pz_Q} (hd : decode cc pc = .ok (.invokestatic ix, 3)) (hm : pz_mth own ix = some y) (ht : pz_tab y = some (yn, bs, mL, mr, mo, 5, 0, [], ps)) (hC : pz_Cd en k0 y [v1, v2, v3, v4, v5] h 0 0 Qs) (k : ∀ o h2, Qs o h2 → ∃ v, o = .inl v ∧ pz_WP d en (pz_Cd en (d - 1)) own cc nL rt hh ini Q (pc + 3) ls (v.toList ++ st) h2 nc ns) (hk : k0 ≤ d - 1 := by decide) (hr : st.length ≤ 3 := by first | exact Nat.le_of_ble_eq_true rfl | decide) : pz_WP d en (pz_Cd en (d - 1)) own cc nL rt hh ini Q pc ls (v5 :: v4 :: v3 :: v2 :: v1 :: st) h nc ns :=
  pr_calls (as := [v1, v2, v3, v4, v5]) (rest := st) (mc := 0) (ms := 0) hd hm ht rfl rfl hr (pz_Cd_mono en (d - 1) (d - 1) (Nat.le_refl _)) (Qs := Qs) (pz_Cd_mono en k0 (d - 1) hk _ _ _ _ _ _ _ (fun _ _ z => z) hC) (fun o h2 hq => by obtain ⟨v, e, q⟩ := k o h2 hq; subst e; exact q)
end pz_calls
end
section
section PZT
def pz_chain (X : String) (ix : Nat) (rx : ByteArray) : List String → List Cond
  | [] => Bundle.passSAtoms X Bundle.tN ix rx
  | Y :: r => Bundle.passSAtoms X Y ix rx ++ Bundle.chainSAtoms Y r
def pz_own (own : String) (ic : Nat) (X : String) (ix : Nat) (rx : ByteArray) (names : List String) : List Cond :=
  Bundle.throwableAtoms ++ Bundle.throwableSAtoms ++ pz_chain X ix rx names ++
  [.methodLink own ic (Bundle.initS X), .instantiable X 6, .castable X X, .selects X Bundle.tFill0 Bundle.tFill0, .selects X Bundle.tFill Bundle.tFill,
   .lays X Bundle.tN "cause" "Ljava/lang/Throwable;", .lays X Bundle.tN "stackTrace" Bundle.steD, .lays X Bundle.tN "suppressedExceptions" Bundle.listD, .lays X Bundle.tN "detailMessage" "Ljava/lang/String;",
   .isRef (.static Bundle.tN "UNASSIGNED_STACK" Bundle.steD), .isRef (.static Bundle.tN "SUPPRESSED_SENTINEL" Bundle.listD),
   .fieldLink Bundle.tN 198 Bundle.tN "backtrace" "Ljava/lang/Object;", .lays Bundle.tN Bundle.tN "backtrace" "Ljava/lang/Object;", .lays X Bundle.tN "backtrace" "Ljava/lang/Object;"]
theorem pz_chainS {args : Array Value} {s : State} {pl : Platform} (hpl : pl.magicAccessors = ({} : Platform).magicAccessors) {top : MethodId} (htop : s.methodNamed? (Bundle.initS Bundle.tN) = some top)
    {ix : Nat} {rx : ByteArray} (x0 : decode rx 0 = .ok (.aload_n 0, 1)) (x1 : decode rx 1 = .ok (.aload_n 1, 1)) (x2 : decode rx 2 = .ok (.invokespecial ix, 3)) (x5 : decode rx 5 = .ok (.return_, 1))
    (names : List String) (X : String) (hX : Bundle.fit X = true) (hn : ∀ n ∈ names, Bundle.fit n = true) (h : ∀ c ∈ pz_chain X ix rx names, c.before args s = true) :
      ∃ (P1 : PassC) (Ps : List PassC), Ps.length = names.length ∧ P1.LinksS pl s ∧ (∀ P, P ∈ Ps → P.LinksS pl s) ∧ s.methodNamed? (Bundle.initS X) = some P1.m ∧
        P1.sup = firstOf top (Ps.map (·.toPassT)) ∧ PassesOn top (Ps.map (·.toPassT)) := by
  cases names with
  | nil =>
    obtain ⟨P, L, hm, hs⟩ := PassC.ofS_atoms (args := args) (s := s) hpl (X := X) (Y := Bundle.tN) (Bundle.fit_spec hX).1 (by decide) x0 x1 x2 x5 h
    exact ⟨P, [], rfl, L, (fun _ hP => by cases hP), hm, Option.some.inj (hs.symm.trans htop), trivial⟩
  | cons Y r =>
    obtain ⟨P, L, hm, hs⟩ := PassC.ofS_atoms (args := args) (s := s) hpl (X := X) (Y := Y) (Bundle.fit_spec hX).1 (Bundle.fit_spec (hn Y List.mem_cons_self)).2 x0 x1 x2 x5
      (fun c hc => h c (by simp only [pz_chain, List.mem_append]; exact Or.inl hc))
    obtain ⟨P', Ps, hlen, L', hL, hm', hsup, hpass⟩ := Bundle.chainS (args := args) hpl htop r Y (hn Y List.mem_cons_self) (fun n hn' => hn n (List.mem_cons_of_mem _ hn')) (fun c hc => h c (by simp only [pz_chain, List.mem_append]; exact Or.inr hc))
    refine ⟨P, P' :: Ps, by simp [hlen], L, ?_, hm, Option.some.inj (hs.symm.trans hm'), hsup, hpass⟩
    intro Q hQ
    rcases List.mem_cons.mp hQ with rfl | hQ
    · exact L'
    · exact hL Q hQ
section PZT1
variable {p : Program} {l : Launch} {e : Env} {R : Room} {s : State} {m₀ : MethodId} {args : Array Value} {below : List Frame} {meth : Method} {c : Code} {W : State} {locs : List Loc} {cells slots : Nat}
set_option maxHeartbeats 1000000 in
theorem pz_ctorThrow (X : Stand p l e R s m₀ args below meth c W locs cells slots) (hexec : p.tables.exec = Jvm.exec) (htr : e.platform.stackTraces = false) {own cls : String} {names : List String} {ic : Nat} {ix : Nat} {rx : ByteArray} (x0 : decode rx 0 = .ok (.aload_n 0, 1)) (x1 : decode rx 1 = .ok (.aload_n 1, 1)) (x2 : decode rx 2 = .ok (.invokespecial ix, 3)) (x5 : decode rx 5 = .ok (.return_, 1))
    (hown : s.vm.findClass own = some m₀.cls) (hcls : Bundle.fit cls = true) (hnames : ∀ n ∈ names, Bundle.fit n = true)
    (h : ∀ a ∈ pz_own own ic cls ix rx names, a.before args s = true)
    (hlocs : ∀ x ∈ locs, ∀ cell, s.heap[x.base]? = some cell → cell.vm.isStatics = false)
    {a : Addr} {cX : ClassId} {kX : Class} (hfoundX : s.vm.findClass cls = some cX) (hkX : s.vm.classes[cX]? = some kX) (hcell : W.heap[a]? = some (freshCell cX kX)) (hnew : s.heap.size ≤ a)
    {msg : Value} (hmsg : msg.isRef = true)
    {g : JFrame} (hg : g.method = m₀) (hsize : g.locals.size = c.maxLocals) (hlocked : g.locked = none) (hentered : g.entered = []) {rest : List Value} (hstack : g.stack = msg :: .ref a :: .ref a :: rest)
    (hd6 : decode c.code g.pc = .ok (.invokespecial ic, 3)) (hd9 : decode c.code (g.pc + 3) = .ok (.athrow, 1)) (hout : ∀ x ∈ c.exceptionTable.toList, covers x (g.pc + 3) = false)
    (hRframes : names.length + 3 < R.frames) (hRlocals : 2 * g.monitorRoom + ((Value.ref a :: rest).map fun v => v.category).sum + (13 * (names.length + 1) + 42) ≤ R.locals) (hlocks : meth.locks = false) :
    ∃ U : State, Steps p.tables e below (W.setTop g) U ∧ U.status = .running ∧ Ended U below (.threw a) ∧ s.WarmedH U.vm ∧ s.sameButNew ({ U with vm := s.vm } : State) locs cells slots ∧
      ∃ ce, U.heap[a]? = some ce ∧ s.vm.findClass cls = some ce.cls ∧ ce.vm = .none := by
  have howns : e.platform.frameOwnsMonitors = true := by rw [X.admits.platform]
  have hfin : e.platform.finalization = false := by rw [X.admits.platform]
  have hpl : e.platform.magicAccessors = ({} : Platform).magicAccessors := by rw [X.admits.platform]
  have a' : ∀ x, x ∈ pz_own own ic cls ix rx names → x.holds args s none s [] = true := fun x hx => h x hx
  obtain ⟨T, Z0, L, -, Y⟩ := ThrowableC.of_atoms (args := args) howns hfin hpl (fun x hx => h x (by simp [pz_own, hx]))
  obtain ⟨Z, M, LZ, LM, hnZ⟩ := Init0T.ofS_atoms (args := args) hpl L Y (fun x hx => h x (by simp [pz_own, hx]))
  obtain ⟨P1, Ps, hlen, L1, hL, hP1m, hlink1, hlink⟩ := pz_chainS (args := args) hpl hnZ x0 x1 x2 x5 names cls hcls hnames (fun x hx => h x (by simp [pz_own, hx]))
  have hfound : s.vm.findClass cls = some P1.m.cls := findClass_of_methodNamed hP1m
  cases Option.some.inj (hfoundX.symm.trans hfound)
  obtain ⟨c1, kX', hc1, hk, hord, -, -, hn6⟩ := Cond.instantiable_spec (a' (.instantiable cls 6) (by simp [pz_own]))
  cases Option.some.inj (hc1.symm.trans hfound)
  cases Option.some.inj (hkX.symm.trans hk)
  have hsel0 : selectMethod e.platform s.vm P1.m.cls T.fill0 = .method T.fill0 := by
    obtain ⟨c2, r2, m2, q1, q2, q3, q4, -⟩ := Cond.selects_spec (a' (.selects cls Bundle.tFill0 Bundle.tFill0) (by simp [pz_own]))
    cases Option.some.inj (q1.symm.trans hfound)
    cases Option.some.inj (q2.symm.trans (State.methodFound?_of_named Y.fill0 (by decide)))
    cases Option.some.inj (q3.symm.trans Y.fill0)
    rw [Launch.admits_selectMethod X.admits]; exact q4
  have hselF : selectMethod e.platform s.vm P1.m.cls T.fill = .method T.fill := by
    obtain ⟨c2, r2, m2, q1, q2, q3, q4, -⟩ := Cond.selects_spec (a' (.selects cls Bundle.tFill Bundle.tFill) (by simp [pz_own]))
    cases Option.some.inj (q1.symm.trans hfound)
    cases Option.some.inj (q2.symm.trans (State.methodFound?_of_named Y.fill (by decide)))
    cases Option.some.inj (q3.symm.trans Y.fill)
    rw [Launch.admits_selectMethod X.admits]; exact q4
  obtain ⟨cellS0, hcS0, hiss⟩ := Y.statics
  obtain ⟨u0, hu0⟩ := Cond.staticRefV Y.unassigned L.unassignedStatic L.statics hcS0 hiss (a' (.isRef (.static Bundle.tN "UNASSIGNED_STACK" Bundle.steD)) (by simp [pz_own]))
  obtain ⟨sen, hsen⟩ := Cond.staticRefV Y.sentinel L.sentinelStatic L.statics hcS0 hiss (a' (.isRef (.static Bundle.tN "SUPPRESSED_SENTINEL" Bundle.listD)) (by simp [pz_own]))
  obtain ⟨ci198, i198, fB, hk198, hg198, ha198, hsB, -, hnB, htB, hffB⟩ := Cond.ownField (t := .object "java/lang/Object") Y.found L.cls (by decide +kernel) (a' (.fieldLink Bundle.tN 198 Bundle.tN "backtrace" "Ljava/lang/Object;") (by simp [pz_own])) (a' (.lays Bundle.tN Bundle.tN "backtrace" "Ljava/lang/Object;") (by simp [pz_own])) e.platform hpl
  obtain ⟨cellS, hcS', heS, -, hkeep⟩ := X.same.2.2.2.2.2 T.aS cellS0 hcS0
  have hcellS : W.heap[T.aS]? = some cellS := hcS'
  have hout' : ∀ i, (⟨T.aS, i⟩ : Loc) ∉ locs := fun i hmem => by
    have := hlocs _ hmem cellS0 hcS0
    rw [hiss] at this; cases this
  have hknownS : cellS.vm ≠ .unknown := by
    rw [heS]; intro hu
    rw [show cellS0.vm = .unknown from hu] at hiss
    cases hiss
  have hneS : T.aS ≠ a := Nat.ne_of_lt (Nat.lt_of_lt_of_le (Array.getElem?_eq_some_iff.mp hcS0).1 hnew)
  obtain ⟨iM, hffM⟩ := Y.msg
  obtain ⟨tyC, dC, hdC, hdnC⟩ := Cond.laysAt hfound hk Y.cause (a' (.lays cls Bundle.tN "cause" "Ljava/lang/Throwable;") (by simp [pz_own]))
  obtain ⟨tyS, dS, hdS, hdnS⟩ := Cond.laysAt hfound hk Y.stack (a' (.lays cls Bundle.tN "stackTrace" Bundle.steD) (by simp [pz_own]))
  obtain ⟨tyP, dP, hdP, hdnP⟩ := Cond.laysAt hfound hk Y.supp (a' (.lays cls Bundle.tN "suppressedExceptions" Bundle.listD) (by simp [pz_own]))
  obtain ⟨tyM, dM, hdM, hdnM⟩ := Cond.laysAt hfound hk hffM (a' (.lays cls Bundle.tN "detailMessage" "Ljava/lang/String;") (by simp [pz_own]))
  obtain ⟨tyB, dB, hdB, hdnB⟩ := Cond.laysAt hfound hk hffB (a' (.lays cls Bundle.tN "backtrace" "Ljava/lang/Object;") (by simp [pz_own]))
  have bC := Cond.laysApart hdB hdC hdnB hdnC (by rw [hnB, Y.causeName]; decide)
  have bS := Cond.laysApart hdB hdS hdnB hdnS (by rw [hnB, Y.stackName]; decide)
  have bP := Cond.laysApart hdB hdP hdnB hdnP (by rw [hnB, Y.suppName]; decide)
  have hskip : SkipFacts T e.platform s (fun u => u) u0 ((preparedCellV T.toThrowableT (freshCell P1.m.cls kX) a u0 sen).withEntry W.cur) :=
    ⟨{ ci198 := ci198, i198 := i198, fBack := fB }, ⟨hk198, hg198, ha198, hsB⟩, by
      have := fresh_default (c := P1.m.cls) tyB
      rw [htB] at this
      simpa [preparedCellV, Cell.setSlot, Cell.withEntry, Array.getElem?_setIfInBounds, bC, bS, bP, bC.symm, bS.symm, bP.symm, defaultValue] using this, fun _ _ => rfl⟩
  obtain ⟨tm, methC, cdC, kC, vm₁, hnC, -, -, -, -, -, -, -, hW₁, st1⟩ := Steps.initColdS (tb := p.tables) (e := e) (below := below) (s := s) (U := W) X.here hexec X.warmed hpl hown (t := Bundle.initS cls) rfl rfl (Bundle.fit_spec hcls).2
    (a' (.methodLink own ic (Bundle.initS cls)) (by simp [pz_own])) (h (.instanceMethod (Bundle.initS cls)) (by cases names <;> simp [pz_own, pz_chain, Bundle.passSAtoms])) (bytes := rx) (maxL := 2) (h (.code (Bundle.initS cls) rx 2 none) (by cases names <;> simp [pz_own, pz_chain, Bundle.passSAtoms]))
    (f := g) hg (a := a) (msg := msg) (rest := .ref a :: rest) hstack hd6
  cases Option.some.inj (hnC.symm.trans hP1m)
  have X₁ := X.noted hW₁
  obtain ⟨vm₂, X₂, st2⟩ := X₁.ctorMessageOffV hexec (g := { g with stack := .ref a :: rest }) hg hsize T L Z LZ M LM (P1 :: Ps)
    (fun P hP => by rcases List.mem_cons.mp hP with rfl | hP; exact L1; exact hL P hP) ⟨hlink1, hlink⟩ (u0 := u0) (sen := sen) (self := a) hmsg (cell := freshCell P1.m.cls kX) (cellS := cellS)
    hcell (fun _ => by simp) (by simp) rfl rfl hsel0 hselF hcellS hneS hknownS (by rw [hkeep _ (hout' _)]; exact hu0) (by rw [hkeep _ (hout' _)]; exact hsen)
    (Takes.of_laid hk hord tyC (by rw [Y.causeType]; rfl)) (Takes.of_laid hk hord tyS (by rw [Y.stackType]; exact fits_refV_array _ u0)) (Takes.of_laid hk hord tyP (by rw [Y.suppType]; exact fits_refV_object _ sen))
    (Takes.of_laid hk hord tyM (by rw [Y.msgType]; exact fits_refV_object _ ⟨msg, hmsg⟩)) Y.objLocals hskip htr [] hd6
    (by simp only [List.length_cons, hlen]; omega) (by simp only [List.length_cons, hlen]; exact hRlocals)
  obtain ⟨hwalk, hrun, hended, hWU, hsame⟩ := X₂.athrowLeaves hexec (g := { g with stack := .ref a :: rest, pc := g.pc + 3 }) hg hlocked hentered hout (a := a) (rest := rest) rfl hd9
  obtain ⟨c3, c4, hc3, hc4, hasg⟩ := Cond.castable_spec (a' (.castable cls cls) (by simp [pz_own]))
  cases Option.some.inj (hc3.symm.trans hfound)
  cases Option.some.inj (hc4.symm.trans hfound)
  have hlt : a < ((W.setVm vm₁).setVm vm₂).heap.size := (Array.getElem?_eq_some_iff.mp hcell).1
  have hU := heapAt_setCell_self (s := (W.setVm vm₁).setVm vm₂) (plainBareV T.toThrowableT (freshCell P1.m.cls kX) a u0 sen msg) hlt
  refine ⟨_, st1 _ (fun acts => ?_), hrun, hended, hWU, hsame.weaken (fun y hy hlt' => ?_) (Nat.le_refl _) (Nat.le_refl _), _, hU, ?_⟩
  · rw [doInvoke_state]
    exact st2 _ hwalk
  · rcases List.mem_append.mp hy with h1 | h1
    · exact h1
    · exfalso
      have hb : y.base = a := by
        simp only [List.mem_cons, List.not_mem_nil, or_false] at h1
        rcases h1 with rfl | rfl | rfl | rfl | rfl <;> rfl
      rw [hb] at hlt'
      exact Nat.not_lt.mpr hnew hlt'
  · exact ⟨hfound, rfl⟩
end PZT1
def pz_at (own : String) (ic : Nat) (X : String) (ix : Nat) (rx : ByteArray) (names : List String) : List Cond := (pz_own own ic X ix rx names).filter vx_no
section PZT2
variable {p : Program} {l : Launch} {e : Env} {R : Room} {s : State} {m : MethodId} {args : Array Value} {below : List Frame} {meth : Method} {c : Code} {H : Heap} {locs : List Loc} {cells slots : Nat} {Q : State → Prop}
variable {free : Addr → Prop} {ls : Array Slot} {rest : List Value} {Qc : Array Value → State → Outcome → State → Prop} {XC : String → State → State → Prop}
theorem pz_throwS {cc : ByteArray} {pc : Nat} (hexec : p.tables.exec = Jvm.exec) (hb : c.code = cc) (hl : l.stackTraces = false) {own cls text : String} {names : List String} {ix : Nat} {rx : ByteArray} (x0 : decode rx 0 = .ok (.aload_n 0, 1)) (x1 : decode rx 1 = .ok (.aload_n 1, 1)) (x2 : decode rx 2 = .ok (.invokespecial ix, 3)) (x5 : decode rx 5 = .ok (.return_, 1)) {ik is ic mc ms sa : Nat} {A : Nat → Prop}
    (hown : s.vm.findClass own = some m.cls) (hcls : Bundle.fit cls = true) (hnames : ∀ n ∈ names, Bundle.fit n = true)
    (hk : (Cond.classLink own ik cls).before args s = true) (hini : (Cond.initialized cls).before args s = true) (hstr : vk_R own is text sa s) (hat : ∀ w ∈ pz_at own ic cls ix rx names, w.before args s = true)
    (hgood : ∀ w ∈ Cond.classLink own ik cls :: Cond.initialized cls :: pz_at own ic cls ix rx names, vx_ot w = true)
    (hU : vx_Zq Bundle.tN "UNASSIGNED_STACK" Bundle.steD A s s.heap) (hN : vx_Zq Bundle.tN "SUPPRESSED_SENTINEL" Bundle.listD A s s.heap) (hS : va_S A s.heap H locs) (hsize : ls.size = c.maxLocals)
    (d0 : decode cc pc = .ok (.new ik, 3)) (d3 : decode cc (pc + 3) = .ok (.dup, 1)) (d4 : decode cc (pc + 4) = .ok (.ldc is, 2)) (d6 : decode cc (pc + 6) = .ok (.invokespecial ic, 3)) (d9 : decode cc (pc + 9) = .ok (.athrow, 1))
    (hout : ∀ x ∈ c.exceptionTable.toList, covers x (pc + 9) = false)
    (hRframes : names.length + 3 < R.frames) (hRlocals : (rest.map fun v => v.category).sum + (13 * (names.length + 1) + 43) ≤ R.locals) (hRcells : cells + 1 ≤ R.cells) (hRslots : slots + 6 ≤ R.slots) (hlocks : meth.locks = false)
    (hx : ∀ t : State, s.vm.Alike t.vm → H.size ≤ t.heap.size → (∀ q : Nat, q < H.size → t.heap[q]? = H[q]?) → XC cls s t)
    (hf : ∀ z ∈ locs, free z.base) (hc : cells + 1 ≤ mc) (hs : slots + 6 ≤ ms) :
    W p l e R s m args below meth c H locs cells slots (vx_MQ below Qc XC args s mc ms free) (F0 m pc ls rest) := by
  intro T hT X
  have htr : e.platform.stackTraces = false := (show e.platform.stackTraces = l.stackTraces by rw [X.admits.platform]).trans hl
  have Y := vx_rebase X (R' := { frames := R.frames, locals := R.locals, cells := 1, slots := 6 }) (Nat.le_refl _) (Nat.le_refl _) hRcells hRslots
  obtain ⟨s', hA⟩ : ∃ z, z = (T.setVm s.vm).setFrames (.invoking m args :: below) := ⟨_, rfl⟩
  rw [← hA] at Y
  have hvm : s'.vm = s.vm := by rw [hA]; rfl
  have hhp : s'.heap = H := by rw [hA]; exact hT
  have hW0 : s.WarmedH s'.vm := by rw [hvm]; exact State.WarmedH.refl s
  have hat' : ∀ w ∈ pz_at own ic cls ix rx names, w.before args s' = true := fun w hw => vx_ot_at hW0 hvm.symm (hgood w (List.mem_cons_of_mem _ (List.mem_cons_of_mem _ hw))) (hat w hw)
  have hk' : (Cond.classLink own ik cls).before args s' = true := vx_ot_at hW0 hvm.symm (hgood _ List.mem_cons_self) hk
  have hini' : (Cond.initialized cls).before args s' = true := vx_ot_at hW0 hvm.symm (hgood _ (List.mem_cons_of_mem _ List.mem_cons_self)) hini
  have hU' : vx_Zq Bundle.tN "UNASSIGNED_STACK" Bundle.steD A s' s'.heap := by rw [hhp]; exact vx_Zq.moved hW0.alike (hU.kept hS.2.1)
  have hN' : vx_Zq Bundle.tN "SUPPRESSED_SENTINEL" Bundle.listD A s' s'.heap := by rw [hhp]; exact vx_Zq.moved hW0.alike (hN.kept hS.2.1)
  have h : ∀ w ∈ pz_own own ic cls ix rx names, w.before args s' = true := vx_own hat' (vx_isRefq hU'.1) (vx_isRefq hN'.1) hU'.2.word hN'.2.word
  have hown' : s'.vm.findClass own = some m.cls := by rw [hvm]; exact hown
  have hins : (Cond.instantiable cls 6).before args s' = true := h _ (by simp [pz_own])
  obtain ⟨vm₁, cX, kX, hfX, hkX, -, -, X₁, st1⟩ := Y.newCold hexec (own := own) (C := cls) (index := ik) (n := 6) hown' hk' hins hini'
    (g := F0 m pc ls rest) rfl (by rw [hb]; exact d0) (Nat.le_refl _) (Nat.le_refl _)
  generalize hT1 : (T.setVm vm₁).pushCell { cls := cX, slots := kX.instanceTypes.map defaultValue, vm := .none } = T1 at X₁ st1
  have hcat : (Value.ref T.heap.size).category = 1 := rfl
  have hcellA : T1.heap[T.heap.size]? = some (freshCell cX kX) := by rw [← hT1]; exact State.heap_pushCell_size _ _
  have d3' : decode c.code (pc + 3) = .ok (.dup, 1) := by rw [hb]; exact d3
  have d4' : decode c.code (pc + 4) = .ok (.ldc is, 2) := by rw [hb]; exact d4
  have hstr' : vk_R own is text sa s' := vk_R.warm hW0 hstr
  obtain ⟨U, hsteps, hrun, hend, hW, hsame, ce, hce, hO⟩ := pz_ctorThrow X₁ hexec htr x0 x1 x2 x5 (own := own) (cls := cls) (names := names) (ic := ic) hown' hcls hnames h (fun x hx => nomatch hx) hfX hkX hcellA (by rw [hhp, hT]; exact Nat.le_refl _) (msg := .ref sa) rfl
    (g := { method := m, pc := pc + 6, locals := ls, stack := .ref sa :: .ref T.heap.size :: .ref T.heap.size :: rest, locked := none }) rfl hsize rfl rfl (rest := rest) rfl
    (by rw [hb]; exact d6) (by rw [hb]; exact d9) hout hRframes (by simp only [List.map_cons, List.sum_cons, hcat]; omega) hlocks
  obtain ⟨f1, f2⟩ := vx_frame hsame
  rw [hhp] at f1 f2
  have hWs : s.WarmedH U.vm := State.WarmedH.trans hW0 hW
  have hcl : s.vm.findClass cls = some ce.cls := by
    have h9 := hO.1
    rw [hvm] at h9
    exact h9
  have hall : s.sameButNew ({ U with vm := s.vm } : State) locs mc ms := by
    subst hA
    obtain ⟨e1, e2⟩ := hsame
    rw [State.setFrames_setFrames] at e1
    have h2 : (T.setVm s.vm).sameButNew ({ U with vm := s.vm } : State) [] (0 + 1) (0 + 6) := ⟨e1, e2⟩
    have h3 := X.same.trans h2
    rw [List.append_nil] at h3
    exact h3.mono hc hs
  refine ⟨U, ?_, .threw T.heap.size, hrun, hend, Or.inr ⟨T.heap.size, rfl, cls, ce, locs, hx U hWs.alike f1 (fun q hq => f2 q hq (fun z hz => nomatch hz)), hce, hO.2, hcl, hWs, hall, hf⟩⟩
  refine st1 _ ?_
  show Steps p.tables e below (T1.setTop { method := m, pc := pc + 3, locals := ls, stack := .ref T.heap.size :: rest, locked := none }) _
  jvm_step X₁.here [X₁.here.top, hexec, d3', Value.category]
  exact X₁.ldcString hexec (own := own) (text := text) (index := is) (a := sa) hown' hstr'.1 hstr'.2
    (g := { method := m, pc := pc + 4, locals := ls, stack := .ref T.heap.size :: .ref T.heap.size :: rest, locked := none }) rfl d4' _ hsteps
theorem pz_throwSW {cc : ByteArray} {pc : Nat} (hexec : p.tables.exec = Jvm.exec) (hb : c.code = cc) (hl : l.stackTraces = false) {own cls text : String} {names : List String} {ix : Nat} {rx : ByteArray} (x0 : decode rx 0 = .ok (.aload_n 0, 1)) (x1 : decode rx 1 = .ok (.aload_n 1, 1)) (x2 : decode rx 2 = .ok (.invokespecial ix, 3)) (x5 : decode rx 5 = .ok (.return_, 1)) {ik is ic mc ms sa : Nat} {A : Nat → Prop}
    (hown : s.vm.findClass own = some m.cls) (hcls : Bundle.fit cls = true) (hnames : ∀ n ∈ names, Bundle.fit n = true)
    (hk : (Cond.classLink own ik cls).before args s = true) (hini : (Cond.initialized cls).before args s = true) (hstr : vk_R own is text sa s) (hat : ∀ w ∈ pz_at own ic cls ix rx names, w.before args s = true)
    (hgood : ∀ w ∈ Cond.classLink own ik cls :: Cond.initialized cls :: pz_at own ic cls ix rx names, vx_ot w = true)
    (hU : vx_Zq Bundle.tN "UNASSIGNED_STACK" Bundle.steD A s s.heap) (hN : vx_Zq Bundle.tN "SUPPRESSED_SENTINEL" Bundle.listD A s s.heap) (hS : va_S A s.heap H locs) (hsize : ls.size = c.maxLocals)
    (d0 : decode cc pc = .ok (.new ik, 3)) (d3 : decode cc (pc + 3) = .ok (.dup, 1)) (d4 : decode cc (pc + 4) = .ok (.ldc_w is, 3)) (d7 : decode cc (pc + 7) = .ok (.invokespecial ic, 3)) (d10 : decode cc (pc + 10) = .ok (.athrow, 1))
    (hout : ∀ x ∈ c.exceptionTable.toList, covers x (pc + 10) = false)
    (hRframes : names.length + 3 < R.frames) (hRlocals : (rest.map fun v => v.category).sum + (13 * (names.length + 1) + 43) ≤ R.locals) (hRcells : cells + 1 ≤ R.cells) (hRslots : slots + 6 ≤ R.slots) (hlocks : meth.locks = false)
    (hx : ∀ t : State, s.vm.Alike t.vm → H.size ≤ t.heap.size → (∀ q : Nat, q < H.size → t.heap[q]? = H[q]?) → XC cls s t)
    (hf : ∀ z ∈ locs, free z.base) (hc : cells + 1 ≤ mc) (hs : slots + 6 ≤ ms) :
    W p l e R s m args below meth c H locs cells slots (vx_MQ below Qc XC args s mc ms free) (F0 m pc ls rest) := by
  intro T hT X
  have htr : e.platform.stackTraces = false := (show e.platform.stackTraces = l.stackTraces by rw [X.admits.platform]).trans hl
  have Y := vx_rebase X (R' := { frames := R.frames, locals := R.locals, cells := 1, slots := 6 }) (Nat.le_refl _) (Nat.le_refl _) hRcells hRslots
  obtain ⟨s', hA⟩ : ∃ z, z = (T.setVm s.vm).setFrames (.invoking m args :: below) := ⟨_, rfl⟩
  rw [← hA] at Y
  have hvm : s'.vm = s.vm := by rw [hA]; rfl
  have hhp : s'.heap = H := by rw [hA]; exact hT
  have hW0 : s.WarmedH s'.vm := by rw [hvm]; exact State.WarmedH.refl s
  have hat' : ∀ w ∈ pz_at own ic cls ix rx names, w.before args s' = true := fun w hw => vx_ot_at hW0 hvm.symm (hgood w (List.mem_cons_of_mem _ (List.mem_cons_of_mem _ hw))) (hat w hw)
  have hk' : (Cond.classLink own ik cls).before args s' = true := vx_ot_at hW0 hvm.symm (hgood _ List.mem_cons_self) hk
  have hini' : (Cond.initialized cls).before args s' = true := vx_ot_at hW0 hvm.symm (hgood _ (List.mem_cons_of_mem _ List.mem_cons_self)) hini
  have hU' : vx_Zq Bundle.tN "UNASSIGNED_STACK" Bundle.steD A s' s'.heap := by rw [hhp]; exact vx_Zq.moved hW0.alike (hU.kept hS.2.1)
  have hN' : vx_Zq Bundle.tN "SUPPRESSED_SENTINEL" Bundle.listD A s' s'.heap := by rw [hhp]; exact vx_Zq.moved hW0.alike (hN.kept hS.2.1)
  have h : ∀ w ∈ pz_own own ic cls ix rx names, w.before args s' = true := vx_own hat' (vx_isRefq hU'.1) (vx_isRefq hN'.1) hU'.2.word hN'.2.word
  have hown' : s'.vm.findClass own = some m.cls := by rw [hvm]; exact hown
  have hins : (Cond.instantiable cls 6).before args s' = true := h _ (by simp [pz_own])
  obtain ⟨vm₁, cX, kX, hfX, hkX, -, -, X₁, st1⟩ := Y.newCold hexec (own := own) (C := cls) (index := ik) (n := 6) hown' hk' hins hini'
    (g := F0 m pc ls rest) rfl (by rw [hb]; exact d0) (Nat.le_refl _) (Nat.le_refl _)
  generalize hT1 : (T.setVm vm₁).pushCell { cls := cX, slots := kX.instanceTypes.map defaultValue, vm := .none } = T1 at X₁ st1
  have hcat : (Value.ref T.heap.size).category = 1 := rfl
  have hcellA : T1.heap[T.heap.size]? = some (freshCell cX kX) := by rw [← hT1]; exact State.heap_pushCell_size _ _
  have d3' : decode c.code (pc + 3) = .ok (.dup, 1) := by rw [hb]; exact d3
  have d4' : decode c.code (pc + 4) = .ok (.ldc_w is, 3) := by rw [hb]; exact d4
  have hstr' : vk_R own is text sa s' := vk_R.warm hW0 hstr
  obtain ⟨U, hsteps, hrun, hend, hW, hsame, ce, hce, hO⟩ := pz_ctorThrow X₁ hexec htr x0 x1 x2 x5 (own := own) (cls := cls) (names := names) (ic := ic) hown' hcls hnames h (fun x hx => nomatch hx) hfX hkX hcellA (by rw [hhp, hT]; exact Nat.le_refl _) (msg := .ref sa) rfl
    (g := { method := m, pc := pc + 7, locals := ls, stack := .ref sa :: .ref T.heap.size :: .ref T.heap.size :: rest, locked := none }) rfl hsize rfl rfl (rest := rest) rfl
    (by rw [hb]; exact d7) (by rw [hb]; exact d10) hout hRframes (by simp only [List.map_cons, List.sum_cons, hcat]; omega) hlocks
  obtain ⟨f1, f2⟩ := vx_frame hsame
  rw [hhp] at f1 f2
  have hWs : s.WarmedH U.vm := State.WarmedH.trans hW0 hW
  have hcl : s.vm.findClass cls = some ce.cls := by
    have h9 := hO.1
    rw [hvm] at h9
    exact h9
  have hall : s.sameButNew ({ U with vm := s.vm } : State) locs mc ms := by
    subst hA
    obtain ⟨e1, e2⟩ := hsame
    rw [State.setFrames_setFrames] at e1
    have h2 : (T.setVm s.vm).sameButNew ({ U with vm := s.vm } : State) [] (0 + 1) (0 + 6) := ⟨e1, e2⟩
    have h3 := X.same.trans h2
    rw [List.append_nil] at h3
    exact h3.mono hc hs
  refine ⟨U, ?_, .threw T.heap.size, hrun, hend, Or.inr ⟨T.heap.size, rfl, cls, ce, locs, hx U hWs.alike f1 (fun q hq => f2 q hq (fun z hz => nomatch hz)), hce, hO.2, hcl, hWs, hall, hf⟩⟩
  refine st1 _ ?_
  show Steps p.tables e below (T1.setTop { method := m, pc := pc + 3, locals := ls, stack := .ref T.heap.size :: rest, locked := none }) _
  jvm_step X₁.here [X₁.here.top, hexec, d3', Value.category]
  exact X₁.ldcStringW hexec (own := own) (text := text) (index := is) (a := sa) hown' hstr'.1 hstr'.2
    (g := { method := m, pc := pc + 4, locals := ls, stack := .ref T.heap.size :: .ref T.heap.size :: rest, locked := none }) rfl d4' _ hsteps
end PZT2
end PZT
end
section
abbrev pz_NM : List String := ["java/lang/RuntimeException", "java/lang/Exception"]
def pz_ix0 (E : String) : Nat := if E = "java/util/NoSuchElementException" then 13 else 7
def pz_rx (E : String) : ByteArray := if E = "java/util/NoSuchElementException" then prog_29_method_4_code else Bundle.six
def pz_cdw (w : Cond) : Bool := match w with
  | .castable _ _ => true
  | .declares _ => true
  | _ => false
theorem pz_ex0_g : ∀ w ∈ (pz_at RX6 63 "java/lang/IllegalArgumentException" 7 Bundle.six pz_NM).filter goodWord, w ∈ lw_tbl := by decide +kernel
theorem pz_ex0_o : ∀ w ∈ Cond.classLink RX6 59 "java/lang/IllegalArgumentException" :: Cond.initialized "java/lang/IllegalArgumentException" :: pz_at RX6 63 "java/lang/IllegalArgumentException" 7 Bundle.six pz_NM, vx_ot w = true := by decide +kernel
theorem pz_ex0_c : ∀ w ∈ (pz_at RX6 63 "java/lang/IllegalArgumentException" 7 Bundle.six pz_NM).filter (fun w => !goodWord w), pz_cdw w = true := by decide +kernel
theorem pz_ex0_w : lw_tbl[385]? = some (.classLink RX6 59 "java/lang/IllegalArgumentException") ∧ lw_tbl[78]? = some (.initialized "java/lang/IllegalArgumentException") := by decide +kernel
theorem pz_ex1_g : ∀ w ∈ (pz_at RX6 70 "java/lang/IllegalStateException" 7 Bundle.six pz_NM).filter goodWord, w ∈ lw_tbl := by decide +kernel
theorem pz_ex1_o : ∀ w ∈ Cond.classLink RX6 66 "java/lang/IllegalStateException" :: Cond.initialized "java/lang/IllegalStateException" :: pz_at RX6 70 "java/lang/IllegalStateException" 7 Bundle.six pz_NM, vx_ot w = true := by decide +kernel
theorem pz_ex1_c : ∀ w ∈ (pz_at RX6 70 "java/lang/IllegalStateException" 7 Bundle.six pz_NM).filter (fun w => !goodWord w), pz_cdw w = true := by decide +kernel
theorem pz_ex1_w : lw_tbl[455]? = some (.classLink RX6 66 "java/lang/IllegalStateException") ∧ lw_tbl[79]? = some (.initialized "java/lang/IllegalStateException") := by decide +kernel
theorem pz_ex2_g : ∀ w ∈ (pz_at RX6 87 "java/lang/IndexOutOfBoundsException" 7 Bundle.six pz_NM).filter goodWord, w ∈ lw_tbl := by decide +kernel
theorem pz_ex2_o : ∀ w ∈ Cond.classLink RX6 83 "java/lang/IndexOutOfBoundsException" :: Cond.initialized "java/lang/IndexOutOfBoundsException" :: pz_at RX6 87 "java/lang/IndexOutOfBoundsException" 7 Bundle.six pz_NM, vx_ot w = true := by decide +kernel
theorem pz_ex2_c : ∀ w ∈ (pz_at RX6 87 "java/lang/IndexOutOfBoundsException" 7 Bundle.six pz_NM).filter (fun w => !goodWord w), pz_cdw w = true := by decide +kernel
theorem pz_ex2_w : lw_tbl[504]? = some (.classLink RX6 83 "java/lang/IndexOutOfBoundsException") ∧ lw_tbl[82]? = some (.initialized "java/lang/IndexOutOfBoundsException") := by decide +kernel
theorem pz_ex3_g : ∀ w ∈ (pz_at RX6 99 "java/lang/UnsupportedOperationException" 7 Bundle.six pz_NM).filter goodWord, w ∈ lw_tbl := by decide +kernel
theorem pz_ex3_o : ∀ w ∈ Cond.classLink RX6 95 "java/lang/UnsupportedOperationException" :: Cond.initialized "java/lang/UnsupportedOperationException" :: pz_at RX6 99 "java/lang/UnsupportedOperationException" 7 Bundle.six pz_NM, vx_ot w = true := by decide +kernel
theorem pz_ex3_c : ∀ w ∈ (pz_at RX6 99 "java/lang/UnsupportedOperationException" 7 Bundle.six pz_NM).filter (fun w => !goodWord w), pz_cdw w = true := by decide +kernel
theorem pz_ex3_w : lw_tbl[556]? = some (.classLink RX6 95 "java/lang/UnsupportedOperationException") ∧ lw_tbl[83]? = some (.initialized "java/lang/UnsupportedOperationException") := by decide +kernel
theorem pz_ex4_g : ∀ w ∈ (pz_at RX6 107 "java/util/NoSuchElementException" 13 prog_29_method_4_code pz_NM).filter goodWord, w ∈ lw_tbl := by decide +kernel
theorem pz_ex4_o : ∀ w ∈ Cond.classLink RX6 103 "java/util/NoSuchElementException" :: Cond.initialized "java/util/NoSuchElementException" :: pz_at RX6 107 "java/util/NoSuchElementException" 13 prog_29_method_4_code pz_NM, vx_ot w = true := by decide +kernel
theorem pz_ex4_c : ∀ w ∈ (pz_at RX6 107 "java/util/NoSuchElementException" 13 prog_29_method_4_code pz_NM).filter (fun w => !goodWord w), pz_cdw w = true := by decide +kernel
theorem pz_ex4_w : lw_tbl[596]? = some (.classLink RX6 103 "java/util/NoSuchElementException") ∧ lw_tbl[84]? = some (.initialized "java/util/NoSuchElementException") := by decide +kernel
end
section
/-! the pure machine is sound -/
def pz_tys (kA : Nat → ClassId) : List (ClassId × FieldType) := [(kA 0, .int), (kA 1, .char), (kA 2, .long), (kA 3, .object RX0), (kA 4, .object RX5)]
def pz_tr (kA : Nat → ClassId) (e : pz_E) : va_E := match e with
  | .inl a => .inl (kA a.1, a.2)
  | .inr o => .inr o
def pz_A (a0 : Nat) : Nat → Prop := fun q => a0 ≤ q
def pz_Rep (D : va_G) (kA : Nat → ClassId) (a0 : Nat) (h : pz_H) (H : Heap) : Prop := ∃ (L : List Nat) (f : Nat → va_E), va_P D vwCl (va_pl L f) H ∧ va_D (pz_A a0) (va_pl L f) ∧ ∀ (a : Nat) (e : pz_E), h a = some e → a ∈ L ∧ f a = pz_tr kA e
def pz_Lr (nL : Nat) (ls : List (Option Value)) (la : Array Slot) : Prop := la.size = nL ∧ lv_wf la ∧ ∀ (i : Nat) (v : Value), ls[i]? = some (some v) → la[i]? = some (.val v)
def pz_Es : List String := ["java/lang/IllegalArgumentException", "java/lang/IllegalStateException", "java/lang/IndexOutOfBoundsException", "java/lang/UnsupportedOperationException", "java/util/NoSuchElementException"]
def pz_atE (e : Nat × Nat × String × Nat × Nat) : List Cond := pz_at RX6 e.2.2.2.1 e.2.2.1 (pz_ix0 e.2.2.1) (pz_rx e.2.2.1) pz_NM
def pz_Str (a0 sa : Nat) (U : State) (H : Heap) : Prop := (∃ adK adV : Nat → Nat, vk_S 1 [7] [[99, 120, 115, 114, 103, 106, 116]] adK adV (pz_A a0) U H ∧ adK 0 = sa) ∧ va_Z "java/lang/String" "COMPACT_STRINGS" "Z" (.int 1) (pz_A a0) U H
def pz_S (D : va_G) (kA : Nat → ClassId) (en : pz_Env) (a0 : Nat) (U : State) (H : Heap) : Prop :=
  va_K D vwCl (pz_tys kA) U ∧ (∀ e ∈ pz_nestL, ∀ m, pz_tab e.2.2.1 = some m → va_Nw (.methodLinkNest (pz_R e.1) e.2.1 m.1 "CueStack") U) ∧ (∀ e ∈ pz_excL, ∀ w ∈ (pz_atE e).filter (fun w => !goodWord w), va_Nw w U) ∧ (∀ E1 ∈ pz_Es, ∀ E2 ∈ pz_Es, E1 ≠ E2 → va_Nc E1 E2 U) ∧ (∀ E ∈ pz_Es, va_Nw (.castable E E) U) ∧ (va_AO RX0 U ∧ va_AO RX5 U) ∧ (∀ q ∈ pz_strL, ∃ sa, vk_R RX6 q.1 q.2 sa U) ∧ vk_R RX7 pz_key.1 "cxsrgjt" en.2.2.2 U ∧ (vx_Zq Bundle.tN "UNASSIGNED_STACK" Bundle.steD (pz_A a0) U H ∧ vx_Zq Bundle.tN "SUPPRESSED_SENTINEL" Bundle.listD (pz_A a0) U H ∧ pz_Str a0 en.2.2.2 U H) ∧ (va_X en.1 en.2.1 en.2.2.1 U H ∧ en.1 < a0 ∧ a0 ≤ H.size)
theorem pz_exc_g : ∀ e ∈ pz_excL, ∀ w ∈ (pz_atE e).filter goodWord, w ∈ pz_G := by
  intro e he
  simp only [pz_excL, List.mem_cons, List.not_mem_nil, or_false] at he
  rcases he with rfl | rfl | rfl | rfl | rfl
  · exact fun w hw => List.mem_filter.mpr ⟨pz_ex0_g w hw, (List.mem_filter.mp hw).2⟩
  · exact fun w hw => List.mem_filter.mpr ⟨pz_ex1_g w hw, (List.mem_filter.mp hw).2⟩
  · exact fun w hw => List.mem_filter.mpr ⟨pz_ex2_g w hw, (List.mem_filter.mp hw).2⟩
  · exact fun w hw => List.mem_filter.mpr ⟨pz_ex3_g w hw, (List.mem_filter.mp hw).2⟩
  · exact fun w hw => List.mem_filter.mpr ⟨pz_ex4_g w hw, (List.mem_filter.mp hw).2⟩
theorem pz_exc_c : ∀ e ∈ pz_excL, ∀ w ∈ (pz_atE e).filter (fun w => !goodWord w), pz_cdw w = true := by
  intro e he
  simp only [pz_excL, List.mem_cons, List.not_mem_nil, or_false] at he
  rcases he with rfl | rfl | rfl | rfl | rfl
  · exact pz_ex0_c
  · exact pz_ex1_c
  · exact pz_ex2_c
  · exact pz_ex3_c
  · exact pz_ex4_c
theorem pz_exc_o : ∀ e ∈ pz_excL, e.1 = 6 ∧ Bundle.fit e.2.2.1 = true ∧ (∀ w ∈ Cond.classLink RX6 e.2.1 e.2.2.1 :: Cond.initialized e.2.2.1 :: pz_atE e, vx_ot w = true) ∧ Cond.classLink RX6 e.2.1 e.2.2.1 ∈ lw_tbl ∧ Cond.initialized e.2.2.1 ∈ lw_tbl := by
  intro e he
  simp only [pz_excL, List.mem_cons, List.not_mem_nil, or_false] at he
  rcases he with rfl | rfl | rfl | rfl | rfl
  · exact ⟨rfl, by decide +kernel, pz_ex0_o, List.mem_of_getElem? pz_ex0_w.1, List.mem_of_getElem? pz_ex0_w.2⟩
  · exact ⟨rfl, by decide +kernel, pz_ex1_o, List.mem_of_getElem? pz_ex1_w.1, List.mem_of_getElem? pz_ex1_w.2⟩
  · exact ⟨rfl, by decide +kernel, pz_ex2_o, List.mem_of_getElem? pz_ex2_w.1, List.mem_of_getElem? pz_ex2_w.2⟩
  · exact ⟨rfl, by decide +kernel, pz_ex3_o, List.mem_of_getElem? pz_ex3_w.1, List.mem_of_getElem? pz_ex3_w.2⟩
  · exact ⟨rfl, by decide +kernel, pz_ex4_o, List.mem_of_getElem? pz_ex4_w.1, List.mem_of_getElem? pz_ex4_w.2⟩
theorem pz_rx_ok (E : String) : decode (pz_rx E) 0 = .ok (.aload_n 0, 1) ∧ decode (pz_rx E) 1 = .ok (.aload_n 1, 1) ∧ decode (pz_rx E) 2 = .ok (.invokespecial (pz_ix0 E), 3) ∧ decode (pz_rx E) 5 = .ok (.return_, 1) := by
  unfold pz_rx pz_ix0
  split <;> refine ⟨?_, ?_, ?_, ?_⟩ <;> decide +kernel
theorem pz_S_move {D : va_G} {kA : Nat → ClassId} {en : pz_Env} {a0 : Nat} {s U : State} {H0 H : Heap} (h : pz_S D kA en a0 s H0) (hW : s.WarmedH U.vm) (hk : ∀ q : Nat, q < H0.size → ¬ pz_A a0 q → H[q]? = H0[q]?) (hz : H0.size ≤ H.size) : pz_S D kA en a0 U H := by
  obtain ⟨h1, h2, h3, h4, h5, ⟨h6, h6'⟩, h7, h8, ⟨h9, h9', ⟨adK, adV, hs1, hs2⟩, hs3⟩, h10, h11, h12⟩ := h
  refine ⟨va_K.moved hW.alike h1, fun e he m hm => va_Nw.warmM hW (h2 e he m hm), fun e he w hw => ?_, fun a ha b hb hne => va_Nc.moved hW.alike (h4 a ha b hb hne), fun E hE => va_Nw.warmC hW (h5 E hE), ⟨va_AO.moved hW.alike h6, va_AO.moved hW.alike h6'⟩, fun q hq => ?_, vk_R.warm hW h8, ⟨(vx_Zq.moved hW.alike h9).kept hk, (vx_Zq.moved hW.alike h9').kept hk, ⟨adK, adV, (vk_S.moved hW.alike hs1).kept hk, hs2⟩, (va_Z.moved hW.alike hs3).kept hk⟩, (va_X.moved hW.alike h10).kept (hk _ (by omega) (by unfold pz_A; omega)), h11, by omega⟩
  · have hc := pz_exc_c e he w hw
    have h3' := h3 e he w hw
    cases w <;> first | exact va_Nw.warmC hW h3' | exact va_Nw.warmD hW h3' | (exact absurd hc (by simp [pz_cdw]))
  · obtain ⟨sa, hs⟩ := h7 q hq
    exact ⟨sa, vk_R.warm hW hs⟩
/-- the table's words -/
theorem pz_fld_spec {own i ci k : Nat} (h : pz_fld own i = some (ci, k)) : ci < 8 ∧ k < pz_N ci ∧ (pz_T ci k).1 = pz_R ci ∧ Cond.fieldLink (pz_R own) i (pz_T ci k).1 (pz_T ci k).2.1 (pz_T ci k).2.2.1 ∈ pz_G := by
  unfold pz_fld at h
  cases hf : pz_fldL.find? (fun e => e.1 == own && e.2.1 == i) with
  | none => rw [hf] at h; cases h
  | some e =>
    rw [hf] at h
    have hm := List.mem_of_find?_eq_some hf
    have hp := List.find?_some hf
    obtain ⟨o, j, c, k', pos⟩ := e
    simp only [Bool.and_eq_true, beq_iff_eq] at hp
    obtain ⟨rfl, rfl⟩ := hp
    simp only [Option.map_some, Option.some.injEq, Prod.mk.injEq] at h
    obtain ⟨rfl, rfl⟩ := h
    obtain ⟨h1, h2, h3, h4⟩ := pz_fldL_ok _ hm
    exact ⟨h1, h2, h3, pz_Gin h4 rfl⟩
theorem pz_mth_spec {own i : Nat} {y : Nat} (h : pz_mth own i = some y) : ∃ m, pz_tab y = some m ∧ Cond.methodLink (pz_R own) i m.1 ∈ pz_G := by
  unfold pz_mth at h
  cases hf : pz_mthL.find? (fun e => e.1 == own && e.2.1 == i) with
  | none => rw [hf] at h; cases h
  | some e =>
    rw [hf] at h
    have hm := List.mem_of_find?_eq_some hf
    have hp := List.find?_some hf
    obtain ⟨o, j, c, pos⟩ := e
    simp only [Bool.and_eq_true, beq_iff_eq] at hp
    obtain ⟨rfl, rfl⟩ := hp
    simp only [Option.map_some, Option.some.injEq] at h
    subst h
    obtain ⟨m, h1, h2⟩ := pz_mthL_in _ hm
    exact ⟨m, h1, pz_Gin h2 rfl⟩
theorem pz_nest_spec {own i : Nat} {y : Nat} (h : pz_nest own i = some y) : ∃ e ∈ pz_nestL, e.1 = own ∧ e.2.1 = i ∧ e.2.2.1 = y := by
  unfold pz_nest at h
  cases hf : pz_nestL.find? (fun e => e.1 == own && e.2.1 == i) with
  | none => rw [hf] at h; cases h
  | some e =>
    rw [hf] at h
    have hm := List.mem_of_find?_eq_some hf
    have hp := List.find?_some hf
    obtain ⟨o, j, c, pos⟩ := e
    simp only [Bool.and_eq_true, beq_iff_eq] at hp
    obtain ⟨rfl, rfl⟩ := hp
    simp only [Option.map_some, Option.some.injEq] at h
    subst h
    exact ⟨_, hm, rfl, rfl, rfl⟩
theorem pz_nat_spec {own i : Nat} {y : Nat} (h : pz_nat own i = some y) : Cond.methodLink (pz_R own) i (pz_natN y) ∈ pz_G := by
  unfold pz_nat at h
  cases hf : pz_natL.find? (fun e => e.1 == own && e.2.1 == i) with
  | none => rw [hf] at h; cases h
  | some e =>
    rw [hf] at h
    have hm := List.mem_of_find?_eq_some hf
    have hp := List.find?_some hf
    obtain ⟨o, j, c, pos⟩ := e
    simp only [Bool.and_eq_true, beq_iff_eq] at hp
    obtain ⟨rfl, rfl⟩ := hp
    simp only [Option.map_some, Option.some.injEq] at h
    subst h
    exact pz_Gin (pz_natL_ok _ hm) rfl
theorem pz_cls_spec {own i : Nat} {y : Nat} (h : pz_cls own i = some y) : y < 8 ∧ Cond.classLink (pz_R own) i (pz_R y) ∈ lw_tbl := by
  unfold pz_cls at h
  cases hf : pz_clsL.find? (fun e => e.1 == own && e.2.1 == i) with
  | none => rw [hf] at h; cases h
  | some e =>
    rw [hf] at h
    have hm := List.mem_of_find?_eq_some hf
    have hp := List.find?_some hf
    obtain ⟨o, j, c, pos⟩ := e
    simp only [Bool.and_eq_true, beq_iff_eq] at hp
    obtain ⟨rfl, rfl⟩ := hp
    simp only [Option.map_some, Option.some.injEq] at h
    subst h
    exact ⟨(pz_clsL_ok _ hm).1, List.mem_of_getElem? (pz_clsL_ok _ hm).2⟩
theorem pz_cst_spec {own i : Nat} {y : Int32} (h : pz_cst own i = some y) : Cond.constant (pz_R own) i y ∈ lw_tbl := by
  unfold pz_cst at h
  cases hf : pz_cstL.find? (fun e => e.1 == own && e.2.1 == i) with
  | none => rw [hf] at h; cases h
  | some e =>
    rw [hf] at h
    have hm := List.mem_of_find?_eq_some hf
    have hp := List.find?_some hf
    obtain ⟨o, j, c, pos⟩ := e
    simp only [Bool.and_eq_true, beq_iff_eq] at hp
    obtain ⟨rfl, rfl⟩ := hp
    simp only [Option.map_some, Option.some.injEq] at h
    subst h
    exact List.mem_of_getElem? (pz_cstL_ok _ hm)
theorem pz_dbl_spec {own i : Nat} {y : UInt64} (h : pz_dbl own i = some y) : Cond.constantDouble (pz_R own) i y ∈ lw_tbl := by
  unfold pz_dbl at h
  cases hf : pz_dblL.find? (fun e => e.1 == own && e.2.1 == i) with
  | none => rw [hf] at h; cases h
  | some e =>
    rw [hf] at h
    have hm := List.mem_of_find?_eq_some hf
    have hp := List.find?_some hf
    obtain ⟨o, j, c, pos⟩ := e
    simp only [Bool.and_eq_true, beq_iff_eq] at hp
    obtain ⟨rfl, rfl⟩ := hp
    simp only [Option.map_some, Option.some.injEq] at h
    subst h
    exact List.mem_of_getElem? (pz_dblL_ok _ hm)
theorem pz_obj_spec {own i : Nat} (h : pz_obj own i = true) : Cond.methodLink (pz_R own) i objectInit ∈ pz_G := by
  unfold pz_obj at h
  cases hf : pz_objL.find? (fun e => e.1 == own && e.2.1 == i) with
  | none => rw [hf] at h; cases h
  | some e =>
    have hm := List.mem_of_find?_eq_some hf
    have hp := List.find?_some hf
    obtain ⟨o, j, pos⟩ := e
    simp only [Bool.and_eq_true, beq_iff_eq] at hp
    obtain ⟨rfl, rfl⟩ := hp
    exact pz_Gin (pz_objL_ok _ hm) rfl
theorem pz_exc_spec {own i : Nat} {E : String} {ic : Nat} (h : pz_exc own i = some (E, ic)) : ∃ e ∈ pz_excL, e.1 = own ∧ e.2.1 = i ∧ e.2.2.1 = E ∧ e.2.2.2.1 = ic := by
  unfold pz_exc at h
  cases hf : pz_excL.find? (fun e => e.1 == own && e.2.1 == i) with
  | none => rw [hf] at h; cases h
  | some e =>
    rw [hf] at h
    have hm := List.mem_of_find?_eq_some hf
    have hp := List.find?_some hf
    simp only [Bool.and_eq_true, beq_iff_eq] at hp
    simp only [Option.map_some, Option.some.injEq, Prod.mk.injEq] at h
    exact ⟨e, hm, hp.1, hp.2, h.1, h.2⟩
theorem pz_str_spec {i : Nat} {tx : String} (h : pz_str i = some tx) : (i, tx) ∈ pz_strL := by
  unfold pz_str at h
  cases hf : pz_strL.find? (fun e => e.1 == i) with
  | none => rw [hf] at h; cases h
  | some e =>
    rw [hf] at h
    have hm := List.mem_of_find?_eq_some hf
    have hp := List.find?_some hf
    simp only [beq_iff_eq] at hp
    simp only [Option.map_some, Option.some.injEq] at h
    subst hp; subst h
    exact hm
theorem pz_tab_mem {y : Nat} {e : pz_ME} (h : pz_tab y = some e) : e ∈ pz_tabL := List.mem_of_getElem? h
theorem pz_Gt {w : Cond} (h : w ∈ pz_G) : w ∈ lw_tbl := (List.mem_filter.mp h).1
theorem pz_G_good : ∀ w ∈ pz_G, w ∈ pz_G ∧ ((w.onTables && w.keeps) = true ∨ ∃ ty, w = .arrayClass ty) := fun w h => ⟨h, good_of_word (List.mem_filter.mp h).2⟩
theorem pz_Gc {w : Cond} (h : w ∈ lw_tbl) (g : goodWord w = true := by rfl) : w ∈ pz_G := List.mem_filter.mpr ⟨h, g⟩
theorem pz_cst_in {own i : Nat} {v : Int32} (h : pz_cst own i = some v) : Cond.constant (pz_R own) i v ∈ pz_G := pz_Gc (pz_cst_spec h)
theorem pz_dbl_in {own i : Nat} {v : UInt64} (h : pz_dbl own i = some v) : Cond.constantDouble (pz_R own) i v ∈ pz_G := pz_Gc (pz_dbl_spec h)
theorem pz_blank_ok (ci : Nat) : ∀ j, j < pz_N ci → defaultValue (pz_ty ci j) = vp_V (pz_blank ci) j := by
  intro j hj
  unfold vp_V pz_blank
  rw [List.getD_eq_getElem?_getD, List.getElem?_map, List.getElem?_range hj]
  rfl
theorem pz_arr_uniq {U : State} {c1 c2 : ClassId} {ty : FieldType} (h1 : ArrOfT U c1 ty ∧ va_RA U c1 ty) (h2 : ArrOfT U c2 ty ∧ va_RA U c2 ty) (hp : ∀ C, ty ≠ .object C := by intro C hC; cases hC) : c1 = c2 := by
  have e1 : U.vm.findClass ("[" ++ ty.toString) = some c1 := by
    have := h1.2
    cases ty <;> first | exact this | exact absurd rfl (hp _)
  have e2 : U.vm.findClass ("[" ++ ty.toString) = some c2 := by
    have := h2.2
    cases ty <;> first | exact this | exact absurd rfl (hp _)
  exact Option.some.inj (e1.symm.trans e2)
theorem pz_arr_uniqq {U : State} {c1 c2 : ClassId} {C : String} (h1 : ArrOfT U c1 (.object C) ∧ va_RA U c1 (.object C)) (h2 : ArrOfT U c2 (.object C) ∧ va_RA U c2 (.object C)) : c1 = c2 := by
  obtain ⟨_, _, -, -, -, e1⟩ := h1.2
  obtain ⟨_, _, -, -, -, e2⟩ := h2.2
  exact Option.some.inj (e1.symm.trans e2)
/-- locals -/
def pz_al (ls : List (Option Value)) : List (Nat × Value) := (List.range ls.length).filterMap (fun i => match ls[i]? with
  | some (some v) => some (i, v)
  | _ => none)
theorem pz_al_mem {ls : List (Option Value)} {q : Nat × Value} : q ∈ pz_al ls ↔ ls[q.1]? = some (some q.2) := by
  obtain ⟨j, v⟩ := q
  constructor
  · intro h
    obtain ⟨i, -, hi⟩ := List.mem_filterMap.mp h
    cases hc : ls[i]? with
    | none => rw [hc] at hi; cases hi
    | some o => cases o with
      | none => rw [hc] at hi; cases hi
      | some u =>
        rw [hc] at hi
        cases hi
        exact hc
  · intro h
    refine List.mem_filterMap.mpr ⟨j, List.mem_range.mpr (List.getElem?_eq_some_iff.mp h).1, ?_⟩
    show (match ls[j]? with
      | some (some v) => some (j, v)
      | _ => none) = some (j, v)
    rw [show ls[j]? = some (some v) from h]
theorem pz_Lr_has {nL : Nat} {ls : List (Option Value)} {la : Array Slot} (h : pz_Lr nL ls la) : lv_has la nL (pz_al ls) := ⟨h.1, h.2.1, fun q hq => h.2.2 q.1 q.2 (pz_al_mem.mp hq)⟩
theorem pz_Lr_set {nL : Nat} {ls : List (Option Value)} {la' : Array Slot} {i : Nat} {v : Value} (ho : pz_ok ls i = true) (h : lv_has la' nL ((i, v) :: (pz_al ls).filter (fun q => !(q.1 == i) && !(q.1 + 1 == i && q.2.category == 2)))) : pz_Lr nL (ls.set i (some v)) la' := by
  refine ⟨h.1, h.2.1, fun j u hj => ?_⟩
  by_cases e : i = j
  · subst e
    have h1 : i < ls.length := by
      have := (List.getElem?_eq_some_iff.mp hj).1
      simpa using this
    rw [List.getElem?_set_self h1] at hj
    have e9 := Option.some.inj (Option.some.inj hj)
    rw [← e9]
    exact h.2.2 (i, v) List.mem_cons_self
  · rw [List.getElem?_set_ne e] at hj
    refine h.2.2 (j, u) (List.mem_cons_of_mem _ (List.mem_filter.mpr ⟨pz_al_mem.mpr hj, ?_⟩))
    have h1 : (j == i) = false := by simp; omega
    have h2 : (j + 1 == i && u.category == 2) = false := by
      by_cases e2 : j + 1 = i
      · subst e2
        unfold pz_ok at ho
        simp only [hj, beq_iff_eq] at ho
        simp [ho]
      · simp [e2]
    simp only [h1, h2]
    rfl
theorem pz_Lr_set2 {nL : Nat} {ls : List (Option Value)} {la' : Array Slot} {i : Nat} {v : Value} (ho : pz_ok ls i = true) (h : lv_has la' nL ((i, v) :: (pz_al ls).filter (fun q => !(q.1 == i) && (!(q.1 == i + 1) && !(q.1 + 1 == i && q.2.category == 2))))) : pz_Lr nL ((ls.set i (some v)).set (i + 1) none) la' := by
  refine ⟨h.1, h.2.1, fun j u hj => ?_⟩
  by_cases e3 : i + 1 = j
  · subst e3
    have h1 : i + 1 < ls.length := by
      have := (List.getElem?_eq_some_iff.mp hj).1
      simpa using this
    rw [List.getElem?_set_self (by simpa using h1)] at hj
    cases hj
  · rw [List.getElem?_set_ne e3] at hj
    by_cases e : i = j
    · subst e
      have h1 : i < ls.length := by
        have := (List.getElem?_eq_some_iff.mp hj).1
        simpa using this
      rw [List.getElem?_set_self h1] at hj
      have e9 := Option.some.inj (Option.some.inj hj)
      rw [← e9]
      exact h.2.2 (i, v) List.mem_cons_self
    · rw [List.getElem?_set_ne e] at hj
      refine h.2.2 (j, u) (List.mem_cons_of_mem _ (List.mem_filter.mpr ⟨pz_al_mem.mpr hj, ?_⟩))
      have h1 : (j == i) = false := by simp; omega
      have h1' : (j == i + 1) = false := by simp; omega
      have h2 : (j + 1 == i && u.category == 2) = false := by
        by_cases e2 : j + 1 = i
        · subst e2
          unfold pz_ok at ho
          simp only [hj, beq_iff_eq] at ho
          simp [ho]
        · simp [e2]
      simp only [h1, h1', h2]
      rfl
/-- the heap's picture: one thing of it, a write, a making -/
theorem pz_Rep_at {D : va_G} {kA : Nat → ClassId} {a0 : Nat} {h : pz_H} {L : List Nat} {f : Nat → va_E} {a : Nat} {e : pz_E} (hh : ∀ (a : Nat) (e : pz_E), h a = some e → a ∈ L ∧ f a = pz_tr kA e) (ha : h a = some e) : ∃ k : Nat, (va_pl L f)[k]? = some (a, pz_tr kA e) := by
  obtain ⟨h1, h2⟩ := hh a e ha
  obtain ⟨k, hk⟩ := va_pl_get (X := []) (f := f) h1
  rw [h2] at hk
  exact ⟨k, hk⟩
theorem pz_Rep_set {D : va_G} {kA : Nat → ClassId} {a0 : Nat} {h : pz_H} {L : List Nat} {f : Nat → va_E} {a k : Nat} {e e2 : pz_E} {v2 : va_E} {H1 : Heap} (hD : va_D (pz_A a0) (va_pl L f)) (hh : ∀ (a : Nat) (e : pz_E), h a = some e → a ∈ L ∧ f a = pz_tr kA e) (ha : h a = some e) (hk : (va_pl L f)[k]? = some (a, pz_tr kA e)) (hv : v2 = pz_tr kA e2) (hP1 : va_P D vwCl ((va_pl L f).set k (a, v2)) H1) (hD1 : va_D (pz_A a0) ((va_pl L f).set k (a, v2))) : pz_Rep D kA a0 (va_up h a (some e2)) H1 := by
  obtain ⟨h1, h2⟩ := hh a e ha
  have hs := va_pl_set (X := []) (e := v2) hD h1 (k := k) (by rw [h2]; exact hk)
  simp only [List.nil_append] at hs
  rw [hs] at hP1 hD1
  refine ⟨L, va_up f a v2, hP1, hD1, fun b eb hb => ?_⟩
  unfold va_up at hb ⊢
  by_cases e0 : b = a
  · subst e0
    rw [if_pos rfl] at hb ⊢
    cases hb
    exact ⟨h1, hv⟩
  · rw [if_neg e0] at hb ⊢
    exact hh b eb hb
theorem pz_Rep_push {D : va_G} {kA : Nat → ClassId} {a0 : Nat} {h : pz_H} {L : List Nat} {f : Nat → va_E} {q : Nat} {e2 : pz_E} {v2 : va_E} {H1 : Heap} (hh : ∀ (a : Nat) (e : pz_E), h a = some e → a ∈ L ∧ f a = pz_tr kA e) (hv : v2 = pz_tr kA e2) (hP1 : va_P D vwCl (va_pl L f ++ [(q, v2)]) H1) (hD1 : va_D (pz_A a0) (va_pl L f ++ [(q, v2)])) : h q = none ∧ pz_Rep D kA a0 (va_up h q (some e2)) H1 := by
  have hq : q ∉ L := va_pl_fresh2 (X := []) (f := f) (A := pz_A a0) (e := v2) hD1
  rw [va_pl_push hq] at hP1 hD1
  refine ⟨?_, L ++ [q], va_up f q v2, hP1, hD1, fun b eb hb => ?_⟩
  · cases hc : h q with
    | none => rfl
    | some e => exact absurd (hh q e hc).1 hq
  · unfold va_up at hb ⊢
    by_cases e0 : b = q
    · subst e0
      rw [if_pos rfl] at hb ⊢
      cases hb
      exact ⟨List.mem_append_right _ List.mem_cons_self, hv⟩
    · rw [if_neg e0] at hb ⊢
      exact ⟨List.mem_append_left _ (hh b eb hb).1, (hh b eb hb).2⟩
theorem pz_vin {i : Int32} {k n : Nat} (hk : i.toInt = (k : Int)) (hn : k < n) : vp_in i n ∧ i.toNatClampNeg = k := by
  have h1 : i.toNatClampNeg = k := by
    show i.toInt.toNat = k
    omega
  refine ⟨fun hc => ?_, h1⟩
  rcases hc with hc | hc
  · have := Int32.lt_iff_toInt_lt.mp hc
    rw [hk] at this
    simp at this
    omega
  · omega
theorem pz_nneg {i : Int32} {k : Nat} (hk : i.toInt = (k : Int)) : ¬ i < 0 ∧ i.toNatClampNeg = k := by
  refine ⟨fun hc => ?_, ?_⟩
  · have := Int32.lt_iff_toInt_lt.mp hc
    rw [hk] at this
    simp at this
    omega
  · show i.toInt.toNat = k
    omega
theorem pz_cat8 {st : List Value} (h : st.length ≤ 3) : (st.map fun v => v.category).sum ≤ 8 := by
  have hv : ∀ v : Value, v.category ≤ 2 := fun v => by cases v <;> simp [Value.category]
  match st, h with
  | [], _ => exact Nat.zero_le _
  | [a], _ => simp only [List.map_cons, List.map_nil, List.sum_cons, List.sum_nil]; have q1 := hv a; omega
  | [a, b], _ => simp only [List.map_cons, List.map_nil, List.sum_cons, List.sum_nil]; have q1 := hv a; have q2 := hv b; omega
  | [a, b, c], _ => simp only [List.map_cons, List.map_nil, List.sum_cons, List.sum_nil]; have q1 := hv a; have q2 := hv b; have q3 := hv c; omega
  | _ :: _ :: _ :: _ :: _, h => simp at h
section PZW
variable {p : Program} {l : Launch} {e : Env} {R : Room} {s : State} {m : MethodId} {args : Array Value} {below : List Frame} {meth : Method} {c : Code} {D : va_G} {kA : Nat → ClassId} {en : pz_Env} {a0 mc0 ms0 : Nat} {Qf : State → Prop}
variable {d : Nat} {C : pz_C} {own : Nat} {cc : ByteArray} {nL : Nat} {rt : Option FieldType} {hh : List (Nat × Nat × Nat × Nat)} {ini : Bool} {Q : pz_Q}
/-- what stands at a method's entry -/
def pz_Cx (p : Program) (l : Launch) (R : Room) (s : State) (m : MethodId) (args : Array Value) (meth : Method) (c : Code) (D : va_G) (kA : Nat → ClassId) (en : pz_Env) (a0 mc0 ms0 d own : Nat) (cc : ByteArray) (nL : Nat) (rt : Option FieldType) (hh : List (Nat × Nat × Nat × Nat)) (ini : Bool) : Prop :=
  p.tables.exec = Jvm.exec ∧ c.code = cc ∧ c.maxLocals = nL ∧ s.vm.findClass (pz_R own) = some m.cls ∧ (∀ w ∈ pz_G, w.before args s = true) ∧ pz_S D kA en a0 s s.heap ∧ mc0 ≤ R.cells ∧ ms0 ≤ R.slots ∧ d ≤ R.frames ∧ 36 * d ≤ R.locals ∧ meth.sig.returnType = rt ∧ meth.locks = false ∧ (ini = true → meth.name = "<init>") ∧ (own = 8 ∧ hh = [] ∨ c.exceptionTable.toList = tableOf hh) ∧ l.stackTraces = false
def pz_PW (p : Program) (l : Launch) (e : Env) (R : Room) (s : State) (m : MethodId) (args : Array Value) (below : List Frame) (meth : Method) (c : Code) (D : va_G) (kA : Nat → ClassId) (a0 nL mc0 ms0 : Nat) (Qf : State → Prop) : pz_P := fun pc ls st h nc ns =>
  ∀ (H : Heap) (locs : List Loc) (cells slots : Nat) (la : Array Slot), pz_Lr nL ls la → pz_Rep D kA a0 h H → va_S (pz_A a0) s.heap H locs → cells + nc ≤ mc0 → slots + ns ≤ ms0 → W p l e R s m args below meth c H locs cells slots Qf (F0 m pc la st)
theorem pz_s_iconst (X : pz_Cx p l R s m args meth c D kA en a0 mc0 ms0 d own cc nL rt hh ini) : pz_r_iconst d en C own cc nL rt hh ini Q (pz_PW p l e R s m args below meth c D kA a0 nL mc0 ms0 Qf) := by
  intro pc ls st h nc ns n v hd hv k H locs cells slots la hL hR hV h1 h2
  obtain ⟨hx, hb, hml, hown, hts, hS0, hmc, hms, hfr, hlo, hret, hlk, hini, hex, hlT⟩ := X
  exact lv_iconst hx hb hd hv (k H locs cells slots la hL hR hV h1 h2)
theorem pz_s_bipush (X : pz_Cx p l R s m args meth c D kA en a0 mc0 ms0 d own cc nL rt hh ini) : pz_r_bipush d en C own cc nL rt hh ini Q (pz_PW p l e R s m args below meth c D kA a0 nL mc0 ms0 Qf) := by
  intro pc ls st h nc ns n v hd hv k H locs cells slots la hL hR hV h1 h2
  obtain ⟨hx, hb, hml, hown, hts, hS0, hmc, hms, hfr, hlo, hret, hlk, hini, hex, hlT⟩ := X
  exact lv_bipush hx hb hd hv (k H locs cells slots la hL hR hV h1 h2)
theorem pz_s_sipush (X : pz_Cx p l R s m args meth c D kA en a0 mc0 ms0 d own cc nL rt hh ini) : pz_r_sipush d en C own cc nL rt hh ini Q (pz_PW p l e R s m args below meth c D kA a0 nL mc0 ms0 Qf) := by
  intro pc ls st h nc ns n v hd hv k H locs cells slots la hL hR hV h1 h2
  obtain ⟨hx, hb, hml, hown, hts, hS0, hmc, hms, hfr, hlo, hret, hlk, hini, hex, hlT⟩ := X
  exact lv_sipush hx hb hd hv (k H locs cells slots la hL hR hV h1 h2)
theorem pz_s_lconst (X : pz_Cx p l R s m args meth c D kA en a0 mc0 ms0 d own cc nL rt hh ini) : pz_r_lconst d en C own cc nL rt hh ini Q (pz_PW p l e R s m args below meth c D kA a0 nL mc0 ms0 Qf) := by
  intro pc ls st h nc ns n v hd hv k H locs cells slots la hL hR hV h1 h2
  obtain ⟨hx, hb, hml, hown, hts, hS0, hmc, hms, hfr, hlo, hret, hlk, hini, hex, hlT⟩ := X
  exact lv_lconst hx hb hd hv (k H locs cells slots la hL hR hV h1 h2)
theorem pz_s_ldc (X : pz_Cx p l R s m args meth c D kA en a0 mc0 ms0 d own cc nL rt hh ini) : pz_r_ldc d en C own cc nL rt hh ini Q (pz_PW p l e R s m args below meth c D kA a0 nL mc0 ms0 Qf) := by
  intro pc ls st h nc ns i v hd hc k H locs cells slots la hL hR hV h1 h2
  obtain ⟨hx, hb, hml, hown, hts, hS0, hmc, hms, hfr, hlo, hret, hlk, hini, hex, hlT⟩ := X
  exact lv_ldc hx hb hown (hts _ (pz_cst_in hc)) hd (k H locs cells slots la hL hR hV h1 h2)
theorem pz_s_ldcw (X : pz_Cx p l R s m args meth c D kA en a0 mc0 ms0 d own cc nL rt hh ini) : pz_r_ldcw d en C own cc nL rt hh ini Q (pz_PW p l e R s m args below meth c D kA a0 nL mc0 ms0 Qf) := by
  intro pc ls st h nc ns i v hd hc k H locs cells slots la hL hR hV h1 h2
  obtain ⟨hx, hb, hml, hown, hts, hS0, hmc, hms, hfr, hlo, hret, hlk, hini, hex, hlT⟩ := X
  exact lv_ldcw hx hb hown (hts _ (pz_cst_in hc)) hd (k H locs cells slots la hL hR hV h1 h2)
theorem pz_s_ldc2 (X : pz_Cx p l R s m args meth c D kA en a0 mc0 ms0 d own cc nL rt hh ini) : pz_r_ldc2 d en C own cc nL rt hh ini Q (pz_PW p l e R s m args below meth c D kA a0 nL mc0 ms0 Qf) := by
  intro pc ls st h nc ns i v hd hc k H locs cells slots la hL hR hV h1 h2
  obtain ⟨hx, hb, hml, hown, hts, hS0, hmc, hms, hfr, hlo, hret, hlk, hini, hex, hlT⟩ := X
  exact lv_ldc2d hx hb hown (hts _ (pz_dbl_in hc)) hd (k H locs cells slots la hL hR hV h1 h2)
theorem pz_s_ldcs (X : pz_Cx p l R s m args meth c D kA en a0 mc0 ms0 d own cc nL rt hh ini) : pz_r_ldcs d en C own cc nL rt hh ini Q (pz_PW p l e R s m args below meth c D kA a0 nL mc0 ms0 Qf) := by
  intro pc ls st h nc ns hd ho k H locs cells slots la hL hR hV h1 h2
  obtain ⟨hx, hb, hml, hown, hts, hS0, hmc, hms, hfr, hlo, hret, hlk, hini, hex, hlT⟩ := X
  subst ho
  exact va_ldcS hx hb hown hS0.2.2.2.2.2.2.2.1 hd (k H locs cells slots la hL hR hV h1 h2)
theorem pz_s_iload_n (X : pz_Cx p l R s m args meth c D kA en a0 mc0 ms0 d own cc nL rt hh ini) : pz_r_iload_n d en C own cc nL rt hh ini Q (pz_PW p l e R s m args below meth c D kA a0 nL mc0 ms0 Qf) := by
  intro pc ls st h nc ns n x hd hl k H locs cells slots la hL hR hV h1 h2
  obtain ⟨hx, hb, hml, hown, hts, hS0, hmc, hms, hfr, hlo, hret, hlk, hini, hex, hlT⟩ := X
  exact lv_iload_n hx hb hd rfl (hL.2.2 _ _ hl) (k H locs cells slots la hL hR hV h1 h2)
theorem pz_s_iload (X : pz_Cx p l R s m args meth c D kA en a0 mc0 ms0 d own cc nL rt hh ini) : pz_r_iload d en C own cc nL rt hh ini Q (pz_PW p l e R s m args below meth c D kA a0 nL mc0 ms0 Qf) := by
  intro pc ls st h nc ns i x hd hl k H locs cells slots la hL hR hV h1 h2
  obtain ⟨hx, hb, hml, hown, hts, hS0, hmc, hms, hfr, hlo, hret, hlk, hini, hex, hlT⟩ := X
  exact lv_iload hx hb hd (hL.2.2 _ _ hl) (k H locs cells slots la hL hR hV h1 h2)
theorem pz_s_istore_n (X : pz_Cx p l R s m args meth c D kA en a0 mc0 ms0 d own cc nL rt hh ini) : pz_r_istore_n d en C own cc nL rt hh ini Q (pz_PW p l e R s m args below meth c D kA a0 nL mc0 ms0 Qf) := by
  intro pc ls st h nc ns n x hd hn ho k H locs cells slots la hL hR hV h1 h2
  obtain ⟨hx, hb, hml, hown, hts, hS0, hmc, hms, hfr, hlo, hret, hlk, hini, hex, hlT⟩ := X
  exact lv_istore_n hx hb hd rfl (pz_Lr_has hL) hn rfl (fun la2 hl2 => k H locs cells slots la2 (pz_Lr_set ho hl2) hR hV h1 h2)
theorem pz_s_istore (X : pz_Cx p l R s m args meth c D kA en a0 mc0 ms0 d own cc nL rt hh ini) : pz_r_istore d en C own cc nL rt hh ini Q (pz_PW p l e R s m args below meth c D kA a0 nL mc0 ms0 Qf) := by
  intro pc ls st h nc ns i x hd hn ho k H locs cells slots la hL hR hV h1 h2
  obtain ⟨hx, hb, hml, hown, hts, hS0, hmc, hms, hfr, hlo, hret, hlk, hini, hex, hlT⟩ := X
  exact lv_istore hx hb hd (pz_Lr_has hL) hn rfl (fun la2 hl2 => k H locs cells slots la2 (pz_Lr_set ho hl2) hR hV h1 h2)
theorem pz_s_aload_n (X : pz_Cx p l R s m args meth c D kA en a0 mc0 ms0 d own cc nL rt hh ini) : pz_r_aload_n d en C own cc nL rt hh ini Q (pz_PW p l e R s m args below meth c D kA a0 nL mc0 ms0 Qf) := by
  intro pc ls st h nc ns n x hd hl k H locs cells slots la hL hR hV h1 h2
  obtain ⟨hx, hb, hml, hown, hts, hS0, hmc, hms, hfr, hlo, hret, hlk, hini, hex, hlT⟩ := X
  exact lv_aload_n hx hb hd rfl (hL.2.2 _ _ hl) (k H locs cells slots la hL hR hV h1 h2)
theorem pz_s_aload (X : pz_Cx p l R s m args meth c D kA en a0 mc0 ms0 d own cc nL rt hh ini) : pz_r_aload d en C own cc nL rt hh ini Q (pz_PW p l e R s m args below meth c D kA a0 nL mc0 ms0 Qf) := by
  intro pc ls st h nc ns i x hd hl k H locs cells slots la hL hR hV h1 h2
  obtain ⟨hx, hb, hml, hown, hts, hS0, hmc, hms, hfr, hlo, hret, hlk, hini, hex, hlT⟩ := X
  exact lv_aload hx hb hd (hL.2.2 _ _ hl) (k H locs cells slots la hL hR hV h1 h2)
theorem pz_s_astore_n (X : pz_Cx p l R s m args meth c D kA en a0 mc0 ms0 d own cc nL rt hh ini) : pz_r_astore_n d en C own cc nL rt hh ini Q (pz_PW p l e R s m args below meth c D kA a0 nL mc0 ms0 Qf) := by
  intro pc ls st h nc ns n x hd hn ho k H locs cells slots la hL hR hV h1 h2
  obtain ⟨hx, hb, hml, hown, hts, hS0, hmc, hms, hfr, hlo, hret, hlk, hini, hex, hlT⟩ := X
  exact lv_astore_n hx hb hd rfl (pz_Lr_has hL) hn rfl (fun la2 hl2 => k H locs cells slots la2 (pz_Lr_set ho hl2) hR hV h1 h2)
theorem pz_s_astore (X : pz_Cx p l R s m args meth c D kA en a0 mc0 ms0 d own cc nL rt hh ini) : pz_r_astore d en C own cc nL rt hh ini Q (pz_PW p l e R s m args below meth c D kA a0 nL mc0 ms0 Qf) := by
  intro pc ls st h nc ns i x hd hn ho k H locs cells slots la hL hR hV h1 h2
  obtain ⟨hx, hb, hml, hown, hts, hS0, hmc, hms, hfr, hlo, hret, hlk, hini, hex, hlT⟩ := X
  exact lv_astore hx hb hd (pz_Lr_has hL) hn rfl (fun la2 hl2 => k H locs cells slots la2 (pz_Lr_set ho hl2) hR hV h1 h2)
theorem pz_s_dload (X : pz_Cx p l R s m args meth c D kA en a0 mc0 ms0 d own cc nL rt hh ini) : pz_r_dload d en C own cc nL rt hh ini Q (pz_PW p l e R s m args below meth c D kA a0 nL mc0 ms0 Qf) := by
  intro pc ls st h nc ns i x hd hl k H locs cells slots la hL hR hV h1 h2
  obtain ⟨hx, hb, hml, hown, hts, hS0, hmc, hms, hfr, hlo, hret, hlk, hini, hex, hlT⟩ := X
  exact lv_dload hx hb hd (hL.2.2 _ _ hl) (k H locs cells slots la hL hR hV h1 h2)
theorem pz_s_dstore (X : pz_Cx p l R s m args meth c D kA en a0 mc0 ms0 d own cc nL rt hh ini) : pz_r_dstore d en C own cc nL rt hh ini Q (pz_PW p l e R s m args below meth c D kA a0 nL mc0 ms0 Qf) := by
  intro pc ls st h nc ns i x hd hn ho k H locs cells slots la hL hR hV h1 h2
  obtain ⟨hx, hb, hml, hown, hts, hS0, hmc, hms, hfr, hlo, hret, hlk, hini, hex, hlT⟩ := X
  exact lv_dstore hx hb hd (pz_Lr_has hL) hn rfl (fun la2 hl2 => k H locs cells slots la2 (pz_Lr_set2 ho hl2) hR hV h1 h2)
theorem pz_s_iinc (X : pz_Cx p l R s m args meth c D kA en a0 mc0 ms0 d own cc nL rt hh ini) : pz_r_iinc d en C own cc nL rt hh ini Q (pz_PW p l e R s m args below meth c D kA a0 nL mc0 ms0 Qf) := by
  intro pc ls st h nc ns i n x v hd hl hn ho hv k H locs cells slots la hL hR hV h1 h2
  obtain ⟨hx, hb, hml, hown, hts, hS0, hmc, hms, hfr, hlo, hret, hlk, hini, hex, hlT⟩ := X
  obtain ⟨kx, hkx⟩ := List.getElem?_of_mem (pz_al_mem (q := (i, Value.int x)) |>.mpr hl)
  exact lv_iinc hx hb hd (pz_Lr_has hL) hkx hv hn rfl (fun la2 hl2 => k H locs cells slots la2 (pz_Lr_set ho hl2) hR hV h1 h2)
theorem pz_s_iadd (X : pz_Cx p l R s m args meth c D kA en a0 mc0 ms0 d own cc nL rt hh ini) : pz_r_iadd d en C own cc nL rt hh ini Q (pz_PW p l e R s m args below meth c D kA a0 nL mc0 ms0 Qf) := by
  intro pc ls st h nc ns x y hd k H locs cells slots la hL hR hV h1 h2
  obtain ⟨hx, hb, hml, hown, hts, hS0, hmc, hms, hfr, hlo, hret, hlk, hini, hex, hlT⟩ := X
  exact lv_iadd hx hb hd (k H locs cells slots la hL hR hV h1 h2)
theorem pz_s_isub (X : pz_Cx p l R s m args meth c D kA en a0 mc0 ms0 d own cc nL rt hh ini) : pz_r_isub d en C own cc nL rt hh ini Q (pz_PW p l e R s m args below meth c D kA a0 nL mc0 ms0 Qf) := by
  intro pc ls st h nc ns x y hd k H locs cells slots la hL hR hV h1 h2
  obtain ⟨hx, hb, hml, hown, hts, hS0, hmc, hms, hfr, hlo, hret, hlk, hini, hex, hlT⟩ := X
  exact lv_isub hx hb hd (k H locs cells slots la hL hR hV h1 h2)
theorem pz_s_imul (X : pz_Cx p l R s m args meth c D kA en a0 mc0 ms0 d own cc nL rt hh ini) : pz_r_imul d en C own cc nL rt hh ini Q (pz_PW p l e R s m args below meth c D kA a0 nL mc0 ms0 Qf) := by
  intro pc ls st h nc ns x y hd k H locs cells slots la hL hR hV h1 h2
  obtain ⟨hx, hb, hml, hown, hts, hS0, hmc, hms, hfr, hlo, hret, hlk, hini, hex, hlT⟩ := X
  exact lv_imul hx hb hd (k H locs cells slots la hL hR hV h1 h2)
theorem pz_s_iand (X : pz_Cx p l R s m args meth c D kA en a0 mc0 ms0 d own cc nL rt hh ini) : pz_r_iand d en C own cc nL rt hh ini Q (pz_PW p l e R s m args below meth c D kA a0 nL mc0 ms0 Qf) := by
  intro pc ls st h nc ns x y hd k H locs cells slots la hL hR hV h1 h2
  obtain ⟨hx, hb, hml, hown, hts, hS0, hmc, hms, hfr, hlo, hret, hlk, hini, hex, hlT⟩ := X
  exact lv_iand hx hb hd (k H locs cells slots la hL hR hV h1 h2)
theorem pz_s_ior (X : pz_Cx p l R s m args meth c D kA en a0 mc0 ms0 d own cc nL rt hh ini) : pz_r_ior d en C own cc nL rt hh ini Q (pz_PW p l e R s m args below meth c D kA a0 nL mc0 ms0 Qf) := by
  intro pc ls st h nc ns x y hd k H locs cells slots la hL hR hV h1 h2
  obtain ⟨hx, hb, hml, hown, hts, hS0, hmc, hms, hfr, hlo, hret, hlk, hini, hex, hlT⟩ := X
  exact lv_ior hx hb hd (k H locs cells slots la hL hR hV h1 h2)
theorem pz_s_ishl (X : pz_Cx p l R s m args meth c D kA en a0 mc0 ms0 d own cc nL rt hh ini) : pz_r_ishl d en C own cc nL rt hh ini Q (pz_PW p l e R s m args below meth c D kA a0 nL mc0 ms0 Qf) := by
  intro pc ls st h nc ns x y hd k H locs cells slots la hL hR hV h1 h2
  obtain ⟨hx, hb, hml, hown, hts, hS0, hmc, hms, hfr, hlo, hret, hlk, hini, hex, hlT⟩ := X
  exact lv_ishl hx hb hd (k H locs cells slots la hL hR hV h1 h2)
theorem pz_s_ineg (X : pz_Cx p l R s m args meth c D kA en a0 mc0 ms0 d own cc nL rt hh ini) : pz_r_ineg d en C own cc nL rt hh ini Q (pz_PW p l e R s m args below meth c D kA a0 nL mc0 ms0 Qf) := by
  intro pc ls st h nc ns x hd k H locs cells slots la hL hR hV h1 h2
  obtain ⟨hx, hb, hml, hown, hts, hS0, hmc, hms, hfr, hlo, hret, hlk, hini, hex, hlT⟩ := X
  exact lv_ineg hx hb hd (k H locs cells slots la hL hR hV h1 h2)
theorem pz_s_i2d (X : pz_Cx p l R s m args meth c D kA en a0 mc0 ms0 d own cc nL rt hh ini) : pz_r_i2d d en C own cc nL rt hh ini Q (pz_PW p l e R s m args below meth c D kA a0 nL mc0 ms0 Qf) := by
  intro pc ls st h nc ns x hd k H locs cells slots la hL hR hV h1 h2
  obtain ⟨hx, hb, hml, hown, hts, hS0, hmc, hms, hfr, hlo, hret, hlk, hini, hex, hlT⟩ := X
  exact lv_i2d hx hb hd (k H locs cells slots la hL hR hV h1 h2)
theorem pz_s_dcmp (X : pz_Cx p l R s m args meth c D kA en a0 mc0 ms0 d own cc nL rt hh ini) : pz_r_dcmp d en C own cc nL rt hh ini Q (pz_PW p l e R s m args below meth c D kA a0 nL mc0 ms0 Qf) := by
  intro pc ls st h nc ns x y op hd k H locs cells slots la hL hR hV h1 h2
  obtain ⟨hx, hb, hml, hown, hts, hS0, hmc, hms, hfr, hlo, hret, hlk, hini, hex, hlT⟩ := X
  exact lv_dcmp hx hb hd (k H locs cells slots la hL hR hV h1 h2)
theorem pz_s_lcmp (X : pz_Cx p l R s m args meth c D kA en a0 mc0 ms0 d own cc nL rt hh ini) : pz_r_lcmp d en C own cc nL rt hh ini Q (pz_PW p l e R s m args below meth c D kA a0 nL mc0 ms0 Qf) := by
  intro pc ls st h nc ns x y hd k H locs cells slots la hL hR hV h1 h2
  obtain ⟨hx, hb, hml, hown, hts, hS0, hmc, hms, hfr, hlo, hret, hlk, hini, hex, hlT⟩ := X
  exact W.lcmp hx hb hd (k H locs cells slots la hL hR hV h1 h2)
theorem pz_s_iushr (X : pz_Cx p l R s m args meth c D kA en a0 mc0 ms0 d own cc nL rt hh ini) : pz_r_iushr d en C own cc nL rt hh ini Q (pz_PW p l e R s m args below meth c D kA a0 nL mc0 ms0 Qf) := by
  intro pc ls st h nc ns x y hd k H locs cells slots la hL hR hV h1 h2
  obtain ⟨hx, hb, hml, hown, hts, hS0, hmc, hms, hfr, hlo, hret, hlk, hini, hex, hlT⟩ := X
  exact lv_iushr hx hb hd rfl (k H locs cells slots la hL hR hV h1 h2)
theorem pz_s_i2l (X : pz_Cx p l R s m args meth c D kA en a0 mc0 ms0 d own cc nL rt hh ini) : pz_r_i2l d en C own cc nL rt hh ini Q (pz_PW p l e R s m args below meth c D kA a0 nL mc0 ms0 Qf) := by
  intro pc ls st h nc ns x hd k H locs cells slots la hL hR hV h1 h2
  obtain ⟨hx, hb, hml, hown, hts, hS0, hmc, hms, hfr, hlo, hret, hlk, hini, hex, hlT⟩ := X
  exact lv_i2l hx hb hd rfl (k H locs cells slots la hL hR hV h1 h2)
theorem pz_s_i2c (X : pz_Cx p l R s m args meth c D kA en a0 mc0 ms0 d own cc nL rt hh ini) : pz_r_i2c d en C own cc nL rt hh ini Q (pz_PW p l e R s m args below meth c D kA a0 nL mc0 ms0 Qf) := by
  intro pc ls st h nc ns x hd k H locs cells slots la hL hR hV h1 h2
  obtain ⟨hx, hb, hml, hown, hts, hS0, hmc, hms, hfr, hlo, hret, hlk, hini, hex, hlT⟩ := X
  exact lv_i2c hx hb hd rfl (k H locs cells slots la hL hR hV h1 h2)
theorem pz_s_idiv (X : pz_Cx p l R s m args meth c D kA en a0 mc0 ms0 d own cc nL rt hh ini) : pz_r_idiv d en C own cc nL rt hh ini Q (pz_PW p l e R s m args below meth c D kA a0 nL mc0 ms0 Qf) := by
  intro pc ls st h nc ns x y hd hne k H locs cells slots la hL hR hV h1 h2
  obtain ⟨hx, hb, hml, hown, hts, hS0, hmc, hms, hfr, hlo, hret, hlk, hini, hex, hlT⟩ := X
  exact lv_idiv hx hb hd hne (k H locs cells slots la hL hR hV h1 h2)
theorem pz_s_irem (X : pz_Cx p l R s m args meth c D kA en a0 mc0 ms0 d own cc nL rt hh ini) : pz_r_irem d en C own cc nL rt hh ini Q (pz_PW p l e R s m args below meth c D kA a0 nL mc0 ms0 Qf) := by
  intro pc ls st h nc ns x y hd hne k H locs cells slots la hL hR hV h1 h2
  obtain ⟨hx, hb, hml, hown, hts, hS0, hmc, hms, hfr, hlo, hret, hlk, hini, hex, hlT⟩ := X
  exact lv_irem hx hb hd hne (k H locs cells slots la hL hR hV h1 h2)
theorem pz_s_ddiv (X : pz_Cx p l R s m args meth c D kA en a0 mc0 ms0 d own cc nL rt hh ini) : pz_r_ddiv d en C own cc nL rt hh ini Q (pz_PW p l e R s m args below meth c D kA a0 nL mc0 ms0 Qf) := by
  intro pc ls st h nc ns x y hd hne k H locs cells slots la hL hR hV h1 h2
  obtain ⟨hx, hb, hml, hown, hts, hS0, hmc, hms, hfr, hlo, hret, hlk, hini, hex, hlT⟩ := X
  exact lv_ddiv hx hb hd hne (k H locs cells slots la hL hR hV h1 h2)
theorem pz_s_dup (X : pz_Cx p l R s m args meth c D kA en a0 mc0 ms0 d own cc nL rt hh ini) : pz_r_dup d en C own cc nL rt hh ini Q (pz_PW p l e R s m args below meth c D kA a0 nL mc0 ms0 Qf) := by
  intro pc ls st h nc ns v hd hc k H locs cells slots la hL hR hV h1 h2
  obtain ⟨hx, hb, hml, hown, hts, hS0, hmc, hms, hfr, hlo, hret, hlk, hini, hex, hlT⟩ := X
  exact lv_dup hx hb hd hc (k H locs cells slots la hL hR hV h1 h2)
theorem pz_s_dup2 (X : pz_Cx p l R s m args meth c D kA en a0 mc0 ms0 d own cc nL rt hh ini) : pz_r_dup2 d en C own cc nL rt hh ini Q (pz_PW p l e R s m args below meth c D kA a0 nL mc0 ms0 Qf) := by
  intro pc ls st h nc ns v u hd hc hc2 k H locs cells slots la hL hR hV h1 h2
  obtain ⟨hx, hb, hml, hown, hts, hS0, hmc, hms, hfr, hlo, hret, hlk, hini, hex, hlT⟩ := X
  exact lv_dup2_11 hx hb hd hc hc2 (k H locs cells slots la hL hR hV h1 h2)
theorem pz_s_pop (X : pz_Cx p l R s m args meth c D kA en a0 mc0 ms0 d own cc nL rt hh ini) : pz_r_pop d en C own cc nL rt hh ini Q (pz_PW p l e R s m args below meth c D kA a0 nL mc0 ms0 Qf) := by
  intro pc ls st h nc ns v hd hc k H locs cells slots la hL hR hV h1 h2
  obtain ⟨hx, hb, hml, hown, hts, hS0, hmc, hms, hfr, hlo, hret, hlk, hini, hex, hlT⟩ := X
  exact lv_pop hx hb hd hc (k H locs cells slots la hL hR hV h1 h2)
theorem pz_s_if_eq (X : pz_Cx p l R s m args meth c D kA en a0 mc0 ms0 d own cc nL rt hh ini) : pz_r_if_eq d en C own cc nL rt hh ini Q (pz_PW p l e R s m args below meth c D kA a0 nL mc0 ms0 Qf) := by
  intro pc ls st h nc ns x off tgt hd ht kt kf H locs cells slots la hL hR hV h1 h2
  obtain ⟨hx, hb, hml, hown, hts, hS0, hmc, hms, hfr, hlo, hret, hlk, hini, hex, hlT⟩ := X
  exact lv_if_eq hx hb hd ht (fun z => kt z H locs cells slots la hL hR hV h1 h2) (fun z => kf z H locs cells slots la hL hR hV h1 h2)
theorem pz_s_icmp_eq (X : pz_Cx p l R s m args meth c D kA en a0 mc0 ms0 d own cc nL rt hh ini) : pz_r_icmp_eq d en C own cc nL rt hh ini Q (pz_PW p l e R s m args below meth c D kA a0 nL mc0 ms0 Qf) := by
  intro pc ls st h nc ns x y off tgt hd ht kt kf H locs cells slots la hL hR hV h1 h2
  obtain ⟨hx, hb, hml, hown, hts, hS0, hmc, hms, hfr, hlo, hret, hlk, hini, hex, hlT⟩ := X
  exact lv_icmp_eq hx hb hd ht (fun z => kt z H locs cells slots la hL hR hV h1 h2) (fun z => kf z H locs cells slots la hL hR hV h1 h2)
theorem pz_s_if_ne (X : pz_Cx p l R s m args meth c D kA en a0 mc0 ms0 d own cc nL rt hh ini) : pz_r_if_ne d en C own cc nL rt hh ini Q (pz_PW p l e R s m args below meth c D kA a0 nL mc0 ms0 Qf) := by
  intro pc ls st h nc ns x off tgt hd ht kt kf H locs cells slots la hL hR hV h1 h2
  obtain ⟨hx, hb, hml, hown, hts, hS0, hmc, hms, hfr, hlo, hret, hlk, hini, hex, hlT⟩ := X
  exact lv_if_ne hx hb hd ht (fun z => kt z H locs cells slots la hL hR hV h1 h2) (fun z => kf z H locs cells slots la hL hR hV h1 h2)
theorem pz_s_icmp_ne (X : pz_Cx p l R s m args meth c D kA en a0 mc0 ms0 d own cc nL rt hh ini) : pz_r_icmp_ne d en C own cc nL rt hh ini Q (pz_PW p l e R s m args below meth c D kA a0 nL mc0 ms0 Qf) := by
  intro pc ls st h nc ns x y off tgt hd ht kt kf H locs cells slots la hL hR hV h1 h2
  obtain ⟨hx, hb, hml, hown, hts, hS0, hmc, hms, hfr, hlo, hret, hlk, hini, hex, hlT⟩ := X
  exact lv_icmp_ne hx hb hd ht (fun z => kt z H locs cells slots la hL hR hV h1 h2) (fun z => kf z H locs cells slots la hL hR hV h1 h2)
theorem pz_s_if_lt (X : pz_Cx p l R s m args meth c D kA en a0 mc0 ms0 d own cc nL rt hh ini) : pz_r_if_lt d en C own cc nL rt hh ini Q (pz_PW p l e R s m args below meth c D kA a0 nL mc0 ms0 Qf) := by
  intro pc ls st h nc ns x off tgt hd ht kt kf H locs cells slots la hL hR hV h1 h2
  obtain ⟨hx, hb, hml, hown, hts, hS0, hmc, hms, hfr, hlo, hret, hlk, hini, hex, hlT⟩ := X
  exact lv_if_lt hx hb hd ht (fun z => kt z H locs cells slots la hL hR hV h1 h2) (fun z => kf z H locs cells slots la hL hR hV h1 h2)
theorem pz_s_icmp_lt (X : pz_Cx p l R s m args meth c D kA en a0 mc0 ms0 d own cc nL rt hh ini) : pz_r_icmp_lt d en C own cc nL rt hh ini Q (pz_PW p l e R s m args below meth c D kA a0 nL mc0 ms0 Qf) := by
  intro pc ls st h nc ns x y off tgt hd ht kt kf H locs cells slots la hL hR hV h1 h2
  obtain ⟨hx, hb, hml, hown, hts, hS0, hmc, hms, hfr, hlo, hret, hlk, hini, hex, hlT⟩ := X
  exact lv_icmp_lt hx hb hd ht (fun z => kt z H locs cells slots la hL hR hV h1 h2) (fun z => kf z H locs cells slots la hL hR hV h1 h2)
theorem pz_s_if_ge (X : pz_Cx p l R s m args meth c D kA en a0 mc0 ms0 d own cc nL rt hh ini) : pz_r_if_ge d en C own cc nL rt hh ini Q (pz_PW p l e R s m args below meth c D kA a0 nL mc0 ms0 Qf) := by
  intro pc ls st h nc ns x off tgt hd ht kt kf H locs cells slots la hL hR hV h1 h2
  obtain ⟨hx, hb, hml, hown, hts, hS0, hmc, hms, hfr, hlo, hret, hlk, hini, hex, hlT⟩ := X
  exact lv_if_ge hx hb hd ht (fun z => kt z H locs cells slots la hL hR hV h1 h2) (fun z => kf z H locs cells slots la hL hR hV h1 h2)
theorem pz_s_icmp_ge (X : pz_Cx p l R s m args meth c D kA en a0 mc0 ms0 d own cc nL rt hh ini) : pz_r_icmp_ge d en C own cc nL rt hh ini Q (pz_PW p l e R s m args below meth c D kA a0 nL mc0 ms0 Qf) := by
  intro pc ls st h nc ns x y off tgt hd ht kt kf H locs cells slots la hL hR hV h1 h2
  obtain ⟨hx, hb, hml, hown, hts, hS0, hmc, hms, hfr, hlo, hret, hlk, hini, hex, hlT⟩ := X
  exact lv_icmp_ge hx hb hd ht (fun z => kt z H locs cells slots la hL hR hV h1 h2) (fun z => kf z H locs cells slots la hL hR hV h1 h2)
theorem pz_s_if_gt (X : pz_Cx p l R s m args meth c D kA en a0 mc0 ms0 d own cc nL rt hh ini) : pz_r_if_gt d en C own cc nL rt hh ini Q (pz_PW p l e R s m args below meth c D kA a0 nL mc0 ms0 Qf) := by
  intro pc ls st h nc ns x off tgt hd ht kt kf H locs cells slots la hL hR hV h1 h2
  obtain ⟨hx, hb, hml, hown, hts, hS0, hmc, hms, hfr, hlo, hret, hlk, hini, hex, hlT⟩ := X
  exact lv_if_gt hx hb hd ht (fun z => kt z H locs cells slots la hL hR hV h1 h2) (fun z => kf z H locs cells slots la hL hR hV h1 h2)
theorem pz_s_icmp_gt (X : pz_Cx p l R s m args meth c D kA en a0 mc0 ms0 d own cc nL rt hh ini) : pz_r_icmp_gt d en C own cc nL rt hh ini Q (pz_PW p l e R s m args below meth c D kA a0 nL mc0 ms0 Qf) := by
  intro pc ls st h nc ns x y off tgt hd ht kt kf H locs cells slots la hL hR hV h1 h2
  obtain ⟨hx, hb, hml, hown, hts, hS0, hmc, hms, hfr, hlo, hret, hlk, hini, hex, hlT⟩ := X
  exact lv_icmp_gt hx hb hd ht (fun z => kt z H locs cells slots la hL hR hV h1 h2) (fun z => kf z H locs cells slots la hL hR hV h1 h2)
theorem pz_s_if_le (X : pz_Cx p l R s m args meth c D kA en a0 mc0 ms0 d own cc nL rt hh ini) : pz_r_if_le d en C own cc nL rt hh ini Q (pz_PW p l e R s m args below meth c D kA a0 nL mc0 ms0 Qf) := by
  intro pc ls st h nc ns x off tgt hd ht kt kf H locs cells slots la hL hR hV h1 h2
  obtain ⟨hx, hb, hml, hown, hts, hS0, hmc, hms, hfr, hlo, hret, hlk, hini, hex, hlT⟩ := X
  exact lv_if_le hx hb hd ht (fun z => kt z H locs cells slots la hL hR hV h1 h2) (fun z => kf z H locs cells slots la hL hR hV h1 h2)
theorem pz_s_icmp_le (X : pz_Cx p l R s m args meth c D kA en a0 mc0 ms0 d own cc nL rt hh ini) : pz_r_icmp_le d en C own cc nL rt hh ini Q (pz_PW p l e R s m args below meth c D kA a0 nL mc0 ms0 Qf) := by
  intro pc ls st h nc ns x y off tgt hd ht kt kf H locs cells slots la hL hR hV h1 h2
  obtain ⟨hx, hb, hml, hown, hts, hS0, hmc, hms, hfr, hlo, hret, hlk, hini, hex, hlT⟩ := X
  exact lv_icmp_le hx hb hd ht (fun z => kt z H locs cells slots la hL hR hV h1 h2) (fun z => kf z H locs cells slots la hL hR hV h1 h2)
theorem pz_s_goto (X : pz_Cx p l R s m args meth c D kA en a0 mc0 ms0 d own cc nL rt hh ini) : pz_r_goto d en C own cc nL rt hh ini Q (pz_PW p l e R s m args below meth c D kA a0 nL mc0 ms0 Qf) := by
  intro pc ls st h nc ns off tgt hd ht k H locs cells slots la hL hR hV h1 h2
  obtain ⟨hx, hb, hml, hown, hts, hS0, hmc, hms, hfr, hlo, hret, hlk, hini, hex, hlT⟩ := X
  exact lv_goto hx hb hd ht (k H locs cells slots la hL hR hV h1 h2)
theorem pz_s_tsin (X : pz_Cx p l R s m args meth c D kA en a0 mc0 ms0 d own cc nL rt hh ini) : pz_r_tsin d en C own cc nL rt hh ini Q (pz_PW p l e R s m args below meth c D kA a0 nL mc0 ms0 Qf) := by
  intro pc ls st h nc ns dflt lo hi offs len x off tgt hd g1 g2 ho ht k H locs cells slots la hL hR hV h1 h2
  obtain ⟨hx, hb, hml, hown, hts, hS0, hmc, hms, hfr, hlo, hret, hlk, hini, hex, hlT⟩ := X
  exact lv_tableIn hx hb hd g1 g2 ho ht (k H locs cells slots la hL hR hV h1 h2)
theorem pz_s_tsout (X : pz_Cx p l R s m args meth c D kA en a0 mc0 ms0 d own cc nL rt hh ini) : pz_r_tsout d en C own cc nL rt hh ini Q (pz_PW p l e R s m args below meth c D kA a0 nL mc0 ms0 Qf) := by
  intro pc ls st h nc ns dflt lo hi offs len x tgt hd g1 ht k H locs cells slots la hL hR hV h1 h2
  obtain ⟨hx, hb, hml, hown, hts, hS0, hmc, hms, hfr, hlo, hret, hlk, hini, hex, hlT⟩ := X
  exact lv_tableOut hx hb hd g1 ht (k H locs cells slots la hL hR hV h1 h2)
theorem pz_s_lsw (X : pz_Cx p l R s m args meth c D kA en a0 mc0 ms0 d own cc nL rt hh ini) : pz_r_lsw d en C own cc nL rt hh ini Q (pz_PW p l e R s m args below meth c D kA a0 nL mc0 ms0 Qf) := by
  intro pc ls st h nc ns dflt ps len x off tgt hd hp ho ht k H locs cells slots la hL hR hV h1 h2
  obtain ⟨hx, hb, hml, hown, hts, hS0, hmc, hms, hfr, hlo, hret, hlk, hini, hex, hlT⟩ := X
  exact lv_lookup hx hb hd hp ho ht (k H locs cells slots la hL hR hV h1 h2)
theorem pz_s_getf (X : pz_Cx p l R s m args meth c D kA en a0 mc0 ms0 d own cc nL rt hh ini) : pz_r_getf d en C own cc nL rt hh ini Q (pz_PW p l e R s m args below meth c D kA a0 nL mc0 ms0 Qf) := by
  intro pc ls st h nc ns i ci k a fs v hd hf ha hv kk H locs cells slots la hL hR hV h1 h2
  obtain ⟨hx, hb, hml, hown, hts, hS0, hmc, hms, hfr, hlo, hret, hlk, hini, hex, hlT⟩ := X
  obtain ⟨L, f, hP, hD, hh2⟩ := hR
  obtain ⟨q0, hq⟩ := pz_Rep_at (D := D) (a0 := a0) hh2 ha
  obtain ⟨g1, g2, g3, g4⟩ := pz_fld_spec hf
  exact va_get hx hb hts (pz_lay ci g1) hown hS0.1 hP q0 hq (pz_cl ci g1) k g2 (hts _ g4) (fun _ z => z) hv hd (kk H locs cells slots la hL ⟨L, f, hP, hD, hh2⟩ hV h1 h2)
theorem pz_s_putf (X : pz_Cx p l R s m args meth c D kA en a0 mc0 ms0 d own cc nL rt hh ini) : pz_r_putf d en C own cc nL rt hh ini Q (pz_PW p l e R s m args below meth c D kA a0 nL mc0 ms0 Qf) := by
  intro pc ls st h nc ns i ci k a fs v hp2 hd hf hfin ha hl0 hn hfit hu kk H locs cells slots la hL hR hV h1 h2
  obtain ⟨hx, hb, hml, hown, hts, hS0, hmc, hms, hfr, hlo, hret, hlk, hini, hex, hlT⟩ := X
  subst hu
  obtain ⟨L, f, hP, hD, hh2⟩ := hR
  obtain ⟨q0, hq⟩ := pz_Rep_at (D := D) (a0 := a0) hh2 ha
  obtain ⟨g1, g2, g3, g4⟩ := pz_fld_spec hf
  rcases hfin with hfin | ⟨hfin, rfl⟩
  · exact va_put hx hb hts (pz_lay ci g1) (pz_ty ci) (pz_ty_ok ci g1) (pz_nm ci g1) hown hS0.1 hP hD hV q0 hq (pz_cl ci g1) k g2 (hts _ g4) (fun _ z => z) hfin (pz_ty_ok ci g1 k g2) hn hfit hl0 hd (fun H1 locs1 hP1 hD1 hV1 => kk H1 locs1 cells slots la hL (pz_Rep_set hD hh2 ha hq rfl hP1 hD1) hV1 h1 h2)
  · by_cases hf2 : (pz_T ci k).2.2.2 = false
    · exact va_put hx hb hts (pz_lay ci g1) (pz_ty ci) (pz_ty_ok ci g1) (pz_nm ci g1) hown hS0.1 hP hD hV q0 hq (pz_cl ci g1) k g2 (hts _ g4) (fun _ z => z) hf2 (pz_ty_ok ci g1 k g2) hn hfit hl0 hd (fun H1 locs1 hP1 hD1 hV1 => kk H1 locs1 cells slots la hL (pz_Rep_set hD hh2 ha hq rfl hP1 hD1) hV1 h1 h2)
    · exact va_putF hx hb hts (pz_lay ci g1) (pz_ty ci) (pz_ty_ok ci g1) (pz_nm ci g1) hown hS0.1 hP hD hV q0 hq (pz_cl ci g1) k g2 (hts _ g4) (fun _ z => z) (by simpa using hf2) (hini hfin) g3 (pz_ty_ok ci g1 k g2) hn hfit hl0 hd (fun H1 locs1 hP1 hD1 hV1 => kk H1 locs1 cells slots la hL (pz_Rep_set hD hh2 ha hq rfl hP1 hD1) hV1 h1 h2)
theorem pz_s_new (X : pz_Cx p l R s m args meth c D kA en a0 mc0 ms0 d own cc nL rt hh ini) : pz_r_new d en C own cc nL rt hh ini Q (pz_PW p l e R s m args below meth c D kA a0 nL mc0 ms0 Qf) := by
  intro pc ls st h nc ns i ci N hd hc hN k H locs cells slots la hL hR hV h1 h2
  obtain ⟨hx, hb, hml, hown, hts, hS0, hmc, hms, hfr, hlo, hret, hlk, hini, hex, hlT⟩ := X
  subst hN
  obtain ⟨L, f, hP, hD, hh2⟩ := hR
  obtain ⟨g1, g2⟩ := pz_cls_spec hc
  obtain ⟨i1, i2⟩ := pz_inst ci g1
  exact va_new hx hb hts (pz_lay ci g1) (pz_ty ci) (pz_ty_ok ci g1) hown (hts _ (pz_Gc g2)) (hts _ (pz_Gin i1 rfl)) (hts _ (pz_Gin i2 rfl)) hS0.1 hP hD hV (fun q hq => Nat.le_trans hS0.2.2.2.2.2.2.2.2.2.2.2 hq) (pz_cl ci g1) (fs := pz_blank ci) (pz_blank_ok ci) (by omega) (by omega) hd (fun q H1 hP1 hD1 hV1 => k q (pz_Rep_push (D := D) (kA := kA) (a0 := a0) (e2 := .inr (ci, pz_blank ci)) hh2 rfl hP1 hD1).1 H1 locs (cells + 1) (slots + pz_N ci) la hL (pz_Rep_push (D := D) (kA := kA) (a0 := a0) (e2 := .inr (ci, pz_blank ci)) hh2 rfl hP1 hD1).2 hV1 (by omega) (by omega))
theorem pz_s_newai (X : pz_Cx p l R s m args meth c D kA en a0 mc0 ms0 d own cc nL rt hh ini) : pz_r_newai d en C own cc nL rt hh ini Q (pz_PW p l e R s m args below meth c D kA a0 nL mc0 ms0 Qf) := by
  intro pc ls st h nc ns n N hd hk hN k H locs cells slots la hL hR hV h1 h2
  obtain ⟨hx, hb, hml, hown, hts, hS0, hmc, hms, hfr, hlo, hret, hlk, hini, hex, hlT⟩ := X
  obtain ⟨L, f, hP, hD, hh2⟩ := hR
  obtain ⟨n1, n2⟩ := pz_nneg hk
  refine va_newa (atype := .int) (ty := .int) hx hb (hts _ (pz_Gin pz_arrW.1 rfl)) rfl hS0.1 hP hD hV (fun q hq => Nat.le_trans hS0.2.2.2.2.2.2.2.2.2.2.2 hq) (a0 := (N, .inl (fun _ => 0))) (fun _ => rfl) n1 n2 (by simp [componentBytes]; omega) (by omega) (by omega) hd (fun q cA H1 hK1 hP1 hD1 hV1 => ?_)
  have hcA : cA = kA 0 := pz_arr_uniq (hK1.2 5 (cA, .int) rfl) (hS0.1.2 0 _ rfl)
  subst hcA
  exact k q (pz_Rep_push (D := D) (kA := kA) (a0 := a0) (e2 := .inl (0, N, .inl (fun _ => 0))) hh2 rfl hP1 hD1).1 H1 locs (cells + 1) (slots + N) la hL (pz_Rep_push (D := D) (kA := kA) (a0 := a0) hh2 rfl hP1 hD1).2 hV1 (by omega) (by omega)
theorem pz_s_newac (X : pz_Cx p l R s m args meth c D kA en a0 mc0 ms0 d own cc nL rt hh ini) : pz_r_newac d en C own cc nL rt hh ini Q (pz_PW p l e R s m args below meth c D kA a0 nL mc0 ms0 Qf) := by
  intro pc ls st h nc ns n N hd hk hN k H locs cells slots la hL hR hV h1 h2
  obtain ⟨hx, hb, hml, hown, hts, hS0, hmc, hms, hfr, hlo, hret, hlk, hini, hex, hlT⟩ := X
  obtain ⟨L, f, hP, hD, hh2⟩ := hR
  obtain ⟨n1, n2⟩ := pz_nneg hk
  refine va_newa (atype := .char) (ty := .char) hx hb (hts _ (pz_Gin pz_arrW.2.1 rfl)) rfl hS0.1 hP hD hV (fun q hq => Nat.le_trans hS0.2.2.2.2.2.2.2.2.2.2.2 hq) (a0 := (N, .inl (fun _ => 0))) (fun _ => rfl) n1 n2 (by simp [componentBytes]; omega) (by omega) (by omega) hd (fun q cA H1 hK1 hP1 hD1 hV1 => ?_)
  have hcA : cA = kA 1 := pz_arr_uniq (hK1.2 5 (cA, .char) rfl) (hS0.1.2 1 _ rfl)
  subst hcA
  exact k q (pz_Rep_push (D := D) (kA := kA) (a0 := a0) (e2 := .inl (1, N, .inl (fun _ => 0))) hh2 rfl hP1 hD1).1 H1 locs (cells + 1) (slots + N) la hL (pz_Rep_push (D := D) (kA := kA) (a0 := a0) hh2 rfl hP1 hD1).2 hV1 (by omega) (by omega)
theorem pz_s_newal (X : pz_Cx p l R s m args meth c D kA en a0 mc0 ms0 d own cc nL rt hh ini) : pz_r_newal d en C own cc nL rt hh ini Q (pz_PW p l e R s m args below meth c D kA a0 nL mc0 ms0 Qf) := by
  intro pc ls st h nc ns n N hd hk hN k H locs cells slots la hL hR hV h1 h2
  obtain ⟨hx, hb, hml, hown, hts, hS0, hmc, hms, hfr, hlo, hret, hlk, hini, hex, hlT⟩ := X
  obtain ⟨L, f, hP, hD, hh2⟩ := hR
  obtain ⟨n1, n2⟩ := pz_nneg hk
  refine va_newa (atype := .long) (ty := .long) hx hb (hts _ (pz_Gin pz_arrW.2.2 rfl)) rfl hS0.1 hP hD hV (fun q hq => Nat.le_trans hS0.2.2.2.2.2.2.2.2.2.2.2 hq) (a0 := (N, .inr (.inl (fun _ => 0)))) (fun _ => rfl) n1 n2 (by simp [componentBytes]; omega) (by omega) (by omega) hd (fun q cA H1 hK1 hP1 hD1 hV1 => ?_)
  have hcA : cA = kA 2 := pz_arr_uniq (hK1.2 5 (cA, .long) rfl) (hS0.1.2 2 _ rfl)
  subst hcA
  exact k q (pz_Rep_push (D := D) (kA := kA) (a0 := a0) (e2 := .inl (2, N, .inr (.inl (fun _ => 0)))) hh2 rfl hP1 hD1).1 H1 locs (cells + 1) (slots + N) la hL (pz_Rep_push (D := D) (kA := kA) (a0 := a0) hh2 rfl hP1 hD1).2 hV1 (by omega) (by omega)
theorem pz_s_newaq (X : pz_Cx p l R s m args meth c D kA en a0 mc0 ms0 d own cc nL rt hh ini) : pz_r_newaq d en C own cc nL rt hh ini Q (pz_PW p l e R s m args below meth c D kA a0 nL mc0 ms0 Qf) := by
  intro pc ls st h nc ns i ci kq n N hd hc hq hk hN k H locs cells slots la hL hR hV h1 h2
  obtain ⟨hx, hb, hml, hown, hts, hS0, hmc, hms, hfr, hlo, hret, hlk, hini, hex, hlT⟩ := X
  obtain ⟨L, f, hP, hD, hh2⟩ := hR
  obtain ⟨n1, n2⟩ := pz_nneg hk
  obtain ⟨g1, g2⟩ := pz_cls_spec hc
  rcases hq with ⟨rfl, rfl⟩ | ⟨rfl, rfl⟩
  · refine va_newq hx hb hown (hts _ (pz_Gc g2)) hS0.2.2.2.2.2.1.1 hS0.1 hP hD hV (fun q hq => Nat.le_trans hS0.2.2.2.2.2.2.2.2.2.2.2 hq) n1 n2 (by omega) (by omega) (by omega) hd (fun q cA H1 hK1 hP1 hD1 hV1 => ?_)
    have hcA : cA = kA 3 := pz_arr_uniqq (hK1.2 5 (cA, .object RX0) rfl) (hS0.1.2 3 _ rfl)
    subst hcA
    exact k q (pz_Rep_push (D := D) (kA := kA) (a0 := a0) (e2 := .inl (3, N, .inr (.inr (.inr (.inr (fun _ => none)))))) hh2 rfl hP1 hD1).1 H1 locs (cells + 1) (slots + N) la hL (pz_Rep_push (D := D) (kA := kA) (a0 := a0) hh2 rfl hP1 hD1).2 hV1 (by omega) (by omega)
  · refine va_newq hx hb hown (hts _ (pz_Gc g2)) hS0.2.2.2.2.2.1.2 hS0.1 hP hD hV (fun q hq => Nat.le_trans hS0.2.2.2.2.2.2.2.2.2.2.2 hq) n1 n2 (by omega) (by omega) (by omega) hd (fun q cA H1 hK1 hP1 hD1 hV1 => ?_)
    have hcA : cA = kA 4 := pz_arr_uniqq (hK1.2 5 (cA, .object RX5) rfl) (hS0.1.2 4 _ rfl)
    subst hcA
    exact k q (pz_Rep_push (D := D) (kA := kA) (a0 := a0) (e2 := .inl (4, N, .inr (.inr (.inr (.inr (fun _ => none)))))) hh2 rfl hP1 hD1).1 H1 locs (cells + 1) (slots + N) la hL (pz_Rep_push (D := D) (kA := kA) (a0 := a0) hh2 rfl hP1 hD1).2 hV1 (by omega) (by omega)
theorem pz_s_iald (X : pz_Cx p l R s m args meth c D kA en a0 mc0 ms0 d own cc nL rt hh ini) : pz_r_iald d en C own cc nL rt hh ini Q (pz_PW p l e R s m args below meth c D kA a0 nL mc0 ms0 Qf) := by
  intro pc ls st h nc ns a i k n f hd ha hk hn kk H locs cells slots la hL hR hV h1 h2
  obtain ⟨hx, hb, hml, hown, hts, hS0, hmc, hms, hfr, hlo, hret, hlk, hini, hex, hlT⟩ := X
  obtain ⟨L, f2, hP, hD, hh2⟩ := hR
  obtain ⟨q0, hq⟩ := pz_Rep_at (D := D) (a0 := a0) hh2 ha
  obtain ⟨g1, g2⟩ := pz_vin hk hn
  have key := kk H locs cells slots la hL ⟨L, f2, hP, hD, hh2⟩ hV h1 h2
  rw [← g2] at key
  exact va_iald hx hb hS0.1 hP q0 0 hq rfl g1 hd key
theorem pz_s_cald (X : pz_Cx p l R s m args meth c D kA en a0 mc0 ms0 d own cc nL rt hh ini) : pz_r_cald d en C own cc nL rt hh ini Q (pz_PW p l e R s m args below meth c D kA a0 nL mc0 ms0 Qf) := by
  intro pc ls st h nc ns a i k n f hd ha hk hn kk H locs cells slots la hL hR hV h1 h2
  obtain ⟨hx, hb, hml, hown, hts, hS0, hmc, hms, hfr, hlo, hret, hlk, hini, hex, hlT⟩ := X
  obtain ⟨L, f2, hP, hD, hh2⟩ := hR
  obtain ⟨q0, hq⟩ := pz_Rep_at (D := D) (a0 := a0) hh2 ha
  obtain ⟨g1, g2⟩ := pz_vin hk hn
  have key := kk H locs cells slots la hL ⟨L, f2, hP, hD, hh2⟩ hV h1 h2
  rw [← g2] at key
  exact va_cald hx hb hS0.1 hP q0 1 hq rfl g1 hd key
theorem pz_s_lald (X : pz_Cx p l R s m args meth c D kA en a0 mc0 ms0 d own cc nL rt hh ini) : pz_r_lald d en C own cc nL rt hh ini Q (pz_PW p l e R s m args below meth c D kA a0 nL mc0 ms0 Qf) := by
  intro pc ls st h nc ns a i k n f hd ha hk hn kk H locs cells slots la hL hR hV h1 h2
  obtain ⟨hx, hb, hml, hown, hts, hS0, hmc, hms, hfr, hlo, hret, hlk, hini, hex, hlT⟩ := X
  obtain ⟨L, f2, hP, hD, hh2⟩ := hR
  obtain ⟨q0, hq⟩ := pz_Rep_at (D := D) (a0 := a0) hh2 ha
  obtain ⟨g1, g2⟩ := pz_vin hk hn
  have key := kk H locs cells slots la hL ⟨L, f2, hP, hD, hh2⟩ hV h1 h2
  rw [← g2] at key
  exact va_lald hx hb hS0.1 hP q0 2 hq rfl g1 hd key
theorem pz_s_aald (X : pz_Cx p l R s m args meth c D kA en a0 mc0 ms0 d own cc nL rt hh ini) : pz_r_aald d en C own cc nL rt hh ini Q (pz_PW p l e R s m args below meth c D kA a0 nL mc0 ms0 Qf) := by
  intro pc ls st h nc ns a kq i k n f r hd ha hq hk hn hr kk H locs cells slots la hL hR hV h1 h2
  obtain ⟨hx, hb, hml, hown, hts, hS0, hmc, hms, hfr, hlo, hret, hlk, hini, hex, hlT⟩ := X
  obtain ⟨L, f2, hP, hD, hh2⟩ := hR
  obtain ⟨q0, hq0⟩ := pz_Rep_at (D := D) (a0 := a0) hh2 ha
  obtain ⟨g1, g2⟩ := pz_vin hk hn
  have key := kk H locs cells slots la hL ⟨L, f2, hP, hD, hh2⟩ hV h1 h2
  have e1 : Value.ref r = va_rf (f i.toNatClampNeg) := by rw [g2, hr]; rfl
  rw [e1] at key
  rcases hq with rfl | rfl
  · exact va_aldq hx hb hS0.1 hP q0 3 hq0 rfl g1 hd key
  · exact va_aldq hx hb hS0.1 hP q0 4 hq0 rfl g1 hd key
theorem pz_s_iast (X : pz_Cx p l R s m args meth c D kA en a0 mc0 ms0 d own cc nL rt hh ini) : pz_r_iast d en C own cc nL rt hh ini Q (pz_PW p l e R s m args below meth c D kA a0 nL mc0 ms0 Qf) := by
  intro pc ls st h nc ns a i x k n f hp2 hd ha hk hn hu kk H locs cells slots la hL hR hV h1 h2
  obtain ⟨hx, hb, hml, hown, hts, hS0, hmc, hms, hfr, hlo, hret, hlk, hini, hex, hlT⟩ := X
  subst hu
  obtain ⟨L, f2, hP, hD, hh2⟩ := hR
  obtain ⟨q0, hq0⟩ := pz_Rep_at (D := D) (a0 := a0) hh2 ha
  obtain ⟨g1, g2⟩ := pz_vin hk hn
  refine va_iast hx hb hS0.1 hP hD hV q0 0 hq0 rfl g1 hd (fun H1 locs1 hP1 hD1 hV1 => ?_)
  rw [g2] at hP1 hD1
  exact kk H1 locs1 cells slots la hL (pz_Rep_set hD hh2 ha hq0 rfl hP1 hD1) hV1 h1 h2
theorem pz_s_cast (X : pz_Cx p l R s m args meth c D kA en a0 mc0 ms0 d own cc nL rt hh ini) : pz_r_cast d en C own cc nL rt hh ini Q (pz_PW p l e R s m args below meth c D kA a0 nL mc0 ms0 Qf) := by
  intro pc ls st h nc ns a i x k n f hp2 hd ha hk hn hxn hu kk H locs cells slots la hL hR hV h1 h2
  obtain ⟨hx, hb, hml, hown, hts, hS0, hmc, hms, hfr, hlo, hret, hlk, hini, hex, hlT⟩ := X
  subst hu
  obtain ⟨L, f2, hP, hD, hh2⟩ := hR
  obtain ⟨q0, hq0⟩ := pz_Rep_at (D := D) (a0 := a0) hh2 ha
  obtain ⟨g1, g2⟩ := pz_vin hk hn
  refine va_cast hx hb hS0.1 hP hD hV q0 1 hq0 rfl g1 hd (fun H1 locs1 hP1 hD1 hV1 => ?_)
  rw [g2, hxn] at hP1 hD1
  exact kk H1 locs1 cells slots la hL (pz_Rep_set hD hh2 ha hq0 rfl hP1 hD1) hV1 h1 h2
theorem pz_s_last (X : pz_Cx p l R s m args meth c D kA en a0 mc0 ms0 d own cc nL rt hh ini) : pz_r_last d en C own cc nL rt hh ini Q (pz_PW p l e R s m args below meth c D kA a0 nL mc0 ms0 Qf) := by
  intro pc ls st h nc ns a i x k n f hp2 hd ha hk hn hu kk H locs cells slots la hL hR hV h1 h2
  obtain ⟨hx, hb, hml, hown, hts, hS0, hmc, hms, hfr, hlo, hret, hlk, hini, hex, hlT⟩ := X
  subst hu
  obtain ⟨L, f2, hP, hD, hh2⟩ := hR
  obtain ⟨q0, hq0⟩ := pz_Rep_at (D := D) (a0 := a0) hh2 ha
  obtain ⟨g1, g2⟩ := pz_vin hk hn
  refine va_last hx hb hS0.1 hP hD hV q0 2 hq0 rfl g1 hd (fun H1 locs1 hP1 hD1 hV1 => ?_)
  rw [g2] at hP1 hD1
  exact kk H1 locs1 cells slots la hL (pz_Rep_set hD hh2 ha hq0 rfl hP1 hD1) hV1 h1 h2
theorem pz_s_aast (X : pz_Cx p l R s m args meth c D kA en a0 mc0 ms0 d own cc nL rt hh ini) : pz_r_aast d en C own cc nL rt hh ini Q (pz_PW p l e R s m args below meth c D kA a0 nL mc0 ms0 Qf) := by
  intro pc ls st h nc ns a kq ci v vs i k n f hp2 hd ha hq hv hk hn hu kk H locs cells slots la hL hR hV h1 h2
  obtain ⟨hx, hb, hml, hown, hts, hS0, hmc, hms, hfr, hlo, hret, hlk, hini, hex, hlT⟩ := X
  subst hu
  obtain ⟨L, f2, hP, hD, hh2⟩ := hR
  obtain ⟨q0, hq0⟩ := pz_Rep_at (D := D) (a0 := a0) hh2 ha
  obtain ⟨g1, g2⟩ := pz_vin hk hn
  obtain ⟨qk, hqk⟩ := pz_Rep_at (D := D) (a0 := a0) hh2 hv
  rcases hq with ⟨rfl, rfl⟩ | ⟨rfl, rfl⟩
  · refine va_astq hx hb hS0.1 hP hD hV q0 3 qk 0 (r := (RX0, TX0, 8)) hq0 rfl hqk rfl g1 hd (fun H1 locs1 hP1 hD1 hV1 => ?_)
    rw [g2] at hP1 hD1
    exact kk H1 locs1 cells slots la hL (pz_Rep_set hD hh2 ha hq0 rfl hP1 hD1) hV1 h1 h2
  · refine va_astq hx hb hS0.1 hP hD hV q0 4 qk 5 (r := (RX5, TX5, 2)) hq0 rfl hqk rfl g1 hd (fun H1 locs1 hP1 hD1 hV1 => ?_)
    rw [g2] at hP1 hD1
    exact kk H1 locs1 cells slots la hL (pz_Rep_set hD hh2 ha hq0 rfl hP1 hD1) hV1 h1 h2
theorem pz_s_slen (X : pz_Cx p l R s m args meth c D kA en a0 mc0 ms0 d own cc nL rt hh ini) : pz_r_slen d en C own cc nL rt hh ini Q (pz_PW p l e R s m args below meth c D kA a0 nL mc0 ms0 Qf) := by
  intro pc ls st h nc ns hd kk H locs cells slots la hL hR hV h1 h2
  obtain ⟨hx, hb, hml, hown, hts, hS0, hmc, hms, hfr, hlo, hret, hlk, hini, hex, hlT⟩ := X
  exact va_slen hx hb hS0.2.2.2.2.2.2.2.2.2.1 (Nat.lt_of_lt_of_le hS0.2.2.2.2.2.2.2.2.2.2.1 hS0.2.2.2.2.2.2.2.2.2.2.2) (by unfold pz_A; exact Nat.not_le.mpr hS0.2.2.2.2.2.2.2.2.2.2.1) hV hd (kk H locs cells slots la hL hR hV h1 h2)
theorem pz_s_sld (X : pz_Cx p l R s m args meth c D kA en a0 mc0 ms0 d own cc nL rt hh ini) : pz_r_sld d en C own cc nL rt hh ini Q (pz_PW p l e R s m args below meth c D kA a0 nL mc0 ms0 Qf) := by
  intro pc ls st h nc ns i k hd hk hn kk H locs cells slots la hL hR hV h1 h2
  obtain ⟨hx, hb, hml, hown, hts, hS0, hmc, hms, hfr, hlo, hret, hlk, hini, hex, hlT⟩ := X
  obtain ⟨g1, g2⟩ := pz_vin hk hn
  have key := kk H locs cells slots la hL hR hV h1 h2
  rw [← g2] at key
  exact va_sld hx hb hS0.2.2.2.2.2.2.2.2.2.1 (Nat.lt_of_lt_of_le hS0.2.2.2.2.2.2.2.2.2.2.1 hS0.2.2.2.2.2.2.2.2.2.2.2) (by unfold pz_A; exact Nat.not_le.mpr hS0.2.2.2.2.2.2.2.2.2.2.1) hV g1 hd key
theorem pz_s_copy (X : pz_Cx p l R s m args meth c D kA en a0 mc0 ms0 d own cc nL rt hh ini) : pz_r_copy d en C own cc nL rt hh ini Q (pz_PW p l e R s m args below meth c D kA a0 nL mc0 ms0 Qf) := by
  intro pc ls st h nc ns ix a1 a n0 n1 i0 j0 N sp dp n f g hp2 hd hm hd1 ha0 ha hi hj hN g4 g5 hr hu kk H locs cells slots la hL hR hV h1 h2
  obtain ⟨hx, hb, hml, hown, hts, hS0, hmc, hms, hfr, hlo, hret, hlk, hini, hex, hlT⟩ := X
  subst hu
  obtain ⟨L, f2, hP, hD, hh2⟩ := hR
  obtain ⟨q0, hq0⟩ := pz_Rep_at (D := D) (a0 := a0) hh2 ha0
  obtain ⟨q1, hq1⟩ := pz_Rep_at (D := D) (a0 := a0) hh2 ha
  obtain ⟨s1, s2⟩ := pz_nneg hi
  obtain ⟨s3, s4⟩ := pz_nneg hj
  obtain ⟨s5, s6⟩ := pz_nneg hN
  have hcat := pz_cat8 hr
  refine va_copyi hx hb (hml.trans hL.1.symm) hown (hts _ (pz_nat_spec hm)) (hts _ (pz_Gin pz_natW.1 rfl)) (hts _ (pz_Gin pz_natW.2.1 rfl)) (hts _ (pz_Gin pz_natW.2.2 rfl)) hS0.1 hP hD hV q0 q1 0 0 hq0 hq1 rfl rfl rfl s1 s3 s5 (by rw [s2, s6]; exact g4) (by rw [s4, s6]; exact g5) (fun _ _ => rfl) (by omega) (by
    have : nativeFrameWords "java/lang/System" "arraycopy" 5 ≤ 16 := by decide +kernel
    omega) hd (fun H1 locs1 hP1 hD1 hV1 => ?_)
  rw [s2, s4, s6] at hP1 hD1
  exact kk H1 locs1 cells slots la hL (pz_Rep_set hD hh2 ha hq1 rfl hP1 hD1) hV1 h1 h2
theorem pz_s_max (X : pz_Cx p l R s m args meth c D kA en a0 mc0 ms0 d own cc nL rt hh ini) : pz_r_max d en C own cc nL rt hh ini Q (pz_PW p l e R s m args below meth c D kA a0 nL mc0 ms0 Qf) := by
  intro pc ls st h nc ns ix x y hd hm hd1 hr kk H locs cells slots la hL hR hV h1 h2
  obtain ⟨hx, hb, hml, hown, hts, hS0, hmc, hms, hfr, hlo, hret, hlk, hini, hex, hlT⟩ := X
  have hcat := pz_cat8 hr
  exact va_mmax hx hb (hml.trans hL.1.symm) hown (hts _ (pz_nat_spec hm)) (hts _ (pz_Gin pz_maxW.1 rfl)) (hts _ (pz_Gin pz_maxW.2.1 rfl)) (hts _ (pz_Gin pz_maxW.2.2 rfl)) (by omega) (by omega) (by omega) (by omega) hd (kk H locs cells slots la hL hR hV h1 h2)
theorem pz_s_min (X : pz_Cx p l R s m args meth c D kA en a0 mc0 ms0 d own cc nL rt hh ini) : pz_r_min d en C own cc nL rt hh ini Q (pz_PW p l e R s m args below meth c D kA a0 nL mc0 ms0 Qf) := by
  intro pc ls st h nc ns ix x y hd hm hd1 hr kk H locs cells slots la hL hR hV h1 h2
  obtain ⟨hx, hb, hml, hown, hts, hS0, hmc, hms, hfr, hlo, hret, hlk, hini, hex, hlT⟩ := X
  have hcat := pz_cat8 hr
  exact va_mmin hx hb (hml.trans hL.1.symm) hown (hts _ (pz_nat_spec hm)) (hts _ (pz_Gin pz_minW.1 rfl)) (hts _ (pz_Gin pz_minW.2.1 rfl)) (hts _ (pz_Gin pz_minW.2.2 rfl)) (by omega) (by omega) (by omega) (by omega) hd (kk H locs cells slots la hL hR hV h1 h2)
theorem pz_s_obj (X : pz_Cx p l R s m args meth c D kA en a0 mc0 ms0 d own cc nL rt hh ini) : pz_r_obj d en C own cc nL rt hh ini Q (pz_PW p l e R s m args below meth c D kA a0 nL mc0 ms0 Qf) := by
  intro pc ls st h nc ns ix a hd hm hd1 hr kk H locs cells slots la hL hR hV h1 h2
  obtain ⟨hx, hb, hml, hown, hts, hS0, hmc, hms, hfr, hlo, hret, hlk, hini, hex, hlT⟩ := X
  have hcat := pz_cat8 hr
  exact W.objInit hx hb hown (hts _ (pz_obj_spec hm)) (hts _ (pz_Gin pz_objW.1 rfl)) (hts _ (pz_Gin pz_objW.2 rfl)) rfl (hL.1.trans hml.symm) rfl hd (by omega) (by show 2 * 0 + _ + 12 ≤ _; omega) (kk H locs cells slots la hL hR hV h1 h2)
theorem pz_s_forget (X : pz_Cx p l R s m args meth c D kA en a0 mc0 ms0 d own cc nL rt hh ini) : pz_r_forget d en C own cc nL rt hh ini Q (pz_PW p l e R s m args below meth c D kA a0 nL mc0 ms0 Qf) := by
  intro pc ls st h nc ns ls2 hlf k H locs cells slots la hL hR hV h1 h2
  obtain ⟨hx, hb, hml, hown, hts, hS0, hmc, hms, hfr, hlo, hret, hlk, hini, hex, hlT⟩ := X
  exact k H locs cells slots la ⟨hL.1, hL.2.1, fun i v z => hL.2.2 i v (hlf i v z)⟩ hR hV h1 h2
end PZW
end
section
/-! calls, ends, the methods by depth -/
theorem pz_Rep_kept {D : va_G} {kA : Nat → ClassId} {a0 : Nat} {h : pz_H} {H H1 : Heap} (hR : pz_Rep D kA a0 h H) (hk : ∀ q : Nat, q < H.size → H1[q]? = H[q]?) : pz_Rep D kA a0 h H1 := by
  obtain ⟨L, f, hP, hD, hh⟩ := hR
  exact ⟨L, f, hP.kept (fun k x hx => hk x.1 ((hP k x hx).lt)), hD, hh⟩
def pz_Qc (D : va_G) (kA : Nat → ClassId) (a0 : Nat) (Q : pz_Q) : Array Value → State → Outcome → State → Prop := fun _ st o t => (∃ (v : Option Value) (h2 : pz_H), o = .returned v ∧ Q (.inl v) h2 ∧ pz_Rep D kA a0 h2 t.heap) ∧ va_F (pz_A a0) st t
def pz_XC (D : va_G) (kA : Nat → ClassId) (a0 : Nat) (Q : pz_Q) : String → State → State → Prop := fun E st t => (∃ h2 : pz_H, Q (.inr E) h2 ∧ pz_Rep D kA a0 h2 t.heap) ∧ va_F (pz_A a0) st t
def pz_B (D : va_G) (kA : Nat → ClassId) (en : pz_Env) (a0 : Nat) (h : pz_H) : State → Prop := fun U => pz_S D kA en a0 U U.heap ∧ pz_Rep D kA a0 h U.heap
def pz_Snd (l : Launch) (D : va_G) (kA : Nat → ClassId) (en : pz_Env) (a0 d : Nat) (C : pz_C) : Prop := ∀ (y : Nat) (yn : MethodName) (bs : ByteArray) (mL : Nat) (mr : Option FieldType) (mo np kd : Nat) (mh : List (Nat × Nat × Nat × Nat)) (ps : List Nat), pz_tab y = some (yn, bs, mL, mr, mo, np, kd, mh, ps) → ∀ (as : List Value) (h : pz_H) (mc ms : Nat) (Q : pz_Q), C y as h mc ms Q → vx_Met l yn (pz_word (yn, bs, mL, mr, mo, np, kd, mh, ps) :: pz_G) ({ frames := d, cells := mc, slots := ms, locals := 36 * d }) (va_Pc as (pz_B D kA en a0 h)) (pz_Qc D kA a0 Q) (pz_XC D kA a0 Q) mc ms (pz_A a0)
theorem pz_blind {D : va_G} {kA : Nat → ClassId} {en : pz_Env} {a0 : Nat} {h : pz_H} {as : List Value} : FrameBlind (va_Pc as (pz_B D kA en a0 h)) := by
  intro a U g mk hq
  exact ⟨hq.1, pz_S_move hq.2.1 (State.WarmedH.refl U) (fun _ _ _ => rfl) (Nat.le_refl _), hq.2.2⟩
theorem pz_pre {D : va_G} {kA : Nat → ClassId} {en : pz_Env} {a0 : Nat} {h : pz_H} {as : List Value} {s : State} {H : Heap} {locs : List Loc} (hS0 : pz_S D kA en a0 s s.heap) (hR : pz_Rep D kA a0 h H) (hV : va_S (pz_A a0) s.heap H locs) : PreS s H (va_Pc as (pz_B D kA en a0 h)) as := by
  refine ⟨pz_blind, fun U hU hW => ⟨rfl, ?_, by rw [hU]; exact hR⟩⟩
  rw [hU]
  exact pz_S_move hS0 hW hV.2.1 hV.1
theorem pz_met {l : Launch} {y : MethodName} {ws : List Cond} {rm : Room} {Pc : Array Value → State → Prop} {Qc : Array Value → State → Outcome → State → Prop} {XC : String → State → State → Prop} {mc ms : Nat} {free : Addr → Prop} (h : vx_Met l y ws rm Pc Qc XC mc ms free) (hx : ∀ E st t, ¬ XC E st t) : Met l y ws rm Pc Qc mc ms free := by
  intro p e h1 h2 h3 s m args below h4 h5 h6 h7
  obtain ⟨n, o, g1, g2, g3, g4⟩ := h p e h1 h2 h3 s m args below h4 h5 h6 h7
  refine ⟨n, o, g1, g2, g3, ?_⟩
  rcases g4 with g4 | ⟨q, -, E, ce, L, g4, -⟩
  · exact g4
  · exact absurd g4 (hx _ _ _)
/-- which row of a table takes the exception -/
theorem pz_hnd_spec {own : Nat} {pc : Nat} {E : String} {tgt : Nat} : ∀ (hh : List (Nat × Nat × Nat × Nat)), pz_hnd own hh pc E = some tgt → ∃ (pre : List (Nat × Nat × Nat × Nat)) (x : Nat × Nat × Nat × Nat) (suf : List (Nat × Nat × Nat × Nat)), hh = pre ++ x :: suf ∧ (x.1 ≤ pc ∧ pc < x.2.1) ∧ pz_cat own x.2.2.2 = some E ∧ x.2.2.1 = tgt ∧ ∀ z ∈ pre, ¬ (z.1 ≤ pc ∧ pc < z.2.1) ∨ ∃ nm, pz_cat own z.2.2.2 = some nm ∧ nm ≠ E := by
  intro hh
  induction hh with
  | nil => intro h; cases h
  | cons q r ih =>
    intro h
    unfold pz_hnd at h
    by_cases h1 : q.1 ≤ pc ∧ pc < q.2.1
    · rw [if_pos h1] at h
      cases hc : pz_cat own q.2.2.2 with
      | none => rw [hc] at h; cases h
      | some nm =>
        rw [hc] at h
        by_cases h2 : nm = E
        · simp only [h2, if_true] at h
          exact ⟨[], q, r, rfl, h1, by rw [hc, h2], Option.some.inj h, fun z hz => nomatch hz⟩
        · simp only [h2, if_false] at h
          obtain ⟨pre, x, suf, e1, e2, e3, e4, e5⟩ := ih h
          refine ⟨q :: pre, x, suf, by rw [e1]; rfl, e2, e3, e4, fun z hz => ?_⟩
          rcases List.mem_cons.mp hz with rfl | hz
          · exact Or.inr ⟨nm, hc, h2⟩
          · exact e5 z hz
    · rw [if_neg h1] at h
      obtain ⟨pre, x, suf, e1, e2, e3, e4, e5⟩ := ih h
      refine ⟨q :: pre, x, suf, by rw [e1]; rfl, e2, e3, e4, fun z hz => ?_⟩
      rcases List.mem_cons.mp hz with rfl | hz
      · exact Or.inl h1
      · exact e5 z hz
theorem pz_cat_Es : ∀ e ∈ pz_catL, e.2.1 ∈ pz_Es := by decide +kernel
theorem pz_cat_spec {own c : Nat} {nm : String} (h : pz_cat own c = some nm) : Cond.classLink (pz_R own) c nm ∈ lw_tbl ∧ c ≠ 0 ∧ nm ∈ pz_Es := by
  unfold pz_cat at h
  by_cases ho : own = 8
  · subst ho
    rw [if_pos rfl] at h
    cases hf : pz_catL.find? (fun e => e.1 == c) with
    | none => rw [hf] at h; cases h
    | some e =>
      rw [hf] at h
      have hm := List.mem_of_find?_eq_some hf
      have hp := List.find?_some hf
      simp only [beq_iff_eq] at hp
      simp only [Option.map_some, Option.some.injEq] at h
      obtain ⟨g1, g2⟩ := pz_catL_ok e hm
      have g3 := pz_cat_Es e hm
      rw [h] at g1 g3
      rw [hp] at g1 g2
      exact ⟨List.mem_of_getElem? g1, g2, g3⟩
  · rw [if_neg ho] at h; cases h
section PZC
variable {p : Program} {l : Launch} {e : Env} {R : Room} {s : State} {m : MethodId} {args : Array Value} {below : List Frame} {meth : Method} {c : Code} {D : va_G} {kA : Nat → ClassId} {en : pz_Env} {a0 mc0 ms0 : Nat} {Qf : State → Prop}
variable {d : Nat} {C : pz_C} {own : Nat} {cc : ByteArray} {nL : Nat} {rt : Option FieldType} {hh : List (Nat × Nat × Nat × Nat)} {ini : Bool} {Q : pz_Q}
/-- behind a call that returns or throws -/
theorem pz_after (X : pz_Cx p l R s m args meth c D kA en a0 mc0 ms0 d own cc nL rt hh ini) {pc nc ns mc ms : Nat} {ls : List (Option Value)} {la : Array Slot} {st rest : List Value} {H : Heap} {locs : List Loc} {cells slots : Nat} {a : Array Value} (hL : pz_Lr nL ls la) (hV : va_S (pz_A a0) s.heap H locs) (h1 : cells + (nc + mc) ≤ mc0) (h2 : slots + (ns + ms) ≤ ms0)
    (hr : vx_Run p l e R s m args below meth c H locs cells slots mc ms (F0 m pc la st) rest (pz_Qc D kA a0 (fun o h2 => match o with | .inl v => pz_PW p l e R s m args below meth c D kA a0 nL mc0 ms0 Qf (pc + 3) ls (v.toList ++ rest) h2 nc ns | .inr E => ∃ tgt, pz_hnd own hh pc E = some tgt ∧ ∀ q, pz_PW p l e R s m args below meth c D kA a0 nL mc0 ms0 Qf tgt ls [.ref q] h2 nc ns) a) (pz_XC D kA a0 (fun o h2 => match o with | .inl v => pz_PW p l e R s m args below meth c D kA a0 nL mc0 ms0 Qf (pc + 3) ls (v.toList ++ rest) h2 nc ns | .inr E => ∃ tgt, pz_hnd own hh pc E = some tgt ∧ ∀ q, pz_PW p l e R s m args below meth c D kA a0 nL mc0 ms0 Qf tgt ls [.ref q] h2 nc ns)) (pz_A a0)) : W p l e R s m args below meth c H locs cells slots Qf (F0 m pc la st) := by
  obtain ⟨hx, hb, hml, hown, hts, hS0, hmc, hms, hfr, hlo, hret, hlk, hini, hex, hlT⟩ := X
  intro T hT X
  rcases hr T hT X with ⟨v, st₀, t, T', L, h0, X', hLl, e1, e2, ⟨⟨v', h', hv, hq, hrep⟩, hF⟩, stp⟩ | ⟨q, st₀, t, T', L, E, ce, h0, X', hLl, e1, e2, ⟨⟨h', hq, hrep⟩, hF⟩, hce, hcv, hcl, stp⟩
  · cases hv
    obtain ⟨k1, k2, k3⟩ := vx_keep h0 e1 hV (fun _ _ z => z) (fun _ z => z) hLl hF
    obtain ⟨t2, a1, b1⟩ := hq T'.heap (locs ++ L) (cells + mc) (slots + ms) la hL (by rw [e1]; exact hrep) k3 (by omega) (by omega) T' rfl X'
    exact ⟨t2, stp t2 a1, b1⟩
  · obtain ⟨k1, k2, k3⟩ := vx_keep h0 e1 hV (fun _ _ z => z) (fun _ z => z) hLl hF
    obtain ⟨tgt, htg, hq⟩ := hq
    rcases hex with ⟨-, h8⟩ | hex
    · rw [h8] at htg
      simp [pz_hnd] at htg
    obtain ⟨pre, x, suf, e3, e4, e5, e6, e7⟩ := pz_hnd_spec hh htg
    obtain ⟨c1, c2, c3⟩ := pz_cat_spec e5
    have kw : vx_W p l e R s m args below meth c T'.heap (locs ++ L) (cells + mc) (slots + ms) Qf (F0 m pc la rest) q := by
      refine vx_catch (own := pz_R own) (name := E) (E := E) (ce := ce) hown (pre.map fun q => ⟨q.1, q.2.1, q.2.2.1, q.2.2.2⟩) ⟨x.1, x.2.1, x.2.2.1, x.2.2.2⟩ (suf.map fun q => ⟨q.1, q.2.1, q.2.2.1, q.2.2.2⟩) (by rw [hex, e3]; simp [tableOf]) ?_ ?_ c2 (hts _ (pz_Gc c1)) (va_Nw.use rfl (hS0.2.2.2.2.1 E c3)) (by rw [e1]; exact hce) hcv hcl ?_
      · intro z hz
        obtain ⟨z0, hz0, rfl⟩ := List.mem_map.mp hz
        rcases e7 z0 hz0 with g | ⟨nm, g1, g2⟩
        · exact Or.inl (by simp [covers, g]; omega)
        · obtain ⟨d1, d2, d3⟩ := pz_cat_spec g1
          exact Or.inr ⟨d2, nm, hts _ (pz_Gc d1), hS0.2.2.2.1 E c3 nm d3 (fun z => g2 z.symm)⟩
      · simp [covers, e4]
      · show W p l e R s m args below meth c T'.heap (locs ++ L) (cells + mc) (slots + ms) Qf (F0 m x.2.2.1 la [.ref q])
        rw [e6]
        exact hq q T'.heap (locs ++ L) (cells + mc) (slots + ms) la hL (by rw [e1]; exact hrep) k3 (by omega) (by omega)
    obtain ⟨t2, a1, b1⟩ := kw T' rfl X'
    exact ⟨t2, stp.trans a1, b1⟩
/-- behind a constructor's call -/
theorem pz_after0 (X : pz_Cx p l R s m args meth c D kA en a0 mc0 ms0 d own cc nL rt hh ini) {pc nc ns mc ms : Nat} {ls : List (Option Value)} {la : Array Slot} {st rest : List Value} {H : Heap} {locs : List Loc} {cells slots : Nat} {a : Array Value} (hL : pz_Lr nL ls la) (hV : va_S (pz_A a0) s.heap H locs) (h1 : cells + (nc + mc) ≤ mc0) (h2 : slots + (ns + ms) ≤ ms0)
    (hr : va_Run p l e R s m args below meth c H locs cells slots mc ms (F0 m pc la st) rest (pz_Qc D kA a0 (fun o h2 => o = .inl none ∧ pz_PW p l e R s m args below meth c D kA a0 nL mc0 ms0 Qf (pc + 3) ls rest h2 nc ns) a) (pz_A a0)) : W p l e R s m args below meth c H locs cells slots Qf (F0 m pc la st) := by
  intro T hT X
  obtain ⟨v, st₀, t, T', L, h0, X', hLl, e1, e2, ⟨⟨v', h', hv, ⟨hv2, hq⟩, hrep⟩, hF⟩, stp⟩ := hr T hT X
  cases hv
  cases hv2
  obtain ⟨k1, k2, k3⟩ := vx_keep h0 e1 hV (fun _ _ z => z) (fun _ z => z) hLl hF
  obtain ⟨t2, a1, b1⟩ := hq T'.heap (locs ++ L) (cells + mc) (slots + ms) la hL (by rw [e1]; exact hrep) k3 (by omega) (by omega) T' rfl X'
  exact ⟨t2, stp t2 a1, b1⟩
theorem pz_s_callv (hC : pz_Snd l D kA en a0 (d - 1) C) (hd1 : 1 ≤ d) (X : pz_Cx p l R s m args meth c D kA en a0 mc0 ms0 d own cc nL rt hh ini) : pz_r_callv d en C own cc nL rt hh ini Q (pz_PW p l e R s m args below meth c D kA a0 nL mc0 ms0 Qf) := by
  intro pc ls st h nc ns ix b as rest fs mc ms y yn bs mL mr mo np ps hd hm ht hst hlen hb0 hr hmo k H locs cells slots la hL hR hV h1 h2
  have X0 := X
  obtain ⟨hx, hb, hml, hown, hts, hS0, hmc, hms, hfr, hlo, hret, hlk, hini, hex, hlT⟩ := X
  have hM := hC _ _ _ _ _ _ _ _ _ _ ht _ _ _ _ _ k
  obtain ⟨m1, m2, m3, m4, m5, m6, m7, m8, m9, m10, m11, m12, m13⟩ := pz_tabL_ok _ (pz_tab_mem ht)
  have hcat := pz_cat8 hr
  obtain ⟨me, hme, hlk2⟩ := pz_mth_spec hm
  rw [ht] at hme
  cases hme
  have hG2 : GoodIn pz_G (pz_word (yn, bs, mL, mr, mo, np, 1, [], ps) :: pz_G) := fun w hw => by
    rcases List.mem_cons.mp hw with rfl | hw
    · exact pz_G_good _ (pz_Gin m9 m10)
    · exact pz_G_good _ hw
  have hpar : ∀ sig, parseMethodDescriptor yn.desc = some sig → np = sig.parameters.length := fun sig hs => by
    rw [hs] at m4
    exact (Option.some.inj m4).symm
  obtain ⟨L, f, hP, hD, hh2⟩ := id hR
  obtain ⟨q0, hq0⟩ := pz_Rep_at (D := D) (a0 := a0) hh2 hb0
  subst hst
  have hP2 := pz_pre (as := .ref b :: as) hS0 hR hV
  refine pz_after X0 hL hV h1 h2 (vx_runV (C := yn.cls) ⟨hx, hb, hml, hown, hts⟩ hM ⟨⟨rfl, rfl, by show d - 1 + 1 ≤ R.frames; omega, by show 8 + (mL + 11) + 36 * (d - 1) ≤ R.locals; have m2' : mL ≤ 17 := m2; omega, pay_in hts hG2, List.mem_cons_self, hts _ (pz_Gin m9 m10), hts _ (pz_Gin m13 rfl), ⟨m5, m6⟩, hpar, hts _ hlk2⟩, hts _ (pz_Gin m11 rfl), hts _ (pz_Gin (m12 rfl) rfl)⟩ ⟨hP2.1, ?_, hP2.2⟩ rfl hlen hL.1 rfl (lv_room hcat) hd ⟨by omega, by omega⟩)
  have hrc := va_recv hS0.1 hP (pz_cl mo hmo) hq0
  have m3' : yn.cls = pz_R mo := m3
  rw [m3']
  exact hrc
theorem pz_s_calls (hC : pz_Snd l D kA en a0 (d - 1) C) (hd1 : 1 ≤ d) (X : pz_Cx p l R s m args meth c D kA en a0 mc0 ms0 d own cc nL rt hh ini) : pz_r_calls d en C own cc nL rt hh ini Q (pz_PW p l e R s m args below meth c D kA a0 nL mc0 ms0 Qf) := by
  intro pc ls st h nc ns ix as rest mc ms y yn bs mL mr mo np mh ps hd hm ht hst hlen hr k H locs cells slots la hL hR hV h1 h2
  have X0 := X
  obtain ⟨hx, hb, hml, hown, hts, hS0, hmc, hms, hfr, hlo, hret, hlk, hini, hex, hlT⟩ := X
  have hM := hC _ _ _ _ _ _ _ _ _ _ ht _ _ _ _ _ k
  obtain ⟨m1, m2, m3, m4, m5, m6, m7, m8, m9, m10, m11, m12, m13⟩ := pz_tabL_ok _ (pz_tab_mem ht)
  have hcat := pz_cat8 hr
  obtain ⟨me, hme, hlk2⟩ := pz_mth_spec hm
  rw [ht] at hme
  cases hme
  have hG2 : GoodIn pz_G (pz_word (yn, bs, mL, mr, mo, np, 0, mh, ps) :: pz_G) := fun w hw => by
    rcases List.mem_cons.mp hw with rfl | hw
    · exact pz_G_good _ (pz_Gin m9 m10)
    · exact pz_G_good _ hw
  have hpar : ∀ sig, parseMethodDescriptor yn.desc = some sig → np = sig.parameters.length := fun sig hs => by
    rw [hs] at m4
    exact (Option.some.inj m4).symm
  subst hst
  have hP2 := pz_pre (as := as) hS0 hR hV
  cases mh with
  | nil => exact pz_after X0 hL hV h1 h2 (vx_runS ⟨hx, hb, hml, hown, hts⟩ hM ⟨⟨rfl, rfl, by show d - 1 + 1 ≤ R.frames; omega, by show 8 + (mL + 11) + 36 * (d - 1) ≤ R.locals; have m2' : mL ≤ 17 := m2; omega, pay_in hts hG2, List.mem_cons_self, hts _ (pz_Gin m9 m10), hts _ (pz_Gin m13 rfl), ⟨m5, m6⟩, hpar, hts _ hlk2⟩, hts _ (pz_Gin m11 rfl)⟩ hP2 rfl hlen hL.1 rfl (lv_room hcat) hd ⟨by omega, by omega⟩)
  | cons q r => exact pz_after X0 hL hV h1 h2 (vx_runSX (hh := q :: r) ⟨hx, hb, hml, hown, hts⟩ hM ⟨⟨rfl, rfl, by show d - 1 + 1 ≤ R.frames; omega, by show 8 + (mL + 11) + 36 * (d - 1) ≤ R.locals; have m2' : mL ≤ 17 := m2; omega, pay_in hts hG2, List.mem_cons_self⟩, hts _ (pz_Gin m9 m10), hts _ (pz_Gin m13 rfl), ⟨m5, m6⟩, hpar, hts _ hlk2, hts _ (pz_Gin m11 rfl)⟩ hP2 rfl hlen hL.1 rfl (lv_room hcat) hd ⟨by omega, by omega⟩)
theorem pz_s_calli (hC : pz_Snd l D kA en a0 (d - 1) C) (hd1 : 1 ≤ d) (X : pz_Cx p l R s m args meth c D kA en a0 mc0 ms0 d own cc nL rt hh ini) : pz_r_calli d en C own cc nL rt hh ini Q (pz_PW p l e R s m args below meth c D kA a0 nL mc0 ms0 Qf) := by
  intro pc ls st h nc ns ix b as rest mc ms y yn bs mL mo np ps hd hm ht hst hlen hr k H locs cells slots la hL hR hV h1 h2
  have X0 := X
  obtain ⟨hx, hb, hml, hown, hts, hS0, hmc, hms, hfr, hlo, hret, hlk, hini, hex, hlT⟩ := X
  have hM := hC _ _ _ _ _ _ _ _ _ _ ht _ _ _ _ _ k
  obtain ⟨m1, m2, m3, m4, m5, m6, m7, m8, m9, m10, m11, m12, m13⟩ := pz_tabL_ok _ (pz_tab_mem ht)
  have hcat := pz_cat8 hr
  obtain ⟨me, hme, hlk2⟩ := pz_mth_spec hm
  rw [ht] at hme
  cases hme
  have hG2 : GoodIn pz_G (pz_word (yn, bs, mL, none, mo, np, 2, [], ps) :: pz_G) := fun w hw => by
    rcases List.mem_cons.mp hw with rfl | hw
    · exact pz_G_good _ (pz_Gin m9 m10)
    · exact pz_G_good _ hw
  have hpar : ∀ sig, parseMethodDescriptor yn.desc = some sig → np = sig.parameters.length := fun sig hs => by
    rw [hs] at m4
    exact (Option.some.inj m4).symm
  subst hst
  have hP2 := pz_pre (as := .ref b :: as) hS0 hR hV
  exact pz_after0 X0 hL hV h1 h2 (va_runI ⟨hx, hb, hml, hown, hts⟩ (pz_met hM (fun E st t hq => by obtain ⟨⟨h9, ⟨h8, -⟩, -⟩, -⟩ := hq; cases h8)) ⟨⟨rfl, rfl, by show d - 1 + 1 ≤ R.frames; omega, by show 8 + (mL + 11) + 36 * (d - 1) ≤ R.locals; have m2' : mL ≤ 17 := m2; omega, pay_in hts hG2, List.mem_cons_self, hts _ (pz_Gin m9 m10), hts _ (pz_Gin m13 rfl), ⟨m5, m6⟩, hpar, hts _ hlk2⟩, m7.mp rfl, hts _ (pz_Gin m11 rfl)⟩ hP2 rfl hlen hL.1 rfl (lv_room hcat) hd ⟨by omega, by omega⟩)
theorem pz_s_calln (hC : pz_Snd l D kA en a0 (d - 1) C) (hd1 : 1 ≤ d) (X : pz_Cx p l R s m args meth c D kA en a0 mc0 ms0 d own cc nL rt hh ini) : pz_r_calln d en C own cc nL rt hh ini Q (pz_PW p l e R s m args below meth c D kA a0 nL mc0 ms0 Qf) := by
  intro pc ls st h nc ns ix b as rest mc ms y yn bs mL mo np ps hd hm ht hst hlen hr k H locs cells slots la hL hR hV h1 h2
  have X0 := X
  obtain ⟨hx, hb, hml, hown, hts, hS0, hmc, hms, hfr, hlo, hret, hlk, hini, hex, hlT⟩ := X
  have hM := hC _ _ _ _ _ _ _ _ _ _ ht _ _ _ _ _ k
  obtain ⟨m1, m2, m3, m4, m5, m6, m7, m8, m9, m10, m11, m12, m13⟩ := pz_tabL_ok _ (pz_tab_mem ht)
  have hcat := pz_cat8 hr
  obtain ⟨ne, hne, n1, n2, n3⟩ := pz_nest_spec hm
  subst n1; subst n2; subst n3
  have hlk2 := hS0.2.1 ne hne _ ht
  have hG2 : GoodIn pz_G (pz_word (yn, bs, mL, none, mo, np, 2, [], ps) :: pz_G) := fun w hw => by
    rcases List.mem_cons.mp hw with rfl | hw
    · exact pz_G_good _ (pz_Gin m9 m10)
    · exact pz_G_good _ hw
  have hpar : ∀ sig, parseMethodDescriptor yn.desc = some sig → np = sig.parameters.length := fun sig hs => by
    rw [hs] at m4
    exact (Option.some.inj m4).symm
  subst hst
  have hP2 := pz_pre (as := .ref b :: as) hS0 hR hV
  exact pz_after0 X0 hL hV h1 h2 (va_runIN (host := "CueStack") ⟨hx, hb, hml, hown, hts⟩ (pz_met hM (fun E st t hq => by obtain ⟨⟨h9, ⟨h8, -⟩, -⟩, -⟩ := hq; cases h8)) ⟨⟨⟨rfl, rfl, by show d - 1 + 1 ≤ R.frames; omega, by show 8 + (mL + 11) + 36 * (d - 1) ≤ R.locals; have m2' : mL ≤ 17 := m2; omega, pay_in hts hG2, List.mem_cons_self⟩, hts _ (pz_Gin m9 m10), hts _ (pz_Gin m13 rfl), ⟨m5, m6⟩, hpar, va_Nw.use rfl hlk2⟩, m7.mp rfl, hts _ (pz_Gin m11 rfl)⟩ hP2 rfl hlen hL.1 rfl (lv_room hcat) hd ⟨by omega, by omega⟩)
theorem pz_s_iret (X : pz_Cx p l R s m args meth c D kA en a0 mc0 ms0 d own cc nL rt hh ini) : pz_r_iret d en C own cc nL rt hh ini Q (pz_PW p l e R s m args below meth c D kA a0 nL mc0 ms0 (vx_MQ below (pz_Qc D kA a0 Q) (pz_XC D kA a0 Q) args s mc0 ms0 (pz_A a0))) := by
  intro pc ls st h nc ns v ty hd hr hn hq H locs cells slots la hL hR hV h1 h2
  obtain ⟨hx, hb, hml, hown, hts, hS0, hmc, hms, hfr, hlo, hret, hlk, hini, hex, hlT⟩ := X
  exact vx_ret (W.widen (k := mc0) (n := ms0) (by omega) (by omega) (W.zret hx hb (hret.trans hr) hn (fun t ht hW => ⟨⟨_, h, rfl, hq, by rw [ht]; exact hR⟩, hV.F ht⟩) (fun q hq => hV.2.2 q hq) hd hlk))
theorem pz_s_vret (X : pz_Cx p l R s m args meth c D kA en a0 mc0 ms0 d own cc nL rt hh ini) : pz_r_vret d en C own cc nL rt hh ini Q (pz_PW p l e R s m args below meth c D kA a0 nL mc0 ms0 (vx_MQ below (pz_Qc D kA a0 Q) (pz_XC D kA a0 Q) args s mc0 ms0 (pz_A a0))) := by
  intro pc ls st h nc ns hd hr hq H locs cells slots la hL hR hV h1 h2
  obtain ⟨hx, hb, hml, hown, hts, hS0, hmc, hms, hfr, hlo, hret, hlk, hini, hex, hlT⟩ := X
  exact vx_ret (W.widen (k := mc0) (n := ms0) (by omega) (by omega) (W.vret hx hb (hret.trans hr) (fun t ht hW => ⟨⟨_, h, rfl, hq, by rw [ht]; exact hR⟩, hV.F ht⟩) (fun q hq => hV.2.2 q hq) hd hlk))
theorem pz_s_aret (X : pz_Cx p l R s m args meth c D kA en a0 mc0 ms0 d own cc nL rt hh ini) : pz_r_aret d en C own cc nL rt hh ini Q (pz_PW p l e R s m args below meth c D kA a0 nL mc0 ms0 (vx_MQ below (pz_Qc D kA a0 Q) (pz_XC D kA a0 Q) args s mc0 ms0 (pz_A a0))) := by
  intro pc ls st h nc ns a ty hd hr hq H locs cells slots la hL hR hV h1 h2
  obtain ⟨hx, hb, hml, hown, hts, hS0, hmc, hms, hfr, hlo, hret, hlk, hini, hex, hlT⟩ := X
  exact vx_ret (W.widen (k := mc0) (n := ms0) (by omega) (by omega) (W.aret hx hb (hret.trans hr) (Or.inr ⟨_, rfl⟩) (Or.inr ⟨_, rfl⟩) (fun t ht hW => ⟨⟨_, h, rfl, hq, by rw [ht]; exact hR⟩, hV.F ht⟩) (fun q hq => hV.2.2 q hq) hd hlk))
theorem pz_s_dret (X : pz_Cx p l R s m args meth c D kA en a0 mc0 ms0 d own cc nL rt hh ini) : pz_r_dret d en C own cc nL rt hh ini Q (pz_PW p l e R s m args below meth c D kA a0 nL mc0 ms0 (vx_MQ below (pz_Qc D kA a0 Q) (pz_XC D kA a0 Q) args s mc0 ms0 (pz_A a0))) := by
  intro pc ls st h nc ns v hd hr hq H locs cells slots la hL hR hV h1 h2
  obtain ⟨hx, hb, hml, hown, hts, hS0, hmc, hms, hfr, hlo, hret, hlk, hini, hex, hlT⟩ := X
  exact vx_ret (W.widen (k := mc0) (n := ms0) (by omega) (by omega) (W.dret hx hb (hret.trans hr) (fun t ht hW => ⟨⟨_, h, rfl, hq, by rw [ht]; exact hR⟩, hV.F ht⟩) (fun q hq => hV.2.2 q hq) hd hlk))
theorem pz_s_thr (X : pz_Cx p l R s m args meth c D kA en a0 mc0 ms0 d own cc nL rt hh ini) : pz_r_thr d en C own cc nL rt hh ini Q (pz_PW p l e R s m args below meth c D kA a0 nL mc0 ms0 (vx_MQ below (pz_Qc D kA a0 Q) (pz_XC D kA a0 Q) args s mc0 ms0 (pz_A a0))) := by
  intro pc ls st h nc ns ik ic is E tx d0 d3 d4 d6 d9 he hs ho hd6 hhh hq H locs cells slots la hL hR hV h1 h2
  obtain ⟨hx, hb, hml, hown, hts, hS0, hmc, hms, hfr, hlo, hret, hlk, hini, hex, hlT⟩ := X
  subst ho
  subst hhh
  replace hex : c.exceptionTable.toList = tableOf [] := by
    rcases hex with ⟨h8, -⟩ | hex
    · exact absurd h8 (by decide)
    · exact hex
  obtain ⟨ex, hm, x1, x2, x3, x4⟩ := pz_exc_spec he
  subst x2; subst x3; subst x4
  obtain ⟨o1, o2, o3, o4, o5⟩ := pz_exc_o ex hm
  obtain ⟨sa, hsa⟩ := hS0.2.2.2.2.2.2.1 _ (pz_str_spec hs)
  obtain ⟨r0, r1, r2, r5⟩ := pz_rx_ok ex.2.2.1
  have hat : ∀ w ∈ pz_at RX6 ex.2.2.2.1 ex.2.2.1 (pz_ix0 ex.2.2.1) (pz_rx ex.2.2.1) pz_NM, w.before args s = true := fun w hw => by
    by_cases g : goodWord w = true
    · exact hts w (pz_exc_g ex hm w (List.mem_filter.mpr ⟨hw, g⟩))
    · have hw2 : w ∈ (pz_atE ex).filter (fun w => !goodWord w) := List.mem_filter.mpr ⟨hw, by simpa using g⟩
      have g2 := pz_exc_c ex hm w hw2
      have g3 := hS0.2.2.1 ex hm w hw2
      cases w <;> first | exact va_Nw.use rfl g3 | (exact absurd g2 (by simp [pz_cdw]))
  refine pz_throwS (own := RX6) (ik := ex.2.1) (ic := ex.2.2.2.1) (cls := ex.2.2.1) (names := pz_NM) (A := pz_A a0) hx hb hlT r0 r1 r2 r5 hown o2 (by decide +kernel) (hts _ (pz_Gc o4)) (hts _ (pz_Gc o5)) hsa hat o3 hS0.2.2.2.2.2.2.2.2.1.1 hS0.2.2.2.2.2.2.2.2.1.2.1 hV (hL.1.trans hml.symm) d0 d3 d4 d6 d9 (by rw [hex]; intro z hz; cases hz) (by show 2 + 3 < R.frames; omega) (by show 0 + (13 * (2 + 1) + 43) ≤ R.locals; omega) (by omega) (by omega) hlk (fun t ht hz hk => ⟨⟨h, hq, pz_Rep_kept hR hk⟩, Nat.le_trans hV.1 hz, fun q hq1 hq2 => (hk q (Nat.lt_of_lt_of_le hq1 hV.1)).trans (hV.2.1 q hq1 hq2)⟩) (fun z hz => hV.2.2 z hz) (by omega) (by omega)
theorem pz_s_thrw (X : pz_Cx p l R s m args meth c D kA en a0 mc0 ms0 d own cc nL rt hh ini) : pz_r_thrw d en C own cc nL rt hh ini Q (pz_PW p l e R s m args below meth c D kA a0 nL mc0 ms0 (vx_MQ below (pz_Qc D kA a0 Q) (pz_XC D kA a0 Q) args s mc0 ms0 (pz_A a0))) := by
  intro pc ls st h nc ns ik ic is E tx d0 d3 d4 d6 d9 he hs ho hd6 hhh hq H locs cells slots la hL hR hV h1 h2
  obtain ⟨hx, hb, hml, hown, hts, hS0, hmc, hms, hfr, hlo, hret, hlk, hini, hex, hlT⟩ := X
  subst ho
  subst hhh
  replace hex : c.exceptionTable.toList = tableOf [] := by
    rcases hex with ⟨h8, -⟩ | hex
    · exact absurd h8 (by decide)
    · exact hex
  obtain ⟨ex, hm, x1, x2, x3, x4⟩ := pz_exc_spec he
  subst x2; subst x3; subst x4
  obtain ⟨o1, o2, o3, o4, o5⟩ := pz_exc_o ex hm
  obtain ⟨sa, hsa⟩ := hS0.2.2.2.2.2.2.1 _ (pz_str_spec hs)
  obtain ⟨r0, r1, r2, r5⟩ := pz_rx_ok ex.2.2.1
  have hat : ∀ w ∈ pz_at RX6 ex.2.2.2.1 ex.2.2.1 (pz_ix0 ex.2.2.1) (pz_rx ex.2.2.1) pz_NM, w.before args s = true := fun w hw => by
    by_cases g : goodWord w = true
    · exact hts w (pz_exc_g ex hm w (List.mem_filter.mpr ⟨hw, g⟩))
    · have hw2 : w ∈ (pz_atE ex).filter (fun w => !goodWord w) := List.mem_filter.mpr ⟨hw, by simpa using g⟩
      have g2 := pz_exc_c ex hm w hw2
      have g3 := hS0.2.2.1 ex hm w hw2
      cases w <;> first | exact va_Nw.use rfl g3 | (exact absurd g2 (by simp [pz_cdw]))
  refine pz_throwSW (own := RX6) (ik := ex.2.1) (ic := ex.2.2.2.1) (cls := ex.2.2.1) (names := pz_NM) (A := pz_A a0) hx hb hlT r0 r1 r2 r5 hown o2 (by decide +kernel) (hts _ (pz_Gc o4)) (hts _ (pz_Gc o5)) hsa hat o3 hS0.2.2.2.2.2.2.2.2.1.1 hS0.2.2.2.2.2.2.2.2.1.2.1 hV (hL.1.trans hml.symm) d0 d3 d4 d6 d9 (by rw [hex]; intro z hz; cases hz) (by show 2 + 3 < R.frames; omega) (by show 0 + (13 * (2 + 1) + 43) ≤ R.locals; omega) (by omega) (by omega) hlk (fun t ht hz hk => ⟨⟨h, hq, pz_Rep_kept hR hk⟩, Nat.le_trans hV.1 hz, fun q hq1 hq2 => (hk q (Nat.lt_of_lt_of_le hq1 hV.1)).trans (hV.2.1 q hq1 hq2)⟩) (fun z hz => hV.2.2 z hz) (by omega) (by omega)
end PZC
end
section
theorem pz_idxW : lw_tbl[1454]? = some (.methodLink RX7 pz_key.2 yJ0_indexOf_0f7a4) ∧ lw_tbl[1455]? = some (.instanceMethod yJ0_indexOf_0f7a4) ∧ lw_tbl[1456]? = some (.selects RJ0 yJ0_indexOf_0f7a4 yJ0_indexOf_0f7a4) ∧ lw_tbl[86]? = some (.initialized RJ0) ∧ lw_tbl[1457]? = some (.code yJ0_indexOf_0f7a4 cJ0_indexOf_0f7a4 2 (some .int)) := by decide +kernel
def pz_IdxM (l : Launch) (D : va_G) (kA : Nat → ClassId) (en : pz_Env) (a0 : Nat) : Prop := ∀ (x : Int32), 0 ≤ x.toInt → x.toInt < 65536 → Met l yJ0_indexOf_0f7a4 (Cond.code yJ0_indexOf_0f7a4 cJ0_indexOf_0f7a4 2 (some .int) :: pz_G) ({ frames := 5, cells := 0, slots := 0, locals := 180 }) (va_Pc [.ref en.2.2.2, .int x] (fun U => pz_S D kA en a0 U U.heap)) (fun _ st o t => o = .returned (some (.int (pz_ix x))) ∧ va_F (fun _ => False) st t) 0 0 (pz_A a0)
section PZM
variable {p : Program} {l : Launch} {e : Env} {R : Room} {s : State} {m : MethodId} {args : Array Value} {below : List Frame} {meth : Method} {c : Code} {D : va_G} {kA : Nat → ClassId} {en : pz_Env} {a0 mc0 ms0 : Nat} {Qf : State → Prop}
variable {d : Nat} {C : pz_C} {own : Nat} {cc : ByteArray} {nL : Nat} {rt : Option FieldType} {hh : List (Nat × Nat × Nat × Nat)} {ini : Bool} {Q : pz_Q}
theorem pz_s_idx (hI : pz_IdxM l D kA en a0) (X : pz_Cx p l R s m args meth c D kA en a0 mc0 ms0 d own cc nL rt hh ini) : pz_r_idx d en C own cc nL rt hh ini Q (pz_PW p l e R s m args below meth c D kA a0 nL mc0 ms0 Qf) := by
  intro pc ls st h nc ns x hd ho hd1 hx0 hr kk H locs cells slots la hL hR hV h1 h2
  obtain ⟨hx, hb, hml, hown, hts, hS0, hmc, hms, hfr, hlo, hret, hlk, hini, hex, hlT⟩ := X
  subst ho
  have hM := hI x hx0.1 hx0.2
  have hcat := pz_cat8 hr
  obtain ⟨i1, i2, i3, i4, i5⟩ := pz_idxW
  have hG2 : GoodIn pz_G (Cond.code yJ0_indexOf_0f7a4 cJ0_indexOf_0f7a4 2 (some .int) :: pz_G) := fun w hw => by
    rcases List.mem_cons.mp hw with rfl | hw
    · exact pz_G_good _ (pz_Gin i5 rfl)
    · exact pz_G_good _ hw
  obtain ⟨adK, adV, hs1, hs2⟩ := hS0.2.2.2.2.2.2.2.2.1.2.2.1
  have hrecv := vk_recv hs1 (i := 0) (by decide) hV
  rw [hs2] at hrecv
  have hbl : FrameBlind (va_Pc [.ref en.2.2.2, .int x] (fun U => pz_S D kA en a0 U U.heap)) := fun a U g mk hq => ⟨hq.1, pz_S_move hq.2 (State.WarmedH.refl U) (fun _ _ _ => rfl) (Nat.le_refl _)⟩
  intro T hT XT
  have hrun := va_runV (e := e) (below := below) (meth := meth) (C := RJ0) (b := en.2.2.2) (As := [.int x]) (rest := st) (g := F0 m pc la (.int x :: .ref en.2.2.2 :: st)) ⟨hx, hb, hml, hown, hts⟩ hM ⟨⟨rfl, rfl, by show 5 + 1 ≤ R.frames; omega, by show 8 + (2 + 11) + 180 ≤ R.locals; omega, pay_in hts hG2, List.mem_cons_self, hts _ (pz_Gin i5 rfl), hts _ (pz_Gin i4 rfl), by decide +kernel, (fun sig hs => by
      have hd2 : (parseMethodDescriptor yJ0_indexOf_0f7a4.desc).map (fun d => d.parameters.length) = some 1 := by decide +kernel
      rw [hs] at hd2
      exact (Option.some.inj hd2).symm), hts _ (pz_Gin i1 rfl)⟩, hts _ (pz_Gin i2 rfl), hts _ (pz_Gin i3 rfl)⟩ ⟨hbl, hrecv, fun U hU hW => ⟨rfl, by show pz_S D kA en a0 U U.heap; rw [hU]; exact pz_S_move hS0 hW hV.2.1 hV.1⟩⟩ rfl rfl hL.1 rfl (lv_room hcat) hd (cells := cells) (slots := slots) (locs := locs) (H := H) (by omega)
  obtain ⟨v, st₀, t, T', L, h0, X', hLl, e1, e2, ⟨hv, hF⟩, stp⟩ := hrun T hT XT
  cases hv
  have hk : ∀ q : Nat, q < H.size → T'.heap[q]? = H[q]? := fun q hq => by
    rw [e1, ← h0]
    exact hF.2 q (by rw [h0]; exact hq) (fun z => z)
  have hz : H.size ≤ T'.heap.size := by
    rw [e1, ← h0]
    exact hF.1
  obtain ⟨t2, a1, b1⟩ := kk T'.heap (locs ++ L) (cells + 0) (slots + 0) la hL (pz_Rep_kept hR hk) ⟨Nat.le_trans hV.1 hz, fun q hq1 hq2 => (hk q (Nat.lt_of_lt_of_le hq1 hV.1)).trans (hV.2.1 q hq1 hq2), fun q hq => (List.mem_append.mp hq).elim (hV.2.2 q) (hLl q)⟩ (by omega) (by omega) T' rfl X'
  exact ⟨t2, stp t2 a1, b1⟩
theorem pz_closed (hC : pz_Snd l D kA en a0 (d - 1) C) (hd1 : 1 ≤ d) (hI : pz_IdxM l D kA en a0) (X : pz_Cx p l R s m args meth c D kA en a0 mc0 ms0 d own cc nL rt hh ini) : pz_Cl d en C own cc nL rt hh ini Q (pz_PW p l e R s m args below meth c D kA a0 nL mc0 ms0 (vx_MQ below (pz_Qc D kA a0 Q) (pz_XC D kA a0 Q) args s mc0 ms0 (pz_A a0))) :=
  ⟨pz_s_iconst X, pz_s_bipush X, pz_s_sipush X, pz_s_lconst X, pz_s_ldc X, pz_s_ldcw X, pz_s_ldc2 X, pz_s_ldcs X, pz_s_iload_n X, pz_s_iload X, pz_s_istore_n X, pz_s_istore X, pz_s_aload_n X, pz_s_aload X, pz_s_astore_n X, pz_s_astore X, pz_s_dload X, pz_s_dstore X, pz_s_iinc X, pz_s_iadd X, pz_s_isub X, pz_s_imul X, pz_s_iand X, pz_s_ior X, pz_s_ishl X, pz_s_iushr X, pz_s_idiv X, pz_s_irem X, pz_s_ineg X, pz_s_i2l X, pz_s_i2c X, pz_s_i2d X, pz_s_ddiv X, pz_s_dcmp X, pz_s_lcmp X, pz_s_dup X, pz_s_dup2 X, pz_s_pop X, pz_s_if_eq X, pz_s_if_ne X, pz_s_if_lt X, pz_s_if_ge X, pz_s_if_gt X, pz_s_if_le X, pz_s_icmp_eq X, pz_s_icmp_ne X, pz_s_icmp_lt X, pz_s_icmp_ge X, pz_s_icmp_gt X, pz_s_icmp_le X, pz_s_goto X, pz_s_tsin X, pz_s_tsout X, pz_s_lsw X, pz_s_getf X, pz_s_putf X, pz_s_new X, pz_s_newai X, pz_s_newac X, pz_s_newal X, pz_s_newaq X, pz_s_iald X, pz_s_cald X, pz_s_lald X, pz_s_aald X, pz_s_iast X, pz_s_cast X, pz_s_last X, pz_s_aast X, pz_s_slen X, pz_s_sld X, pz_s_copy X, pz_s_max X, pz_s_min X, pz_s_obj X, pz_s_idx hI X, pz_s_callv hC hd1 X, pz_s_calls hC hd1 X, pz_s_calli hC hd1 X, pz_s_calln hC hd1 X, pz_s_iret X, pz_s_vret X, pz_s_aret X, pz_s_dret X, pz_s_thr X, pz_s_thrw X, pz_s_forget X⟩
theorem pz_closedL (hC : pz_Snd l D kA en a0 (d - 1) C) (hd1 : 1 ≤ d) (hI : pz_IdxM l D kA en a0) (X : pz_Cx p l R s m args meth c D kA en a0 mc0 ms0 d own cc nL rt hh ini) (h_iret : pz_r_iret d en C own cc nL rt hh ini Q (pz_PW p l e R s m args below meth c D kA a0 nL mc0 ms0 Qf)) (h_vret : pz_r_vret d en C own cc nL rt hh ini Q (pz_PW p l e R s m args below meth c D kA a0 nL mc0 ms0 Qf)) (h_aret : pz_r_aret d en C own cc nL rt hh ini Q (pz_PW p l e R s m args below meth c D kA a0 nL mc0 ms0 Qf)) (h_dret : pz_r_dret d en C own cc nL rt hh ini Q (pz_PW p l e R s m args below meth c D kA a0 nL mc0 ms0 Qf)) (h_thr : pz_r_thr d en C own cc nL rt hh ini Q (pz_PW p l e R s m args below meth c D kA a0 nL mc0 ms0 Qf)) (h_thrw : pz_r_thrw d en C own cc nL rt hh ini Q (pz_PW p l e R s m args below meth c D kA a0 nL mc0 ms0 Qf)) : pz_Cl d en C own cc nL rt hh ini Q (pz_PW p l e R s m args below meth c D kA a0 nL mc0 ms0 Qf) :=
  ⟨pz_s_iconst X, pz_s_bipush X, pz_s_sipush X, pz_s_lconst X, pz_s_ldc X, pz_s_ldcw X, pz_s_ldc2 X, pz_s_ldcs X, pz_s_iload_n X, pz_s_iload X, pz_s_istore_n X, pz_s_istore X, pz_s_aload_n X, pz_s_aload X, pz_s_astore_n X, pz_s_astore X, pz_s_dload X, pz_s_dstore X, pz_s_iinc X, pz_s_iadd X, pz_s_isub X, pz_s_imul X, pz_s_iand X, pz_s_ior X, pz_s_ishl X, pz_s_iushr X, pz_s_idiv X, pz_s_irem X, pz_s_ineg X, pz_s_i2l X, pz_s_i2c X, pz_s_i2d X, pz_s_ddiv X, pz_s_dcmp X, pz_s_lcmp X, pz_s_dup X, pz_s_dup2 X, pz_s_pop X, pz_s_if_eq X, pz_s_if_ne X, pz_s_if_lt X, pz_s_if_ge X, pz_s_if_gt X, pz_s_if_le X, pz_s_icmp_eq X, pz_s_icmp_ne X, pz_s_icmp_lt X, pz_s_icmp_ge X, pz_s_icmp_gt X, pz_s_icmp_le X, pz_s_goto X, pz_s_tsin X, pz_s_tsout X, pz_s_lsw X, pz_s_getf X, pz_s_putf X, pz_s_new X, pz_s_newai X, pz_s_newac X, pz_s_newal X, pz_s_newaq X, pz_s_iald X, pz_s_cald X, pz_s_lald X, pz_s_aald X, pz_s_iast X, pz_s_cast X, pz_s_last X, pz_s_aast X, pz_s_slen X, pz_s_sld X, pz_s_copy X, pz_s_max X, pz_s_min X, pz_s_obj X, pz_s_idx hI X, pz_s_callv hC hd1 X, pz_s_calls hC hd1 X, pz_s_calli hC hd1 X, pz_s_calln hC hd1 X, h_iret, h_vret, h_aret, h_dret, h_thr, h_thrw, pz_s_forget X⟩
end PZM
theorem pz_sl_len : ∀ (as : List Value), as.all (fun v => v.category == 1) = true → (lg_sl as).length = as.length
  | [], _ => rfl
  | v :: r, h => by
    simp only [List.all_cons, Bool.and_eq_true, beq_iff_eq] at h
    have ih := pz_sl_len r h.2
    unfold lg_sl at ih ⊢
    rw [List.flatMap_cons, List.length_append, ih, h.1]
    simp
    omega
theorem pz_args_mem : ∀ (as : List Value) (k j : Nat) (v : Value), as.all (fun v => v.category == 1) = true → as[j]? = some v → (k + j, v) ∈ lv_args k as
  | [], _, _, _, _, h => by cases h
  | u :: r, k, j, v, hc, h => by
    simp only [List.all_cons, Bool.and_eq_true, beq_iff_eq] at hc
    unfold lv_args
    cases j with
    | zero =>
      cases h
      exact List.mem_cons_self
    | succ j =>
      have h2 := pz_args_mem r (k + 1) j v hc.2 h
      rw [if_neg (by rw [hc.1]; decide)]
      rw [show k + (j + 1) = k + 1 + j by omega]
      exact List.mem_cons_of_mem _ h2
theorem pz_Lr_entry {as : List Value} {nL : Nat} (hc : as.all (fun v => v.category == 1) = true) (hn : as.length ≤ nL) : pz_Lr nL (pz_entry as nL) ((lg_sl as ++ List.replicate (nL - (lg_sl as).length) Slot.unset).toArray) := by
  have h := lv_entry as (n := nL) (by rw [pz_sl_len as hc]; exact hn)
  refine ⟨h.1, h.2.1, fun i v hi => ?_⟩
  have h2 : as[i]? = some v := by
    unfold pz_entry at hi
    by_cases hl : i < (as.map some).length
    · rw [List.getElem?_append_left hl, List.getElem?_map] at hi
      cases h3 : as[i]? with
      | none => rw [h3] at hi; cases hi
      | some u => rw [h3] at hi; cases hi; rfl
    · rw [List.getElem?_append_right (by omega), List.getElem?_replicate] at hi
      split at hi
      · cases hi
      · cases hi
  have h3 := pz_args_mem as 0 i v hc h2
  rw [Nat.zero_add] at h3
  exact h.2.2 _ h3
theorem pz_sound (l : Launch) (hlT : l.stackTraces = false) (D : va_G) (kA : Nat → ClassId) (en : pz_Env) (a0 : Nat) (hI : pz_IdxM l D kA en a0) : ∀ d : Nat, pz_Snd l D kA en a0 d (pz_Cd en d) := by
  intro d
  induction d with
  | zero =>
    intro y yn bs mL mr mo np kd mh ps ht as h mc ms Q hC
    exact hC.elim
  | succ d ih =>
    intro y yn bs mL mr mo np kd mh ps ht as h mc ms Q hCd
    unfold pz_Cd at hCd
    rw [ht] at hCd
    obtain ⟨hcat, hlen, hwp⟩ := hCd
    obtain ⟨m1, m2, m3, m4, m5, m6, m7, m8, m9, m10, m11, m12, m13⟩ := pz_tabL_ok _ (pz_tab_mem ht)
    have body : ∀ p e s m args below meth c s₁, BodyLoose p l yn (headSpec (pz_word (yn, bs, mL, mr, mo, np, kd, mh, ps) :: pz_G) ({ frames := d + 1, cells := mc, slots := ms, locals := 36 * (d + 1) })) bs mL mr e s m args below meth c s₁ → c.maxLocals = mL → c.exceptionTable.toList = tableOf mh → va_Pc as (pz_B D kA en a0 h) args s → W p l e ({ frames := d + 1, cells := mc, slots := ms, locals := 36 * (d + 1) }) s m args below meth c s.heap [] 0 0 (vx_MQ below (pz_Qc D kA a0 Q) (pz_XC D kA a0 Q) args s mc ms (pz_A a0)) (entryFrame m args mL) := by
      intro p e s m args below meth c s₁ B hml hex hv
      obtain ⟨rfl, hS, hR⟩ := hv
      have hts : ∀ w ∈ pz_G, w.before as.toArray s = true := fun w hw => atoms_spec (ws := pz_word (yn, bs, mL, mr, mo, np, kd, mh, ps) :: pz_G) B.pre w (List.mem_cons_of_mem _ hw)
      have m3' : yn.cls = pz_R mo := m3
      have hown : s.vm.findClass (pz_R mo) = some m.cls := by rw [← m3']; exact findClass_of_methodNamed B.named
      rw [lg_entry_eq]
      exact hwp _ (pz_closed (l := l) (e := e) (below := below) (R := { frames := d + 1, cells := mc, slots := ms, locals := 36 * (d + 1) }) (mc0 := mc) (ms0 := ms) (args := as.toArray) ih (by omega) hI ⟨B.exec, B.bytes, hml, hown, hts, hS, Nat.le_refl _, Nat.le_refl _, Nat.le_refl _, Nat.le_refl _, B.returns, B.notSynchronized, (fun hk => (name_of_methodNamed B.named B.method).1.trans (m7.mp (by simpa using hk))), Or.inr hex, hlT⟩) s.heap [] 0 0 _ (pz_Lr_entry hcat hlen) hR va_S.rf (by omega) (by omega)
    cases mh with
    | nil => exact vx_ofW m1 rfl (fun p e s m args below meth c s₁ B hml hno hv => body p e s m args below meth c s₁ B hml (by
        cases h9 : c.exceptionTable.toList with
        | nil => rfl
        | cons q r => exact (hno q (by rw [h9]; exact List.mem_cons_self)).elim) hv)
    | cons q r => exact vx_ofWH (hh := q :: r) m1 rfl (fun p e s m args below meth c s₁ B hml hv => body p e s m args below meth c s₁ B hml (vx_table (x := yn) B (atoms_spec (ws := pz_word (yn, bs, mL, mr, mo, np, kd, q :: r, ps) :: pz_G) B.pre _ List.mem_cons_self)) hv)
/-- a method's walk, at a level -/
theorem pz_in {en : pz_Env} {n y : Nat} {yn : MethodName} {bs : ByteArray} {mL : Nat} {mr : Option FieldType} {mo np kd : Nat} {mh : List (Nat × Nat × Nat × Nat)} {ps : List Nat} {as : List Value} {h : pz_H} {mc ms : Nat} {Q : pz_Q} (ht : pz_tab y = some (yn, bs, mL, mr, mo, np, kd, mh, ps)) (hw : pz_WP n en (pz_Cd en (n - 1)) mo bs mL mr mh (kd == 2) Q 0 (pz_entry as mL) [] h mc ms) (hc : as.all (fun v => v.category == 1) = true := by rfl) (hl : as.length ≤ mL := by first | exact Nat.le_of_ble_eq_true rfl | decide) (hn : 1 ≤ n := by decide) : pz_Cd en n y as h mc ms Q := by
  cases n with
  | zero => exact absurd hn (by decide)
  | succ n =>
    unfold pz_Cd
    rw [ht]
    exact ⟨hc, hl, hw⟩
end
section
/-! whole numbers in the pure machine: a value is zI of an Int; heaps as overlays -/
abbrev zR (z : Int) : Prop := -2147483648 ≤ z ∧ z < 2147483648
def zI (z : Int) : Int32 := Int32.ofInt z
theorem zI_toInt {z : Int} (h : zR z) : (zI z).toInt = z := by
  unfold zI
  rw [Int32.toInt_ofInt]
  have hs : ((Int32.size : Nat) : Int) = 4294967296 := rfl
  exact Int.bmod_eq_of_le (by omega) (by omega)
theorem zI_of (x : Int32) : zI x.toInt = x := Int32.ofInt_toInt x
theorem zI_range (x : Int32) : zR x.toInt := ⟨Int32.le_toInt x, Int32.toInt_lt x⟩
theorem zI_add (a b : Int) : zI a + zI b = zI (a + b) := (Int32.ofInt_add a b).symm
theorem zI_sub (a b : Int) : zI a - zI b = zI (a - b) := (Int32.ofInt_sub a b).symm
theorem zI_mul (a b : Int) : zI a * zI b = zI (a * b) := (Int32.ofInt_mul a b).symm
theorem zI_neg (a : Int) : -zI a = zI (-a) := (Int32.ofInt_neg a).symm
theorem zI_inj {a b : Int} (ha : zR a) (hb : zR b) : zI a = zI b ↔ a = b := by
  constructor
  · intro h
    have h2 := congrArg Int32.toInt h
    rwa [zI_toInt ha, zI_toInt hb] at h2
  · intro h; rw [h]
theorem zI_lt {a b : Int} (ha : zR a) (hb : zR b) : zI a < zI b ↔ a < b := by
  rw [Int32.lt_iff_toInt_lt, zI_toInt ha, zI_toInt hb]
theorem zI_le {a b : Int} (ha : zR a) (hb : zR b) : zI a ≤ zI b ↔ a ≤ b := by
  rw [Int32.le_iff_toInt_le, zI_toInt ha, zI_toInt hb]
theorem zI_0 : zI 0 = 0 := rfl
abbrev zf (f : Int → Int) : Nat → Int32 := fun i => zI (f (i : Int))
def zu (f : Int → Int) (k v : Int) : Int → Int := fun j => if j = k then v else f j
theorem zu_at (f : Int → Int) (k v : Int) : zu f k v k = v := if_pos rfl
theorem zu_ne (f : Int → Int) {k v j : Int} (h : j ≠ k) : zu f k v j = f j := if_neg h
theorem zf_up (f : Int → Int) {i v : Int} (h : 0 ≤ i) : va_up (zf f) i.toNat (zI v) = zf (zu f i v) := by
  funext j
  unfold va_up zf zu
  by_cases e : j = i.toNat
  · rw [if_pos e, if_pos (by omega)]
  · rw [if_neg e, if_neg (by omega)]
def zcpy (f g : Int → Int) (sp dp n : Int) : Int → Int := fun k => if dp ≤ k ∧ k < dp + n then f (sp + (k - dp)) else g k
theorem zf_cpy (f g : Int → Int) {sp dp n : Nat} : va_cpy (zf f) (zf g) sp dp n = zf (zcpy f g sp dp n) := by
  funext j
  unfold va_cpy zf zcpy
  by_cases e : dp ≤ j ∧ j < dp + n
  · rw [if_pos e, if_pos (by omega)]
    congr 2
    omega
  · rw [if_neg e, if_neg (by omega)]
/-- what a call comes to: one outcome -/
def pz_ret (v : Option Value) (h : pz_H) : pz_Q := fun o h2 => o = .inl v ∧ h2 = h
def pz_thr (E : String) (h : pz_H) : pz_Q := fun o h2 => o = .inr E ∧ h2 = h
theorem zret {z w : Int} {h h2 : pz_H} (e : z = w) (eh : h = h2 := by rfl) : pz_ret (some (.int (zI w))) h2 (.inl (some (.int (zI z)))) h := ⟨by rw [e], eh⟩
theorem zretv {h h2 : pz_H} (eh : h = h2 := by rfl) : pz_ret none h2 (.inl none) h := ⟨rfl, eh⟩
def bI (p : Prop) [Decidable p] : Int := if p then 1 else 0
/-- overlays -/
def ov (h0 : pz_H) (n : Nat) (a : Nat → Nat) (cl : Nat → pz_E) : pz_H := fun q => match (List.range n).find? (fun i => a i == q) with
  | some i => some (cl i)
  | none => h0 q
def oj (n : Nat) (a : Nat → Nat) : Prop := ∀ i j, i < n → j < n → a i = a j → i = j
theorem ov_at {h0 : pz_H} {n : Nat} {a : Nat → Nat} {cl : Nat → pz_E} (hj : oj n a) {i : Nat} (hi : i < n) : ov h0 n a cl (a i) = some (cl i) := by
  unfold ov
  cases h : (List.range n).find? (fun k => a k == a i) with
  | none =>
    have := List.find?_eq_none.mp h i (List.mem_range.mpr hi)
    simp at this
  | some k =>
    have h1 := List.mem_range.mp (List.mem_of_find?_eq_some h)
    have h2 := List.find?_some h
    simp only [beq_iff_eq] at h2
    rw [hj k i h1 hi h2]
theorem ov_ne {h0 : pz_H} {n : Nat} {a : Nat → Nat} {cl : Nat → pz_E} {q : Nat} (h : ∀ i, i < n → a i ≠ q) : ov h0 n a cl q = h0 q := by
  unfold ov
  cases hf : (List.range n).find? (fun k => a k == q) with
  | none => rfl
  | some k =>
    have h1 := List.mem_range.mp (List.mem_of_find?_eq_some hf)
    have h2 := List.find?_some hf
    simp only [beq_iff_eq] at h2
    exact absurd h2 (h k h1)
theorem ov_ext {h0 : pz_H} {n : Nat} {a : Nat → Nat} {h : pz_H} {cl : Nat → pz_E} (hj : oj n a) (h1 : ∀ i, i < n → h (a i) = some (cl i)) (h2 : ∀ q, (∀ i, i < n → a i ≠ q) → h q = h0 q) : h = ov h0 n a cl := by
  funext q
  by_cases hq : ∃ i, i < n ∧ a i = q
  · obtain ⟨i, hi, rfl⟩ := hq
    rw [h1 i hi, ov_at hj hi]
  · have hq2 : ∀ i, i < n → a i ≠ q := fun i hi e => hq ⟨i, hi, e⟩
    rw [h2 q hq2, ov_ne hq2]
theorem ov_up {h0 : pz_H} {n : Nat} {a : Nat → Nat} {cl : Nat → pz_E} (hj : oj n a) {i : Nat} (hi : i < n) (e : pz_E) : va_up (ov h0 n a cl) (a i) (some e) = ov h0 n a (va_up cl i e) := by
  apply ov_ext hj
  · intro k hk
    unfold va_up
    by_cases h : k = i
    · subst h
      rw [if_pos rfl, if_pos rfl]
    · rw [if_neg (fun z => h (hj k i hk hi z)), if_neg h, ov_at hj hk]
  · intro q hq
    unfold va_up
    rw [if_neg (fun z => hq i hi z.symm), ov_ne hq]
theorem ov_congr {h0 : pz_H} {n : Nat} {a : Nat → Nat} {cl cl2 : Nat → pz_E} (h : ∀ i, i < n → cl i = cl2 i) : ov h0 n a cl = ov h0 n a cl2 := by
  funext q
  unfold ov
  cases hf : (List.range n).find? (fun k => a k == q) with
  | none => rfl
  | some k =>
    show some (cl k) = some (cl2 k)
    rw [h k (List.mem_range.mp (List.mem_of_find?_eq_some hf))]
/-- counting loops -/
theorem zup {P : Int → Prop} {lo hi : Int} (h : lo ≤ hi) (he : P hi) (hs : ∀ k, lo ≤ k → k < hi → P (k + 1) → P k) : P lo := by
  have key : ∀ (n : Nat) (k : Int), lo ≤ k → k + (n : Int) = hi → P k := by
    intro n
    induction n with
    | zero => intro k _ e; rw [show k = hi by omega]; exact he
    | succ n ih => intro k h1 e; exact hs k h1 (by omega) (ih (k + 1) (by omega) (by omega))
  exact key (hi - lo).toNat lo (Int.le_refl _) (by omega)
theorem zdown {P : Int → Prop} {lo hi : Int} (h : lo ≤ hi) (he : P lo) (hs : ∀ k, lo < k → k ≤ hi → P (k - 1) → P k) : P hi := by
  have key : ∀ (n : Nat) (k : Int), k ≤ hi → lo + (n : Int) = k → P k := by
    intro n
    induction n with
    | zero => intro k _ e; rw [show k = lo by omega]; exact he
    | succ n ih => intro k h1 e; exact hs k (by omega) h1 (ih (k - 1) (by omega) (by omega))
  exact key (hi - lo).toNat hi (Int.le_refl _) (by omega)
section zrows
variable {d : Nat} {en : pz_Env} {C : pz_C} {own : Nat} {cc : ByteArray} {nL : Nat} {rt : Option FieldType} {hh : List (Nat × Nat × Nat × Nat)} {ini : Bool} {Q : pz_Q}
variable {pc : Nat} {ls : List (Option Value)} {st : List Value} {h : pz_H} {nc ns : Nat}
theorem zr_iconst {n : Int} (hd : decode cc pc = .ok (.iconst n, 1)) (k : pz_WP d en C own cc nL rt hh ini Q (pc + 1) ls (.int (zI n) :: st) h nc ns) : pz_WP d en C own cc nL rt hh ini Q pc ls st h nc ns := pr_iconst hd rfl k
theorem zr_bipush {n : Int} (hd : decode cc pc = .ok (.bipush n, 2)) (hv : (Int8.ofInt n).toInt32 = zI n) (k : pz_WP d en C own cc nL rt hh ini Q (pc + 2) ls (.int (zI n) :: st) h nc ns) : pz_WP d en C own cc nL rt hh ini Q pc ls st h nc ns := pr_bipush hd hv k
theorem zr_sipush {n : Int} (hd : decode cc pc = .ok (.sipush n, 3)) (hv : (Int16.ofInt n).toInt32 = zI n) (k : pz_WP d en C own cc nL rt hh ini Q (pc + 3) ls (.int (zI n) :: st) h nc ns) : pz_WP d en C own cc nL rt hh ini Q pc ls st h nc ns := pr_sipush hd hv k
theorem zr_ldc {i : Nat} {v : Int32} (n : Int) (hd : decode cc pc = .ok (.ldc i, 2)) (hc : pz_cst own i = some v) (hv : v = zI n) (k : pz_WP d en C own cc nL rt hh ini Q (pc + 2) ls (.int (zI n) :: st) h nc ns) : pz_WP d en C own cc nL rt hh ini Q pc ls st h nc ns := pr_ldc hd hc (by rw [hv]; exact k)
theorem zr_iadd {x y : Int} (hd : decode cc pc = .ok (.iadd, 1)) (k : pz_WP d en C own cc nL rt hh ini Q (pc + 1) ls (.int (zI (x + y)) :: st) h nc ns) : pz_WP d en C own cc nL rt hh ini Q pc ls (.int (zI y) :: .int (zI x) :: st) h nc ns := pr_iadd hd (by rw [zI_add]; exact k)
theorem zr_isub {x y : Int} (hd : decode cc pc = .ok (.isub, 1)) (k : pz_WP d en C own cc nL rt hh ini Q (pc + 1) ls (.int (zI (x - y)) :: st) h nc ns) : pz_WP d en C own cc nL rt hh ini Q pc ls (.int (zI y) :: .int (zI x) :: st) h nc ns := pr_isub hd (by rw [zI_sub]; exact k)
theorem zr_imul {x y : Int} (hd : decode cc pc = .ok (.imul, 1)) (k : pz_WP d en C own cc nL rt hh ini Q (pc + 1) ls (.int (zI (x * y)) :: st) h nc ns) : pz_WP d en C own cc nL rt hh ini Q pc ls (.int (zI y) :: .int (zI x) :: st) h nc ns := pr_imul hd (by rw [zI_mul]; exact k)
theorem zr_ineg {x : Int} (hd : decode cc pc = .ok (.ineg, 1)) (k : pz_WP d en C own cc nL rt hh ini Q (pc + 1) ls (.int (zI (-x)) :: st) h nc ns) : pz_WP d en C own cc nL rt hh ini Q pc ls (.int (zI x) :: st) h nc ns := pr_ineg hd (by rw [zI_neg]; exact k)
theorem zr_iinc {i : Nat} {n x : Int} (hd : decode cc pc = .ok (.iinc i n, 3)) (hl : ls[i]? = some (some (.int (zI x)))) (hn : i < nL) (ho : pz_ok ls i = true) (k : pz_WP d en C own cc nL rt hh ini Q (pc + 3) (ls.set i (some (.int (zI (x + n))))) st h nc ns) : pz_WP d en C own cc nL rt hh ini Q pc ls st h nc ns := pr_iinc hd hl hn ho (zI_add x n) k
theorem zr_if_eq {x off : Int} {tgt : Nat} (hd : decode cc pc = .ok (.ifCond .eq off, 3)) (ht : (pc : Int) + off = (tgt : Int)) (hx : zR x) (kt : x = 0 → pz_WP d en C own cc nL rt hh ini Q tgt ls st h nc ns) (kf : ¬ x = 0 → pz_WP d en C own cc nL rt hh ini Q (pc + 3) ls st h nc ns) : pz_WP d en C own cc nL rt hh ini Q pc ls (.int (zI x) :: st) h nc ns := pr_if_eq hd ht (fun z => kt ((zI_inj hx (⟨by decide, by decide⟩ : zR 0)).mp z)) (fun z => kf (fun w => z ((zI_inj hx (⟨by decide, by decide⟩ : zR 0)).mpr w)))
theorem zr_if_ne {x off : Int} {tgt : Nat} (hd : decode cc pc = .ok (.ifCond .ne off, 3)) (ht : (pc : Int) + off = (tgt : Int)) (hx : zR x) (kt : ¬ x = 0 → pz_WP d en C own cc nL rt hh ini Q tgt ls st h nc ns) (kf : x = 0 → pz_WP d en C own cc nL rt hh ini Q (pc + 3) ls st h nc ns) : pz_WP d en C own cc nL rt hh ini Q pc ls (.int (zI x) :: st) h nc ns := pr_if_ne hd ht (fun z => kt (fun w => z ((zI_inj hx (⟨by decide, by decide⟩ : zR 0)).mpr w))) (fun z => kf ((zI_inj hx (⟨by decide, by decide⟩ : zR 0)).mp z))
theorem zr_if_lt {x off : Int} {tgt : Nat} (hd : decode cc pc = .ok (.ifCond .lt off, 3)) (ht : (pc : Int) + off = (tgt : Int)) (hx : zR x) (kt : x < 0 → pz_WP d en C own cc nL rt hh ini Q tgt ls st h nc ns) (kf : ¬ x < 0 → pz_WP d en C own cc nL rt hh ini Q (pc + 3) ls st h nc ns) : pz_WP d en C own cc nL rt hh ini Q pc ls (.int (zI x) :: st) h nc ns := pr_if_lt hd ht (fun z => kt ((zI_lt hx (⟨by decide, by decide⟩ : zR 0)).mp z)) (fun z => kf (fun w => z ((zI_lt hx (⟨by decide, by decide⟩ : zR 0)).mpr w)))
theorem zr_if_ge {x off : Int} {tgt : Nat} (hd : decode cc pc = .ok (.ifCond .ge off, 3)) (ht : (pc : Int) + off = (tgt : Int)) (hx : zR x) (kt : 0 ≤ x → pz_WP d en C own cc nL rt hh ini Q tgt ls st h nc ns) (kf : ¬ 0 ≤ x → pz_WP d en C own cc nL rt hh ini Q (pc + 3) ls st h nc ns) : pz_WP d en C own cc nL rt hh ini Q pc ls (.int (zI x) :: st) h nc ns := pr_if_ge hd ht (fun z => kt ((zI_le (⟨by decide, by decide⟩ : zR 0) hx).mp z)) (fun z => kf (fun w => z ((zI_le (⟨by decide, by decide⟩ : zR 0) hx).mpr w)))
theorem zr_if_gt {x off : Int} {tgt : Nat} (hd : decode cc pc = .ok (.ifCond .gt off, 3)) (ht : (pc : Int) + off = (tgt : Int)) (hx : zR x) (kt : 0 < x → pz_WP d en C own cc nL rt hh ini Q tgt ls st h nc ns) (kf : ¬ 0 < x → pz_WP d en C own cc nL rt hh ini Q (pc + 3) ls st h nc ns) : pz_WP d en C own cc nL rt hh ini Q pc ls (.int (zI x) :: st) h nc ns := pr_if_gt hd ht (fun z => kt ((zI_lt (⟨by decide, by decide⟩ : zR 0) hx).mp z)) (fun z => kf (fun w => z ((zI_lt (⟨by decide, by decide⟩ : zR 0) hx).mpr w)))
theorem zr_if_le {x off : Int} {tgt : Nat} (hd : decode cc pc = .ok (.ifCond .le off, 3)) (ht : (pc : Int) + off = (tgt : Int)) (hx : zR x) (kt : x ≤ 0 → pz_WP d en C own cc nL rt hh ini Q tgt ls st h nc ns) (kf : ¬ x ≤ 0 → pz_WP d en C own cc nL rt hh ini Q (pc + 3) ls st h nc ns) : pz_WP d en C own cc nL rt hh ini Q pc ls (.int (zI x) :: st) h nc ns := pr_if_le hd ht (fun z => kt ((zI_le hx (⟨by decide, by decide⟩ : zR 0)).mp z)) (fun z => kf (fun w => z ((zI_le hx (⟨by decide, by decide⟩ : zR 0)).mpr w)))
theorem zr_icmp_eq {x y off : Int} {tgt : Nat} (hd : decode cc pc = .ok (.if_icmp .eq off, 3)) (ht : (pc : Int) + off = (tgt : Int)) (hx : zR x) (hy : zR y) (kt : x = y → pz_WP d en C own cc nL rt hh ini Q tgt ls st h nc ns) (kf : ¬ x = y → pz_WP d en C own cc nL rt hh ini Q (pc + 3) ls st h nc ns) : pz_WP d en C own cc nL rt hh ini Q pc ls (.int (zI y) :: .int (zI x) :: st) h nc ns := pr_icmp_eq hd ht (fun z => kt ((zI_inj hx hy).mp z)) (fun z => kf (fun w => z ((zI_inj hx hy).mpr w)))
theorem zr_icmp_ne {x y off : Int} {tgt : Nat} (hd : decode cc pc = .ok (.if_icmp .ne off, 3)) (ht : (pc : Int) + off = (tgt : Int)) (hx : zR x) (hy : zR y) (kt : ¬ x = y → pz_WP d en C own cc nL rt hh ini Q tgt ls st h nc ns) (kf : x = y → pz_WP d en C own cc nL rt hh ini Q (pc + 3) ls st h nc ns) : pz_WP d en C own cc nL rt hh ini Q pc ls (.int (zI y) :: .int (zI x) :: st) h nc ns := pr_icmp_ne hd ht (fun z => kt (fun w => z ((zI_inj hx hy).mpr w))) (fun z => kf ((zI_inj hx hy).mp z))
theorem zr_icmp_lt {x y off : Int} {tgt : Nat} (hd : decode cc pc = .ok (.if_icmp .lt off, 3)) (ht : (pc : Int) + off = (tgt : Int)) (hx : zR x) (hy : zR y) (kt : x < y → pz_WP d en C own cc nL rt hh ini Q tgt ls st h nc ns) (kf : ¬ x < y → pz_WP d en C own cc nL rt hh ini Q (pc + 3) ls st h nc ns) : pz_WP d en C own cc nL rt hh ini Q pc ls (.int (zI y) :: .int (zI x) :: st) h nc ns := pr_icmp_lt hd ht (fun z => kt ((zI_lt hx hy).mp z)) (fun z => kf (fun w => z ((zI_lt hx hy).mpr w)))
theorem zr_icmp_ge {x y off : Int} {tgt : Nat} (hd : decode cc pc = .ok (.if_icmp .ge off, 3)) (ht : (pc : Int) + off = (tgt : Int)) (hx : zR x) (hy : zR y) (kt : y ≤ x → pz_WP d en C own cc nL rt hh ini Q tgt ls st h nc ns) (kf : ¬ y ≤ x → pz_WP d en C own cc nL rt hh ini Q (pc + 3) ls st h nc ns) : pz_WP d en C own cc nL rt hh ini Q pc ls (.int (zI y) :: .int (zI x) :: st) h nc ns := pr_icmp_ge hd ht (fun z => kt ((zI_le hy hx).mp z)) (fun z => kf (fun w => z ((zI_le hy hx).mpr w)))
theorem zr_icmp_gt {x y off : Int} {tgt : Nat} (hd : decode cc pc = .ok (.if_icmp .gt off, 3)) (ht : (pc : Int) + off = (tgt : Int)) (hx : zR x) (hy : zR y) (kt : y < x → pz_WP d en C own cc nL rt hh ini Q tgt ls st h nc ns) (kf : ¬ y < x → pz_WP d en C own cc nL rt hh ini Q (pc + 3) ls st h nc ns) : pz_WP d en C own cc nL rt hh ini Q pc ls (.int (zI y) :: .int (zI x) :: st) h nc ns := pr_icmp_gt hd ht (fun z => kt ((zI_lt hy hx).mp z)) (fun z => kf (fun w => z ((zI_lt hy hx).mpr w)))
theorem zr_icmp_le {x y off : Int} {tgt : Nat} (hd : decode cc pc = .ok (.if_icmp .le off, 3)) (ht : (pc : Int) + off = (tgt : Int)) (hx : zR x) (hy : zR y) (kt : x ≤ y → pz_WP d en C own cc nL rt hh ini Q tgt ls st h nc ns) (kf : ¬ x ≤ y → pz_WP d en C own cc nL rt hh ini Q (pc + 3) ls st h nc ns) : pz_WP d en C own cc nL rt hh ini Q pc ls (.int (zI y) :: .int (zI x) :: st) h nc ns := pr_icmp_le hd ht (fun z => kt ((zI_le hx hy).mp z)) (fun z => kf (fun w => z ((zI_le hx hy).mpr w)))
theorem zk {i : Int} {n : Nat} (h : 0 ≤ i ∧ i < (n : Int)) (hn : n ≤ 1000000) : (zI i).toInt = (i.toNat : Int) ∧ i.toNat < n := by
  refine ⟨?_, by omega⟩
  rw [zI_toInt ⟨by omega, by omega⟩]
  omega
theorem zf_at {f : Int → Int} {i : Int} (h : 0 ≤ i) : zf f i.toNat = zI (f i) := by
  show zI (f (i.toNat : Int)) = zI (f i)
  rw [show (i.toNat : Int) = i by omega]
theorem zr_iald {a : Nat} {i : Int} {n : Nat} {f : Int → Int} (hd : decode cc pc = .ok (.iaload, 1)) (ha : h a = some (.inl (0, n, .inl (zf f)))) (hi : 0 ≤ i ∧ i < (n : Int)) (hn : n ≤ 1000000) (k : pz_WP d en C own cc nL rt hh ini Q (pc + 1) ls (.int (zI (f i)) :: st) h nc ns) : pz_WP d en C own cc nL rt hh ini Q pc ls (.int (zI i) :: .ref a :: st) h nc ns := pr_iald hd ha (zk hi hn).1 (zk hi hn).2 (by rw [zf_at hi.1]; exact k)
theorem zr_cald {a : Nat} {i : Int} {n : Nat} {f : Int → Int} (hd : decode cc pc = .ok (.caload, 1)) (ha : h a = some (.inl (1, n, .inl (zf f)))) (hi : 0 ≤ i ∧ i < (n : Int)) (hn : n ≤ 1000000) (k : pz_WP d en C own cc nL rt hh ini Q (pc + 1) ls (.int (zI (f i)) :: st) h nc ns) : pz_WP d en C own cc nL rt hh ini Q pc ls (.int (zI i) :: .ref a :: st) h nc ns := pr_cald hd ha (zk hi hn).1 (zk hi hn).2 (by rw [zf_at hi.1]; exact k)
theorem zr_iast {a : Nat} {i x : Int} {n : Nat} {f : Int → Int} {h2 : pz_H} (hd : decode cc pc = .ok (.iastore, 1)) (ha : h a = some (.inl (0, n, .inl (zf f)))) (hi : 0 ≤ i ∧ i < (n : Int)) (hn : n ≤ 1000000) (hu : va_up h a (some (.inl (0, n, .inl (zf (zu f i x))))) = h2) (k : pz_WP d en C own cc nL rt hh ini Q (pc + 1) ls st h2 nc ns) : pz_WP d en C own cc nL rt hh ini Q pc ls (.int (zI x) :: .int (zI i) :: .ref a :: st) h nc ns := pr_iast hd ha (zk hi hn).1 (zk hi hn).2 (by rw [zf_up f hi.1]; exact hu) k
theorem zr_cast {a : Nat} {i x : Int} {n : Nat} {f : Int → Int} {h2 : pz_H} (hd : decode cc pc = .ok (.castore, 1)) (ha : h a = some (.inl (1, n, .inl (zf f)))) (hi : 0 ≤ i ∧ i < (n : Int)) (hn : n ≤ 1000000) (hx : vp_nar .char (zI x) = zI x) (hu : va_up h a (some (.inl (1, n, .inl (zf (zu f i x))))) = h2) (k : pz_WP d en C own cc nL rt hh ini Q (pc + 1) ls st h2 nc ns) : pz_WP d en C own cc nL rt hh ini Q pc ls (.int (zI x) :: .int (zI i) :: .ref a :: st) h nc ns := pr_cast hd ha (zk hi hn).1 (zk hi hn).2 hx (by rw [zf_up f hi.1]; exact hu) k
theorem zr_copy {ix a0 a n0 n1 : Nat} {sp dp n : Int} {f g : Int → Int} {h2 : pz_H} (hd : decode cc pc = .ok (.invokestatic ix, 3)) (hm : pz_nat own ix = some 2) (hd1 : 1 ≤ d) (ha0 : h a0 = some (.inl (0, n0, .inl (zf f)))) (ha : h a = some (.inl (0, n1, .inl (zf g)))) (hi : 0 ≤ sp ∧ 0 ≤ dp ∧ 0 ≤ n) (h4 : sp + n ≤ (n0 : Int)) (h5 : dp + n ≤ (n1 : Int)) (hn : n0 ≤ 1000000 ∧ n1 ≤ 1000000) (hr : st.length ≤ 3) (hu : va_up h a (some (.inl (0, n1, .inl (zf (zcpy f g sp dp n))))) = h2) (kk : pz_WP d en C own cc nL rt hh ini Q (pc + 3) ls st h2 nc ns) : pz_WP d en C own cc nL rt hh ini Q pc ls (.int (zI n) :: .int (zI dp) :: .ref a :: .int (zI sp) :: .ref a0 :: st) h nc ns :=
  pr_copy (i0 := sp.toNat) (j0 := dp.toNat) (N := n.toNat) hd hm hd1 ha0 ha (by rw [zI_toInt ⟨by omega, by omega⟩]; omega) (by rw [zI_toInt ⟨by omega, by omega⟩]; omega) (by rw [zI_toInt ⟨by omega, by omega⟩]; omega) (by omega) (by omega) hr (by rw [zf_cpy, show ((sp.toNat : Nat) : Int) = sp by omega, show ((dp.toNat : Nat) : Int) = dp by omega, show ((n.toNat : Nat) : Int) = n by omega]; exact hu) kk
theorem zr_max {ix : Nat} {x y : Int} (hd : decode cc pc = .ok (.invokestatic ix, 3)) (hm : pz_nat own ix = some 0) (hd1 : 1 ≤ d) (hr : st.length ≤ 3) (hx : zR x) (hy : zR y) (kk : pz_WP d en C own cc nL rt hh ini Q (pc + 3) ls (.int (zI (if x < y then y else x)) :: st) h nc ns) : pz_WP d en C own cc nL rt hh ini Q pc ls (.int (zI y) :: .int (zI x) :: st) h nc ns := pr_max hd hm hd1 hr (by
  by_cases e : x < y
  · rw [if_pos ((zI_lt hx hy).mpr e)]; rw [if_pos e] at kk; exact kk
  · rw [if_neg (fun z => e ((zI_lt hx hy).mp z))]; rw [if_neg e] at kk; exact kk)
theorem zr_min {ix : Nat} {x y : Int} (hd : decode cc pc = .ok (.invokestatic ix, 3)) (hm : pz_nat own ix = some 1) (hd1 : 1 ≤ d) (hr : st.length ≤ 3) (hx : zR x) (hy : zR y) (kk : pz_WP d en C own cc nL rt hh ini Q (pc + 3) ls (.int (zI (if y < x then y else x)) :: st) h nc ns) : pz_WP d en C own cc nL rt hh ini Q pc ls (.int (zI y) :: .int (zI x) :: st) h nc ns := pr_min hd hm hd1 hr (by
  by_cases e : y < x
  · rw [if_pos ((zI_lt hy hx).mpr e)]; rw [if_pos e] at kk; exact kk
  · rw [if_neg (fun z => e ((zI_lt hy hx).mp z))]; rw [if_neg e] at kk; exact kk)
end zrows
section zcalls
variable {d : Nat} {en : pz_Env} {own : Nat} {cc : ByteArray} {nL : Nat} {rt : Option FieldType} {hh : List (Nat × Nat × Nat × Nat)} {ini : Bool} {Q : pz_Q}
variable {pc : Nat} {ls : List (Option Value)} {st : List Value} {h : pz_H} {nc ns : Nat}
theorem zcv0 {ix b : Nat} {k0 : Nat} {fs : List Value} {y : Nat} {yn : MethodName} {bs : ByteArray} {mL : Nat} {mr : Option FieldType} {mo : Nat} {ps : List Nat} {v : Option Value} {h2 : pz_H} (hd : decode cc pc = .ok (.invokevirtual ix, 3)) (hm : pz_mth own ix = some y) (ht : pz_tab y = some (yn, bs, mL, mr, mo, 0, 1, [], ps)) (hb : h b = some (.inr (mo, fs))) (hC : pz_Cd en k0 y [.ref b] h 0 0 (pz_ret v h2)) (hk : k0 ≤ d - 1) (hr : st.length ≤ 3) (hmo : mo < 8) (k : pz_WP d en (pz_Cd en (d - 1)) own cc nL rt hh ini Q (pc + 3) ls (v.toList ++ st) h2 nc ns) : pz_WP d en (pz_Cd en (d - 1)) own cc nL rt hh ini Q pc ls (.ref b :: st) h nc ns := pr_cv0 (np := 0) (mh := []) hd hm ht hb hC (fun o h3 hq => ⟨v, hq.1, by rw [hq.2]; exact k⟩) hmo hk hr
theorem zcs0 {ix : Nat} {k0 : Nat} {y : Nat} {yn : MethodName} {bs : ByteArray} {mL : Nat} {mr : Option FieldType} {mo : Nat} {ps : List Nat} {v : Option Value} {h2 : pz_H} (hd : decode cc pc = .ok (.invokestatic ix, 3)) (hm : pz_mth own ix = some y) (ht : pz_tab y = some (yn, bs, mL, mr, mo, 0, 0, [], ps)) (hC : pz_Cd en k0 y [] h 0 0 (pz_ret v h2)) (hk : k0 ≤ d - 1) (hr : st.length ≤ 3) (k : pz_WP d en (pz_Cd en (d - 1)) own cc nL rt hh ini Q (pc + 3) ls (v.toList ++ st) h2 nc ns) : pz_WP d en (pz_Cd en (d - 1)) own cc nL rt hh ini Q pc ls (st) h nc ns := pr_cs0 (np := 0) (mh := []) hd hm ht hC (fun o h3 hq => ⟨v, hq.1, by rw [hq.2]; exact k⟩) hk hr
theorem zcv1 {ix b : Nat} {k0 : Nat} {fs : List Value} {v1 : Value} {y : Nat} {yn : MethodName} {bs : ByteArray} {mL : Nat} {mr : Option FieldType} {mo : Nat} {ps : List Nat} {v : Option Value} {h2 : pz_H} (hd : decode cc pc = .ok (.invokevirtual ix, 3)) (hm : pz_mth own ix = some y) (ht : pz_tab y = some (yn, bs, mL, mr, mo, 1, 1, [], ps)) (hb : h b = some (.inr (mo, fs))) (hC : pz_Cd en k0 y [.ref b, v1] h 0 0 (pz_ret v h2)) (hk : k0 ≤ d - 1) (hr : st.length ≤ 3) (hmo : mo < 8) (k : pz_WP d en (pz_Cd en (d - 1)) own cc nL rt hh ini Q (pc + 3) ls (v.toList ++ st) h2 nc ns) : pz_WP d en (pz_Cd en (d - 1)) own cc nL rt hh ini Q pc ls (v1 :: .ref b :: st) h nc ns := pr_cv1 (np := 0) (mh := []) hd hm ht hb hC (fun o h3 hq => ⟨v, hq.1, by rw [hq.2]; exact k⟩) hmo hk hr
theorem zcs1 {ix : Nat} {k0 : Nat} {v1 : Value} {y : Nat} {yn : MethodName} {bs : ByteArray} {mL : Nat} {mr : Option FieldType} {mo : Nat} {ps : List Nat} {v : Option Value} {h2 : pz_H} (hd : decode cc pc = .ok (.invokestatic ix, 3)) (hm : pz_mth own ix = some y) (ht : pz_tab y = some (yn, bs, mL, mr, mo, 1, 0, [], ps)) (hC : pz_Cd en k0 y [v1] h 0 0 (pz_ret v h2)) (hk : k0 ≤ d - 1) (hr : st.length ≤ 3) (k : pz_WP d en (pz_Cd en (d - 1)) own cc nL rt hh ini Q (pc + 3) ls (v.toList ++ st) h2 nc ns) : pz_WP d en (pz_Cd en (d - 1)) own cc nL rt hh ini Q pc ls (v1 :: st) h nc ns := pr_cs1 (np := 0) (mh := []) hd hm ht hC (fun o h3 hq => ⟨v, hq.1, by rw [hq.2]; exact k⟩) hk hr
theorem zcv2 {ix b : Nat} {k0 : Nat} {fs : List Value} {v1 v2 : Value} {y : Nat} {yn : MethodName} {bs : ByteArray} {mL : Nat} {mr : Option FieldType} {mo : Nat} {ps : List Nat} {v : Option Value} {h2 : pz_H} (hd : decode cc pc = .ok (.invokevirtual ix, 3)) (hm : pz_mth own ix = some y) (ht : pz_tab y = some (yn, bs, mL, mr, mo, 2, 1, [], ps)) (hb : h b = some (.inr (mo, fs))) (hC : pz_Cd en k0 y [.ref b, v1, v2] h 0 0 (pz_ret v h2)) (hk : k0 ≤ d - 1) (hr : st.length ≤ 3) (hmo : mo < 8) (k : pz_WP d en (pz_Cd en (d - 1)) own cc nL rt hh ini Q (pc + 3) ls (v.toList ++ st) h2 nc ns) : pz_WP d en (pz_Cd en (d - 1)) own cc nL rt hh ini Q pc ls (v2 :: v1 :: .ref b :: st) h nc ns := pr_cv2 (np := 0) (mh := []) hd hm ht hb hC (fun o h3 hq => ⟨v, hq.1, by rw [hq.2]; exact k⟩) hmo hk hr
theorem zcs2 {ix : Nat} {k0 : Nat} {v1 v2 : Value} {y : Nat} {yn : MethodName} {bs : ByteArray} {mL : Nat} {mr : Option FieldType} {mo : Nat} {ps : List Nat} {v : Option Value} {h2 : pz_H} (hd : decode cc pc = .ok (.invokestatic ix, 3)) (hm : pz_mth own ix = some y) (ht : pz_tab y = some (yn, bs, mL, mr, mo, 2, 0, [], ps)) (hC : pz_Cd en k0 y [v1, v2] h 0 0 (pz_ret v h2)) (hk : k0 ≤ d - 1) (hr : st.length ≤ 3) (k : pz_WP d en (pz_Cd en (d - 1)) own cc nL rt hh ini Q (pc + 3) ls (v.toList ++ st) h2 nc ns) : pz_WP d en (pz_Cd en (d - 1)) own cc nL rt hh ini Q pc ls (v2 :: v1 :: st) h nc ns := pr_cs2 (np := 0) (mh := []) hd hm ht hC (fun o h3 hq => ⟨v, hq.1, by rw [hq.2]; exact k⟩) hk hr
theorem zcv3 {ix b : Nat} {k0 : Nat} {fs : List Value} {v1 v2 v3 : Value} {y : Nat} {yn : MethodName} {bs : ByteArray} {mL : Nat} {mr : Option FieldType} {mo : Nat} {ps : List Nat} {v : Option Value} {h2 : pz_H} (hd : decode cc pc = .ok (.invokevirtual ix, 3)) (hm : pz_mth own ix = some y) (ht : pz_tab y = some (yn, bs, mL, mr, mo, 3, 1, [], ps)) (hb : h b = some (.inr (mo, fs))) (hC : pz_Cd en k0 y [.ref b, v1, v2, v3] h 0 0 (pz_ret v h2)) (hk : k0 ≤ d - 1) (hr : st.length ≤ 3) (hmo : mo < 8) (k : pz_WP d en (pz_Cd en (d - 1)) own cc nL rt hh ini Q (pc + 3) ls (v.toList ++ st) h2 nc ns) : pz_WP d en (pz_Cd en (d - 1)) own cc nL rt hh ini Q pc ls (v3 :: v2 :: v1 :: .ref b :: st) h nc ns := pr_cv3 (np := 0) (mh := []) hd hm ht hb hC (fun o h3 hq => ⟨v, hq.1, by rw [hq.2]; exact k⟩) hmo hk hr
theorem zcs3 {ix : Nat} {k0 : Nat} {v1 v2 v3 : Value} {y : Nat} {yn : MethodName} {bs : ByteArray} {mL : Nat} {mr : Option FieldType} {mo : Nat} {ps : List Nat} {v : Option Value} {h2 : pz_H} (hd : decode cc pc = .ok (.invokestatic ix, 3)) (hm : pz_mth own ix = some y) (ht : pz_tab y = some (yn, bs, mL, mr, mo, 3, 0, [], ps)) (hC : pz_Cd en k0 y [v1, v2, v3] h 0 0 (pz_ret v h2)) (hk : k0 ≤ d - 1) (hr : st.length ≤ 3) (k : pz_WP d en (pz_Cd en (d - 1)) own cc nL rt hh ini Q (pc + 3) ls (v.toList ++ st) h2 nc ns) : pz_WP d en (pz_Cd en (d - 1)) own cc nL rt hh ini Q pc ls (v3 :: v2 :: v1 :: st) h nc ns := pr_cs3 (np := 0) (mh := []) hd hm ht hC (fun o h3 hq => ⟨v, hq.1, by rw [hq.2]; exact k⟩) hk hr
theorem zcv4 {ix b : Nat} {k0 : Nat} {fs : List Value} {v1 v2 v3 v4 : Value} {y : Nat} {yn : MethodName} {bs : ByteArray} {mL : Nat} {mr : Option FieldType} {mo : Nat} {ps : List Nat} {v : Option Value} {h2 : pz_H} (hd : decode cc pc = .ok (.invokevirtual ix, 3)) (hm : pz_mth own ix = some y) (ht : pz_tab y = some (yn, bs, mL, mr, mo, 4, 1, [], ps)) (hb : h b = some (.inr (mo, fs))) (hC : pz_Cd en k0 y [.ref b, v1, v2, v3, v4] h 0 0 (pz_ret v h2)) (hk : k0 ≤ d - 1) (hr : st.length ≤ 3) (hmo : mo < 8) (k : pz_WP d en (pz_Cd en (d - 1)) own cc nL rt hh ini Q (pc + 3) ls (v.toList ++ st) h2 nc ns) : pz_WP d en (pz_Cd en (d - 1)) own cc nL rt hh ini Q pc ls (v4 :: v3 :: v2 :: v1 :: .ref b :: st) h nc ns := pr_cv4 (np := 0) (mh := []) hd hm ht hb hC (fun o h3 hq => ⟨v, hq.1, by rw [hq.2]; exact k⟩) hmo hk hr
theorem zcs4 {ix : Nat} {k0 : Nat} {v1 v2 v3 v4 : Value} {y : Nat} {yn : MethodName} {bs : ByteArray} {mL : Nat} {mr : Option FieldType} {mo : Nat} {ps : List Nat} {v : Option Value} {h2 : pz_H} (hd : decode cc pc = .ok (.invokestatic ix, 3)) (hm : pz_mth own ix = some y) (ht : pz_tab y = some (yn, bs, mL, mr, mo, 4, 0, [], ps)) (hC : pz_Cd en k0 y [v1, v2, v3, v4] h 0 0 (pz_ret v h2)) (hk : k0 ≤ d - 1) (hr : st.length ≤ 3) (k : pz_WP d en (pz_Cd en (d - 1)) own cc nL rt hh ini Q (pc + 3) ls (v.toList ++ st) h2 nc ns) : pz_WP d en (pz_Cd en (d - 1)) own cc nL rt hh ini Q pc ls (v4 :: v3 :: v2 :: v1 :: st) h nc ns := pr_cs4 (np := 0) (mh := []) hd hm ht hC (fun o h3 hq => ⟨v, hq.1, by rw [hq.2]; exact k⟩) hk hr
theorem zcv5 {ix b : Nat} {k0 : Nat} {fs : List Value} {v1 v2 v3 v4 v5 : Value} {y : Nat} {yn : MethodName} {bs : ByteArray} {mL : Nat} {mr : Option FieldType} {mo : Nat} {ps : List Nat} {v : Option Value} {h2 : pz_H} (hd : decode cc pc = .ok (.invokevirtual ix, 3)) (hm : pz_mth own ix = some y) (ht : pz_tab y = some (yn, bs, mL, mr, mo, 5, 1, [], ps)) (hb : h b = some (.inr (mo, fs))) (hC : pz_Cd en k0 y [.ref b, v1, v2, v3, v4, v5] h 0 0 (pz_ret v h2)) (hk : k0 ≤ d - 1) (hr : st.length ≤ 3) (hmo : mo < 8) (k : pz_WP d en (pz_Cd en (d - 1)) own cc nL rt hh ini Q (pc + 3) ls (v.toList ++ st) h2 nc ns) : pz_WP d en (pz_Cd en (d - 1)) own cc nL rt hh ini Q pc ls (v5 :: v4 :: v3 :: v2 :: v1 :: .ref b :: st) h nc ns := pr_cv5 (np := 0) (mh := []) hd hm ht hb hC (fun o h3 hq => ⟨v, hq.1, by rw [hq.2]; exact k⟩) hmo hk hr
theorem zcs5 {ix : Nat} {k0 : Nat} {v1 v2 v3 v4 v5 : Value} {y : Nat} {yn : MethodName} {bs : ByteArray} {mL : Nat} {mr : Option FieldType} {mo : Nat} {ps : List Nat} {v : Option Value} {h2 : pz_H} (hd : decode cc pc = .ok (.invokestatic ix, 3)) (hm : pz_mth own ix = some y) (ht : pz_tab y = some (yn, bs, mL, mr, mo, 5, 0, [], ps)) (hC : pz_Cd en k0 y [v1, v2, v3, v4, v5] h 0 0 (pz_ret v h2)) (hk : k0 ≤ d - 1) (hr : st.length ≤ 3) (k : pz_WP d en (pz_Cd en (d - 1)) own cc nL rt hh ini Q (pc + 3) ls (v.toList ++ st) h2 nc ns) : pz_WP d en (pz_Cd en (d - 1)) own cc nL rt hh ini Q pc ls (v5 :: v4 :: v3 :: v2 :: v1 :: st) h nc ns := pr_cs5 (np := 0) (mh := []) hd hm ht hC (fun o h3 hq => ⟨v, hq.1, by rw [hq.2]; exact k⟩) hk hr
end zcalls
end
