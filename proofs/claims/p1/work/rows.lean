section
-- ===== PART A: goes FIRST, ahead of the names: the tables' words, and 'selects' of the private methods out of them =====
/-- a private method of a class that the tables say can be made, by its rows of tables_1 -/
def lw_okq (q : MethodName × Nat) : Prop := (q.1.cls ≠ "java/lang/invoke/MethodHandle" ∧ q.1.cls ≠ "java/lang/invoke/VarHandle") ∧ Cond.instantiable q.1.cls q.2 ∈ tables_1 ∧ Cond.privateMethod q.1 ∈ tables_1 ∧ Cond.instanceMethod q.1 ∈ tables_1
theorem lw_p0 : lw_okq (⟨"RoutePlanner$Reader", "readLine", "()V"⟩, 9) := ⟨⟨by decide +kernel, by decide +kernel⟩, List.mem_of_getElem? (i := 149) (by decide +kernel), List.mem_of_getElem? (i := 453) (by decide +kernel), List.mem_of_getElem? (i := 454) (by decide +kernel)⟩
theorem lw_p1 : lw_okq (⟨"RoutePlanner$Reader", "nextWord", "()Z"⟩, 9) := ⟨⟨by decide +kernel, by decide +kernel⟩, List.mem_of_getElem? (i := 149) (by decide +kernel), List.mem_of_getElem? (i := 457) (by decide +kernel), List.mem_of_getElem? (i := 458) (by decide +kernel)⟩
theorem lw_p2 : lw_okq (⟨"RoutePlanner$Reader", "skip", "(II)V"⟩, 9) := ⟨⟨by decide +kernel, by decide +kernel⟩, List.mem_of_getElem? (i := 149) (by decide +kernel), List.mem_of_getElem? (i := 461) (by decide +kernel), List.mem_of_getElem? (i := 462) (by decide +kernel)⟩
theorem lw_p3 : lw_okq (⟨"RoutePlanner$Reader", "fail", "(II)V"⟩, 9) := ⟨⟨by decide +kernel, by decide +kernel⟩, List.mem_of_getElem? (i := 149) (by decide +kernel), List.mem_of_getElem? (i := 465) (by decide +kernel), List.mem_of_getElem? (i := 466) (by decide +kernel)⟩
theorem lw_p4 : lw_okq (⟨"RoutePlanner$Reader", "isWord", "(Ljava/lang/String;)Z"⟩, 9) := ⟨⟨by decide +kernel, by decide +kernel⟩, List.mem_of_getElem? (i := 149) (by decide +kernel), List.mem_of_getElem? (i := 470) (by decide +kernel), List.mem_of_getElem? (i := 471) (by decide +kernel)⟩
theorem lw_p5 : lw_okq (⟨"RoutePlanner$Reader", "readNode", "()V"⟩, 9) := ⟨⟨by decide +kernel, by decide +kernel⟩, List.mem_of_getElem? (i := 149) (by decide +kernel), List.mem_of_getElem? (i := 522) (by decide +kernel), List.mem_of_getElem? (i := 523) (by decide +kernel)⟩
theorem lw_p6 : lw_okq (⟨"RoutePlanner$Reader", "nextNumber", "(ZJ)J"⟩, 9) := ⟨⟨by decide +kernel, by decide +kernel⟩, List.mem_of_getElem? (i := 149) (by decide +kernel), List.mem_of_getElem? (i := 527) (by decide +kernel), List.mem_of_getElem? (i := 528) (by decide +kernel)⟩
theorem lw_p7 : lw_okq (⟨"RoutePlanner$Reader", "numberOfWord", "(Z)J"⟩, 9) := ⟨⟨by decide +kernel, by decide +kernel⟩, List.mem_of_getElem? (i := 149) (by decide +kernel), List.mem_of_getElem? (i := 531) (by decide +kernel), List.mem_of_getElem? (i := 532) (by decide +kernel)⟩
theorem lw_p8 : lw_okq (⟨"RoutePlanner$Reader", "readArcs", "(Z)V"⟩, 9) := ⟨⟨by decide +kernel, by decide +kernel⟩, List.mem_of_getElem? (i := 149) (by decide +kernel), List.mem_of_getElem? (i := 544) (by decide +kernel), List.mem_of_getElem? (i := 545) (by decide +kernel)⟩
theorem lw_p9 : lw_okq (⟨"RoutePlanner$Reader", "nextNode", "()I"⟩, 9) := ⟨⟨by decide +kernel, by decide +kernel⟩, List.mem_of_getElem? (i := 149) (by decide +kernel), List.mem_of_getElem? (i := 548) (by decide +kernel), List.mem_of_getElem? (i := 549) (by decide +kernel)⟩
theorem lw_p10 : lw_okq (⟨"RoutePlanner$Reader", "putArc", "(IIJ)V"⟩, 9) := ⟨⟨by decide +kernel, by decide +kernel⟩, List.mem_of_getElem? (i := 149) (by decide +kernel), List.mem_of_getElem? (i := 555) (by decide +kernel), List.mem_of_getElem? (i := 556) (by decide +kernel)⟩
theorem lw_p11 : lw_okq (⟨"RoutePlanner$Net", "leaveAll", "()V"⟩, 6) := ⟨⟨by decide +kernel, by decide +kernel⟩, List.mem_of_getElem? (i := 59) (by decide +kernel), List.mem_of_getElem? (i := 575) (by decide +kernel), List.mem_of_getElem? (i := 576) (by decide +kernel)⟩
theorem lw_p12 : lw_okq (⟨"RoutePlanner", "forgetAnswers", "()V"⟩, 13) := ⟨⟨by decide +kernel, by decide +kernel⟩, List.mem_of_getElem? (i := 28) (by decide +kernel), List.mem_of_getElem? (i := 586) (by decide +kernel), List.mem_of_getElem? (i := 587) (by decide +kernel)⟩
theorem lw_p13 : lw_okq (⟨"RoutePlanner", "findWays", "(II)Z"⟩, 13) := ⟨⟨by decide +kernel, by decide +kernel⟩, List.mem_of_getElem? (i := 28) (by decide +kernel), List.mem_of_getElem? (i := 643) (by decide +kernel), List.mem_of_getElem? (i := 644) (by decide +kernel)⟩
theorem lw_p14 : lw_okq (⟨"RoutePlanner$Ways", "nearest", "(I)I"⟩, 5) := ⟨⟨by decide +kernel, by decide +kernel⟩, List.mem_of_getElem? (i := 187) (by decide +kernel), List.mem_of_getElem? (i := 652) (by decide +kernel), List.mem_of_getElem? (i := 653) (by decide +kernel)⟩
theorem lw_p15 : lw_okq (⟨"RoutePlanner$Ways", "goOnFrom", "(LRoutePlanner$Net;IZ)V"⟩, 5) := ⟨⟨by decide +kernel, by decide +kernel⟩, List.mem_of_getElem? (i := 187) (by decide +kernel), List.mem_of_getElem? (i := 659) (by decide +kernel), List.mem_of_getElem? (i := 660) (by decide +kernel)⟩
def lw_privs_1 : List (MethodName × Nat) := [(⟨"RoutePlanner$Reader", "readLine", "()V"⟩, 9), (⟨"RoutePlanner$Reader", "nextWord", "()Z"⟩, 9), (⟨"RoutePlanner$Reader", "skip", "(II)V"⟩, 9), (⟨"RoutePlanner$Reader", "fail", "(II)V"⟩, 9), (⟨"RoutePlanner$Reader", "isWord", "(Ljava/lang/String;)Z"⟩, 9), (⟨"RoutePlanner$Reader", "readNode", "()V"⟩, 9), (⟨"RoutePlanner$Reader", "nextNumber", "(ZJ)J"⟩, 9), (⟨"RoutePlanner$Reader", "numberOfWord", "(Z)J"⟩, 9), (⟨"RoutePlanner$Reader", "readArcs", "(Z)V"⟩, 9), (⟨"RoutePlanner$Reader", "nextNode", "()I"⟩, 9), (⟨"RoutePlanner$Reader", "putArc", "(IIJ)V"⟩, 9), (⟨"RoutePlanner$Net", "leaveAll", "()V"⟩, 6), (⟨"RoutePlanner", "forgetAnswers", "()V"⟩, 13), (⟨"RoutePlanner", "findWays", "(II)Z"⟩, 13), (⟨"RoutePlanner$Ways", "nearest", "(I)I"⟩, 5), (⟨"RoutePlanner$Ways", "goOnFrom", "(LRoutePlanner$Net;IZ)V"⟩, 5)]
theorem lw_r1 : ∀ q ∈ lw_privs_1, lw_okq q := List.forall_mem_cons.mpr ⟨lw_p0, List.forall_mem_cons.mpr ⟨lw_p1, List.forall_mem_cons.mpr ⟨lw_p2, List.forall_mem_cons.mpr ⟨lw_p3, List.forall_mem_cons.mpr ⟨lw_p4, List.forall_mem_cons.mpr ⟨lw_p5, List.forall_mem_cons.mpr ⟨lw_p6, List.forall_mem_cons.mpr ⟨lw_p7, List.forall_mem_cons.mpr ⟨lw_p8, List.forall_mem_cons.mpr ⟨lw_p9, List.forall_mem_cons.mpr ⟨lw_p10, List.forall_mem_cons.mpr ⟨lw_p11, List.forall_mem_cons.mpr ⟨lw_p12, List.forall_mem_cons.mpr ⟨lw_p13, List.forall_mem_cons.mpr ⟨lw_p14, List.forall_mem_cons.mpr ⟨lw_p15, fun _ h => absurd h List.not_mem_nil⟩⟩⟩⟩⟩⟩⟩⟩⟩⟩⟩⟩⟩⟩⟩⟩
theorem lw_p16 : lw_okq (⟨"RoutePlanner$Landmarks", "raise", "(IJ)V"⟩, 5) := ⟨⟨by decide +kernel, by decide +kernel⟩, List.mem_of_getElem? (i := 243) (by decide +kernel), List.mem_of_getElem? (i := 696) (by decide +kernel), List.mem_of_getElem? (i := 697) (by decide +kernel)⟩
theorem lw_p17 : lw_okq (⟨"RoutePlanner", "findEdge", "(IZI)I"⟩, 13) := ⟨⟨by decide +kernel, by decide +kernel⟩, List.mem_of_getElem? (i := 28) (by decide +kernel), List.mem_of_getElem? (i := 722) (by decide +kernel), List.mem_of_getElem? (i := 723) (by decide +kernel)⟩
theorem lw_p18 : lw_okq (⟨"java/lang/Throwable", "fillInStackTrace", "(I)Ljava/lang/Throwable;"⟩, 6) := ⟨⟨by decide +kernel, by decide +kernel⟩, List.mem_of_getElem? (i := 823) (by decide +kernel), List.mem_of_getElem? (i := 821) (by decide +kernel), List.mem_of_getElem? (i := 822) (by decide +kernel)⟩
theorem lw_p19 : lw_okq (⟨"RoutePlanner", "needNode", "(I)V"⟩, 13) := ⟨⟨by decide +kernel, by decide +kernel⟩, List.mem_of_getElem? (i := 28) (by decide +kernel), List.mem_of_getElem? (i := 903) (by decide +kernel), List.mem_of_getElem? (i := 904) (by decide +kernel)⟩
theorem lw_p20 : lw_okq (⟨"RoutePlanner", "needWeight", "(J)V"⟩, 13) := ⟨⟨by decide +kernel, by decide +kernel⟩, List.mem_of_getElem? (i := 28) (by decide +kernel), List.mem_of_getElem? (i := 923) (by decide +kernel), List.mem_of_getElem? (i := 924) (by decide +kernel)⟩
theorem lw_p21 : lw_okq (⟨"RoutePlanner", "needSum", "(J)V"⟩, 13) := ⟨⟨by decide +kernel, by decide +kernel⟩, List.mem_of_getElem? (i := 28) (by decide +kernel), List.mem_of_getElem? (i := 930) (by decide +kernel), List.mem_of_getElem? (i := 931) (by decide +kernel)⟩
theorem lw_p22 : lw_okq (⟨"RoutePlanner$Trail", "nextOf", "(LRoutePlanner$Ways;[J)I"⟩, 5) := ⟨⟨by decide +kernel, by decide +kernel⟩, List.mem_of_getElem? (i := 217) (by decide +kernel), List.mem_of_getElem? (i := 973) (by decide +kernel), List.mem_of_getElem? (i := 974) (by decide +kernel)⟩
theorem lw_p23 : lw_okq (⟨"RoutePlanner$Trail", "put", "(LRoutePlanner$Ways;I)V"⟩, 5) := ⟨⟨by decide +kernel, by decide +kernel⟩, List.mem_of_getElem? (i := 217) (by decide +kernel), List.mem_of_getElem? (i := 981) (by decide +kernel), List.mem_of_getElem? (i := 982) (by decide +kernel)⟩
theorem lw_p24 : lw_okq (⟨"RoutePlanner$Trail", "putFirst", "(LRoutePlanner$Ways;I)V"⟩, 5) := ⟨⟨by decide +kernel, by decide +kernel⟩, List.mem_of_getElem? (i := 217) (by decide +kernel), List.mem_of_getElem? (i := 1008) (by decide +kernel), List.mem_of_getElem? (i := 1009) (by decide +kernel)⟩
theorem lw_p25 : lw_okq (⟨"RoutePlanner", "startPrepare", "()V"⟩, 13) := ⟨⟨by decide +kernel, by decide +kernel⟩, List.mem_of_getElem? (i := 28) (by decide +kernel), List.mem_of_getElem? (i := 1071) (by decide +kernel), List.mem_of_getElem? (i := 1072) (by decide +kernel)⟩
theorem lw_p26 : lw_okq (⟨"RoutePlanner$Hierarchy", "askForShortcuts", "(I)V"⟩, 14) := ⟨⟨by decide +kernel, by decide +kernel⟩, List.mem_of_getElem? (i := 270) (by decide +kernel), List.mem_of_getElem? (i := 1105) (by decide +kernel), List.mem_of_getElem? (i := 1106) (by decide +kernel)⟩
theorem lw_p27 : lw_okq (⟨"RoutePlanner$Hierarchy", "askFrom", "(II)V"⟩, 14) := ⟨⟨by decide +kernel, by decide +kernel⟩, List.mem_of_getElem? (i := 270) (by decide +kernel), List.mem_of_getElem? (i := 1109) (by decide +kernel), List.mem_of_getElem? (i := 1110) (by decide +kernel)⟩
theorem lw_p28 : lw_okq (⟨"RoutePlanner$Hierarchy", "isPair", "(III)Z"⟩, 14) := ⟨⟨by decide +kernel, by decide +kernel⟩, List.mem_of_getElem? (i := 270) (by decide +kernel), List.mem_of_getElem? (i := 1114) (by decide +kernel), List.mem_of_getElem? (i := 1115) (by decide +kernel)⟩
theorem lw_p29 : lw_okq (⟨"RoutePlanner$Hierarchy", "isBridged", "(III)Z"⟩, 14) := ⟨⟨by decide +kernel, by decide +kernel⟩, List.mem_of_getElem? (i := 270) (by decide +kernel), List.mem_of_getElem? (i := 1118) (by decide +kernel), List.mem_of_getElem? (i := 1119) (by decide +kernel)⟩
theorem lw_p30 : lw_okq (⟨"RoutePlanner$Hierarchy", "edgesOf", "(I)I"⟩, 14) := ⟨⟨by decide +kernel, by decide +kernel⟩, List.mem_of_getElem? (i := 270) (by decide +kernel), List.mem_of_getElem? (i := 1138) (by decide +kernel), List.mem_of_getElem? (i := 1139) (by decide +kernel)⟩
theorem lw_p31 : lw_okq (⟨"RoutePlanner$Route", "climb", "(LRoutePlanner$Hierarchy;IZ[J[I)I"⟩, 17) := ⟨⟨by decide +kernel, by decide +kernel⟩, List.mem_of_getElem? (i := 335) (by decide +kernel), List.mem_of_getElem? (i := 1187) (by decide +kernel), List.mem_of_getElem? (i := 1188) (by decide +kernel)⟩
def lw_privs_2 : List (MethodName × Nat) := [(⟨"RoutePlanner$Landmarks", "raise", "(IJ)V"⟩, 5), (⟨"RoutePlanner", "findEdge", "(IZI)I"⟩, 13), (⟨"java/lang/Throwable", "fillInStackTrace", "(I)Ljava/lang/Throwable;"⟩, 6), (⟨"RoutePlanner", "needNode", "(I)V"⟩, 13), (⟨"RoutePlanner", "needWeight", "(J)V"⟩, 13), (⟨"RoutePlanner", "needSum", "(J)V"⟩, 13), (⟨"RoutePlanner$Trail", "nextOf", "(LRoutePlanner$Ways;[J)I"⟩, 5), (⟨"RoutePlanner$Trail", "put", "(LRoutePlanner$Ways;I)V"⟩, 5), (⟨"RoutePlanner$Trail", "putFirst", "(LRoutePlanner$Ways;I)V"⟩, 5), (⟨"RoutePlanner", "startPrepare", "()V"⟩, 13), (⟨"RoutePlanner$Hierarchy", "askForShortcuts", "(I)V"⟩, 14), (⟨"RoutePlanner$Hierarchy", "askFrom", "(II)V"⟩, 14), (⟨"RoutePlanner$Hierarchy", "isPair", "(III)Z"⟩, 14), (⟨"RoutePlanner$Hierarchy", "isBridged", "(III)Z"⟩, 14), (⟨"RoutePlanner$Hierarchy", "edgesOf", "(I)I"⟩, 14), (⟨"RoutePlanner$Route", "climb", "(LRoutePlanner$Hierarchy;IZ[J[I)I"⟩, 17)]
theorem lw_r2 : ∀ q ∈ lw_privs_2, lw_okq q := List.forall_mem_cons.mpr ⟨lw_p16, List.forall_mem_cons.mpr ⟨lw_p17, List.forall_mem_cons.mpr ⟨lw_p18, List.forall_mem_cons.mpr ⟨lw_p19, List.forall_mem_cons.mpr ⟨lw_p20, List.forall_mem_cons.mpr ⟨lw_p21, List.forall_mem_cons.mpr ⟨lw_p22, List.forall_mem_cons.mpr ⟨lw_p23, List.forall_mem_cons.mpr ⟨lw_p24, List.forall_mem_cons.mpr ⟨lw_p25, List.forall_mem_cons.mpr ⟨lw_p26, List.forall_mem_cons.mpr ⟨lw_p27, List.forall_mem_cons.mpr ⟨lw_p28, List.forall_mem_cons.mpr ⟨lw_p29, List.forall_mem_cons.mpr ⟨lw_p30, List.forall_mem_cons.mpr ⟨lw_p31, fun _ h => absurd h List.not_mem_nil⟩⟩⟩⟩⟩⟩⟩⟩⟩⟩⟩⟩⟩⟩⟩⟩
theorem lw_p32 : lw_okq (⟨"RoutePlanner$Route", "relaxEdges", "(LRoutePlanner$Hierarchy;IZ[J[I)V"⟩, 17) := ⟨⟨by decide +kernel, by decide +kernel⟩, List.mem_of_getElem? (i := 335) (by decide +kernel), List.mem_of_getElem? (i := 1192) (by decide +kernel), List.mem_of_getElem? (i := 1193) (by decide +kernel)⟩
theorem lw_p33 : lw_okq (⟨"RoutePlanner$Route", "noteRelaxed", "(II)V"⟩, 17) := ⟨⟨by decide +kernel, by decide +kernel⟩, List.mem_of_getElem? (i := 335) (by decide +kernel), List.mem_of_getElem? (i := 1201) (by decide +kernel), List.mem_of_getElem? (i := 1202) (by decide +kernel)⟩
theorem lw_p34 : lw_okq (⟨"RoutePlanner$Route", "findTop", "(I)V"⟩, 17) := ⟨⟨by decide +kernel, by decide +kernel⟩, List.mem_of_getElem? (i := 335) (by decide +kernel), List.mem_of_getElem? (i := 1205) (by decide +kernel), List.mem_of_getElem? (i := 1206) (by decide +kernel)⟩
theorem lw_p35 : lw_okq (⟨"RoutePlanner$Route", "walkThrough", "(LRoutePlanner$Hierarchy;II)V"⟩, 17) := ⟨⟨by decide +kernel, by decide +kernel⟩, List.mem_of_getElem? (i := 335) (by decide +kernel), List.mem_of_getElem? (i := 1209) (by decide +kernel), List.mem_of_getElem? (i := 1210) (by decide +kernel)⟩
theorem lw_p36 : lw_okq (⟨"RoutePlanner$Route", "nextBelow", "(LRoutePlanner$Hierarchy;IZ[J[I)I"⟩, 17) := ⟨⟨by decide +kernel, by decide +kernel⟩, List.mem_of_getElem? (i := 335) (by decide +kernel), List.mem_of_getElem? (i := 1213) (by decide +kernel), List.mem_of_getElem? (i := 1214) (by decide +kernel)⟩
theorem lw_p37 : lw_okq (⟨"RoutePlanner$Route", "walkEdge", "(LRoutePlanner$Net;II)V"⟩, 17) := ⟨⟨by decide +kernel, by decide +kernel⟩, List.mem_of_getElem? (i := 335) (by decide +kernel), List.mem_of_getElem? (i := 1217) (by decide +kernel), List.mem_of_getElem? (i := 1218) (by decide +kernel)⟩
theorem lw_p38 : lw_okq (⟨"RoutePlanner$Route", "noteStep", "(I)V"⟩, 17) := ⟨⟨by decide +kernel, by decide +kernel⟩, List.mem_of_getElem? (i := 335) (by decide +kernel), List.mem_of_getElem? (i := 1224) (by decide +kernel), List.mem_of_getElem? (i := 1225) (by decide +kernel)⟩
theorem lw_p39 : lw_okq (⟨"RoutePlannerModel", "four", "(I)V"⟩, 81) := ⟨⟨by decide +kernel, by decide +kernel⟩, List.mem_of_getElem? (i := 1232) (by decide +kernel), List.mem_of_getElem? (i := 1486) (by decide +kernel), List.mem_of_getElem? (i := 1487) (by decide +kernel)⟩
theorem lw_p40 : lw_okq (⟨"RoutePlannerModel", "together", "()J"⟩, 81) := ⟨⟨by decide +kernel, by decide +kernel⟩, List.mem_of_getElem? (i := 1232) (by decide +kernel), List.mem_of_getElem? (i := 1498) (by decide +kernel), List.mem_of_getElem? (i := 1499) (by decide +kernel)⟩
theorem lw_p41 : lw_okq (⟨"RoutePlannerModel", "word", "()Z"⟩, 81) := ⟨⟨by decide +kernel, by decide +kernel⟩, List.mem_of_getElem? (i := 1232) (by decide +kernel), List.mem_of_getElem? (i := 1505) (by decide +kernel), List.mem_of_getElem? (i := 1506) (by decide +kernel)⟩
theorem lw_p42 : lw_okq (⟨"RoutePlannerModel", "see", "(I)I"⟩, 81) := ⟨⟨by decide +kernel, by decide +kernel⟩, List.mem_of_getElem? (i := 1232) (by decide +kernel), List.mem_of_getElem? (i := 1509) (by decide +kernel), List.mem_of_getElem? (i := 1510) (by decide +kernel)⟩
theorem lw_p43 : lw_okq (⟨"RoutePlannerModel", "fault", "(II)V"⟩, 81) := ⟨⟨by decide +kernel, by decide +kernel⟩, List.mem_of_getElem? (i := 1232) (by decide +kernel), List.mem_of_getElem? (i := 1516) (by decide +kernel), List.mem_of_getElem? (i := 1517) (by decide +kernel)⟩
theorem lw_p44 : lw_okq (⟨"RoutePlannerModel", "line", "(J)J"⟩, 81) := ⟨⟨by decide +kernel, by decide +kernel⟩, List.mem_of_getElem? (i := 1232) (by decide +kernel), List.mem_of_getElem? (i := 1520) (by decide +kernel), List.mem_of_getElem? (i := 1521) (by decide +kernel)⟩
theorem lw_p45 : lw_okq (⟨"RoutePlannerModel", "isWord", "(IIII)Z"⟩, 81) := ⟨⟨by decide +kernel, by decide +kernel⟩, List.mem_of_getElem? (i := 1232) (by decide +kernel), List.mem_of_getElem? (i := 1524) (by decide +kernel), List.mem_of_getElem? (i := 1525) (by decide +kernel)⟩
theorem lw_p46 : lw_okq (⟨"RoutePlannerModel", "number", "(ZJJ)Z"⟩, 81) := ⟨⟨by decide +kernel, by decide +kernel⟩, List.mem_of_getElem? (i := 1232) (by decide +kernel), List.mem_of_getElem? (i := 1530) (by decide +kernel), List.mem_of_getElem? (i := 1531) (by decide +kernel)⟩
theorem lw_p47 : lw_okq (⟨"RoutePlannerModel", "comes", "(II)V"⟩, 81) := ⟨⟨by decide +kernel, by decide +kernel⟩, List.mem_of_getElem? (i := 1232) (by decide +kernel), List.mem_of_getElem? (i := 1537) (by decide +kernel), List.mem_of_getElem? (i := 1538) (by decide +kernel)⟩
def lw_privs_3 : List (MethodName × Nat) := [(⟨"RoutePlanner$Route", "relaxEdges", "(LRoutePlanner$Hierarchy;IZ[J[I)V"⟩, 17), (⟨"RoutePlanner$Route", "noteRelaxed", "(II)V"⟩, 17), (⟨"RoutePlanner$Route", "findTop", "(I)V"⟩, 17), (⟨"RoutePlanner$Route", "walkThrough", "(LRoutePlanner$Hierarchy;II)V"⟩, 17), (⟨"RoutePlanner$Route", "nextBelow", "(LRoutePlanner$Hierarchy;IZ[J[I)I"⟩, 17), (⟨"RoutePlanner$Route", "walkEdge", "(LRoutePlanner$Net;II)V"⟩, 17), (⟨"RoutePlanner$Route", "noteStep", "(I)V"⟩, 17), (⟨"RoutePlannerModel", "four", "(I)V"⟩, 81), (⟨"RoutePlannerModel", "together", "()J"⟩, 81), (⟨"RoutePlannerModel", "word", "()Z"⟩, 81), (⟨"RoutePlannerModel", "see", "(I)I"⟩, 81), (⟨"RoutePlannerModel", "fault", "(II)V"⟩, 81), (⟨"RoutePlannerModel", "line", "(J)J"⟩, 81), (⟨"RoutePlannerModel", "isWord", "(IIII)Z"⟩, 81), (⟨"RoutePlannerModel", "number", "(ZJJ)Z"⟩, 81), (⟨"RoutePlannerModel", "comes", "(II)V"⟩, 81)]
theorem lw_r3 : ∀ q ∈ lw_privs_3, lw_okq q := List.forall_mem_cons.mpr ⟨lw_p32, List.forall_mem_cons.mpr ⟨lw_p33, List.forall_mem_cons.mpr ⟨lw_p34, List.forall_mem_cons.mpr ⟨lw_p35, List.forall_mem_cons.mpr ⟨lw_p36, List.forall_mem_cons.mpr ⟨lw_p37, List.forall_mem_cons.mpr ⟨lw_p38, List.forall_mem_cons.mpr ⟨lw_p39, List.forall_mem_cons.mpr ⟨lw_p40, List.forall_mem_cons.mpr ⟨lw_p41, List.forall_mem_cons.mpr ⟨lw_p42, List.forall_mem_cons.mpr ⟨lw_p43, List.forall_mem_cons.mpr ⟨lw_p44, List.forall_mem_cons.mpr ⟨lw_p45, List.forall_mem_cons.mpr ⟨lw_p46, List.forall_mem_cons.mpr ⟨lw_p47, fun _ h => absurd h List.not_mem_nil⟩⟩⟩⟩⟩⟩⟩⟩⟩⟩⟩⟩⟩⟩⟩⟩
theorem lw_p48 : lw_okq (⟨"RoutePlannerModel", "nodeWord", "(I)Z"⟩, 81) := ⟨⟨by decide +kernel, by decide +kernel⟩, List.mem_of_getElem? (i := 1232) (by decide +kernel), List.mem_of_getElem? (i := 1541) (by decide +kernel), List.mem_of_getElem? (i := 1542) (by decide +kernel)⟩
theorem lw_p49 : lw_okq (⟨"RoutePlannerModel", "goes", "(IIJ)V"⟩, 81) := ⟨⟨by decide +kernel, by decide +kernel⟩, List.mem_of_getElem? (i := 1232) (by decide +kernel), List.mem_of_getElem? (i := 1546) (by decide +kernel), List.mem_of_getElem? (i := 1547) (by decide +kernel)⟩
theorem lw_p50 : lw_okq (⟨"RoutePlannerModel", "none", "()V"⟩, 81) := ⟨⟨by decide +kernel, by decide +kernel⟩, List.mem_of_getElem? (i := 1232) (by decide +kernel), List.mem_of_getElem? (i := 1550) (by decide +kernel), List.mem_of_getElem? (i := 1551) (by decide +kernel)⟩
theorem lw_p51 : lw_okq (⟨"RoutePlannerModel", "changes", "()V"⟩, 81) := ⟨⟨by decide +kernel, by decide +kernel⟩, List.mem_of_getElem? (i := 1232) (by decide +kernel), List.mem_of_getElem? (i := 1554) (by decide +kernel), List.mem_of_getElem? (i := 1555) (by decide +kernel)⟩
theorem lw_p52 : lw_okq (⟨"RoutePlannerModel", "isNode", "(I)Z"⟩, 81) := ⟨⟨by decide +kernel, by decide +kernel⟩, List.mem_of_getElem? (i := 1232) (by decide +kernel), List.mem_of_getElem? (i := 1570) (by decide +kernel), List.mem_of_getElem? (i := 1571) (by decide +kernel)⟩
theorem lw_p53 : lw_okq (⟨"RoutePlannerModel", "isArc", "(I)Z"⟩, 81) := ⟨⟨by decide +kernel, by decide +kernel⟩, List.mem_of_getElem? (i := 1232) (by decide +kernel), List.mem_of_getElem? (i := 1581) (by decide +kernel), List.mem_of_getElem? (i := 1582) (by decide +kernel)⟩
theorem lw_p54 : lw_okq (⟨"RoutePlannerModel", "distances", "(IZ)V"⟩, 81) := ⟨⟨by decide +kernel, by decide +kernel⟩, List.mem_of_getElem? (i := 1232) (by decide +kernel), List.mem_of_getElem? (i := 1602) (by decide +kernel), List.mem_of_getElem? (i := 1603) (by decide +kernel)⟩
theorem lw_p55 : lw_okq (⟨"RoutePlannerModel", "edgesOfArcs", "()V"⟩, 81) := ⟨⟨by decide +kernel, by decide +kernel⟩, List.mem_of_getElem? (i := 1232) (by decide +kernel), List.mem_of_getElem? (i := 1606) (by decide +kernel), List.mem_of_getElem? (i := 1607) (by decide +kernel)⟩
theorem lw_p56 : lw_okq (⟨"RoutePlannerModel", "waysFrom", "(IZ)V"⟩, 81) := ⟨⟨by decide +kernel, by decide +kernel⟩, List.mem_of_getElem? (i := 1232) (by decide +kernel), List.mem_of_getElem? (i := 1610) (by decide +kernel), List.mem_of_getElem? (i := 1611) (by decide +kernel)⟩
theorem lw_p57 : lw_okq (⟨"RoutePlannerModel", "throwsNow", "(I)I"⟩, 81) := ⟨⟨by decide +kernel, by decide +kernel⟩, List.mem_of_getElem? (i := 1232) (by decide +kernel), List.mem_of_getElem? (i := 1629) (by decide +kernel), List.mem_of_getElem? (i := 1630) (by decide +kernel)⟩
theorem lw_p58 : lw_okq (⟨"RoutePlannerModel", "keys", "(Z)V"⟩, 81) := ⟨⟨by decide +kernel, by decide +kernel⟩, List.mem_of_getElem? (i := 1232) (by decide +kernel), List.mem_of_getElem? (i := 1633) (by decide +kernel), List.mem_of_getElem? (i := 1634) (by decide +kernel)⟩
theorem lw_p59 : lw_okq (⟨"RoutePlannerModel", "inOrder", "()V"⟩, 81) := ⟨⟨by decide +kernel, by decide +kernel⟩, List.mem_of_getElem? (i := 1232) (by decide +kernel), List.mem_of_getElem? (i := 1637) (by decide +kernel), List.mem_of_getElem? (i := 1638) (by decide +kernel)⟩
theorem lw_p60 : lw_okq (⟨"RoutePlannerModel", "settles", "(I)V"⟩, 81) := ⟨⟨by decide +kernel, by decide +kernel⟩, List.mem_of_getElem? (i := 1232) (by decide +kernel), List.mem_of_getElem? (i := 1641) (by decide +kernel), List.mem_of_getElem? (i := 1642) (by decide +kernel)⟩
theorem lw_p61 : lw_okq (⟨"RoutePlannerModel", "inconsistentArc", "()I"⟩, 81) := ⟨⟨by decide +kernel, by decide +kernel⟩, List.mem_of_getElem? (i := 1232) (by decide +kernel), List.mem_of_getElem? (i := 1649) (by decide +kernel), List.mem_of_getElem? (i := 1650) (by decide +kernel)⟩
theorem lw_p62 : lw_okq (⟨"RoutePlannerModel", "upTo", "(I)I"⟩, 81) := ⟨⟨by decide +kernel, by decide +kernel⟩, List.mem_of_getElem? (i := 1232) (by decide +kernel), List.mem_of_getElem? (i := 1653) (by decide +kernel), List.mem_of_getElem? (i := 1654) (by decide +kernel)⟩
theorem lw_p63 : lw_okq (⟨"RoutePlannerModel", "marksFar", "()V"⟩, 81) := ⟨⟨by decide +kernel, by decide +kernel⟩, List.mem_of_getElem? (i := 1232) (by decide +kernel), List.mem_of_getElem? (i := 1665) (by decide +kernel), List.mem_of_getElem? (i := 1666) (by decide +kernel)⟩
def lw_privs_4 : List (MethodName × Nat) := [(⟨"RoutePlannerModel", "nodeWord", "(I)Z"⟩, 81), (⟨"RoutePlannerModel", "goes", "(IIJ)V"⟩, 81), (⟨"RoutePlannerModel", "none", "()V"⟩, 81), (⟨"RoutePlannerModel", "changes", "()V"⟩, 81), (⟨"RoutePlannerModel", "isNode", "(I)Z"⟩, 81), (⟨"RoutePlannerModel", "isArc", "(I)Z"⟩, 81), (⟨"RoutePlannerModel", "distances", "(IZ)V"⟩, 81), (⟨"RoutePlannerModel", "edgesOfArcs", "()V"⟩, 81), (⟨"RoutePlannerModel", "waysFrom", "(IZ)V"⟩, 81), (⟨"RoutePlannerModel", "throwsNow", "(I)I"⟩, 81), (⟨"RoutePlannerModel", "keys", "(Z)V"⟩, 81), (⟨"RoutePlannerModel", "inOrder", "()V"⟩, 81), (⟨"RoutePlannerModel", "settles", "(I)V"⟩, 81), (⟨"RoutePlannerModel", "inconsistentArc", "()I"⟩, 81), (⟨"RoutePlannerModel", "upTo", "(I)I"⟩, 81), (⟨"RoutePlannerModel", "marksFar", "()V"⟩, 81)]
theorem lw_r4 : ∀ q ∈ lw_privs_4, lw_okq q := List.forall_mem_cons.mpr ⟨lw_p48, List.forall_mem_cons.mpr ⟨lw_p49, List.forall_mem_cons.mpr ⟨lw_p50, List.forall_mem_cons.mpr ⟨lw_p51, List.forall_mem_cons.mpr ⟨lw_p52, List.forall_mem_cons.mpr ⟨lw_p53, List.forall_mem_cons.mpr ⟨lw_p54, List.forall_mem_cons.mpr ⟨lw_p55, List.forall_mem_cons.mpr ⟨lw_p56, List.forall_mem_cons.mpr ⟨lw_p57, List.forall_mem_cons.mpr ⟨lw_p58, List.forall_mem_cons.mpr ⟨lw_p59, List.forall_mem_cons.mpr ⟨lw_p60, List.forall_mem_cons.mpr ⟨lw_p61, List.forall_mem_cons.mpr ⟨lw_p62, List.forall_mem_cons.mpr ⟨lw_p63, fun _ h => absurd h List.not_mem_nil⟩⟩⟩⟩⟩⟩⟩⟩⟩⟩⟩⟩⟩⟩⟩⟩
theorem lw_p64 : lw_okq (⟨"RoutePlannerModel", "towards", "(II)J"⟩, 81) := ⟨⟨by decide +kernel, by decide +kernel⟩, List.mem_of_getElem? (i := 1232) (by decide +kernel), List.mem_of_getElem? (i := 1669) (by decide +kernel), List.mem_of_getElem? (i := 1670) (by decide +kernel)⟩
theorem lw_p65 : lw_okq (⟨"RoutePlannerModel", "isSettled", "(I)Z"⟩, 81) := ⟨⟨by decide +kernel, by decide +kernel⟩, List.mem_of_getElem? (i := 1232) (by decide +kernel), List.mem_of_getElem? (i := 1677) (by decide +kernel), List.mem_of_getElem? (i := 1678) (by decide +kernel)⟩
theorem lw_p66 : lw_okq (⟨"RoutePlannerModel", "begins", "()V"⟩, 81) := ⟨⟨by decide +kernel, by decide +kernel⟩, List.mem_of_getElem? (i := 1232) (by decide +kernel), List.mem_of_getElem? (i := 1720) (by decide +kernel), List.mem_of_getElem? (i := 1721) (by decide +kernel)⟩
theorem lw_p67 : lw_okq (⟨"RoutePlannerModel", "value", "(I)I"⟩, 81) := ⟨⟨by decide +kernel, by decide +kernel⟩, List.mem_of_getElem? (i := 1232) (by decide +kernel), List.mem_of_getElem? (i := 1724) (by decide +kernel), List.mem_of_getElem? (i := 1725) (by decide +kernel)⟩
theorem lw_p68 : lw_okq (⟨"RoutePlannerModel", "shortcuts", "(I)I"⟩, 81) := ⟨⟨by decide +kernel, by decide +kernel⟩, List.mem_of_getElem? (i := 1232) (by decide +kernel), List.mem_of_getElem? (i := 1728) (by decide +kernel), List.mem_of_getElem? (i := 1729) (by decide +kernel)⟩
theorem lw_p69 : lw_okq (⟨"RoutePlannerModel", "contract", "(II)I"⟩, 81) := ⟨⟨by decide +kernel, by decide +kernel⟩, List.mem_of_getElem? (i := 1232) (by decide +kernel), List.mem_of_getElem? (i := 1732) (by decide +kernel), List.mem_of_getElem? (i := 1733) (by decide +kernel)⟩
theorem lw_p70 : lw_okq (⟨"RoutePlannerModel", "ends", "(I)I"⟩, 81) := ⟨⟨by decide +kernel, by decide +kernel⟩, List.mem_of_getElem? (i := 1232) (by decide +kernel), List.mem_of_getElem? (i := 1736) (by decide +kernel), List.mem_of_getElem? (i := 1737) (by decide +kernel)⟩
theorem lw_p71 : lw_okq (⟨"RoutePlannerModel", "edgeAt", "(IZI)I"⟩, 81) := ⟨⟨by decide +kernel, by decide +kernel⟩, List.mem_of_getElem? (i := 1232) (by decide +kernel), List.mem_of_getElem? (i := 1764) (by decide +kernel), List.mem_of_getElem? (i := 1765) (by decide +kernel)⟩
theorem lw_p72 : lw_okq (⟨"RoutePlannerModel", "goesUp", "()V"⟩, 81) := ⟨⟨by decide +kernel, by decide +kernel⟩, List.mem_of_getElem? (i := 1232) (by decide +kernel), List.mem_of_getElem? (i := 1776) (by decide +kernel), List.mem_of_getElem? (i := 1777) (by decide +kernel)⟩
theorem lw_p73 : lw_okq (⟨"RoutePlannerModel", "relaxes", "(III)V"⟩, 81) := ⟨⟨by decide +kernel, by decide +kernel⟩, List.mem_of_getElem? (i := 1232) (by decide +kernel), List.mem_of_getElem? (i := 1780) (by decide +kernel), List.mem_of_getElem? (i := 1781) (by decide +kernel)⟩
theorem lw_p74 : lw_okq (⟨"RoutePlannerModel", "goesDown", "()V"⟩, 81) := ⟨⟨by decide +kernel, by decide +kernel⟩, List.mem_of_getElem? (i := 1232) (by decide +kernel), List.mem_of_getElem? (i := 1784) (by decide +kernel), List.mem_of_getElem? (i := 1785) (by decide +kernel)⟩
theorem lw_p75 : lw_okq (⟨"RoutePlannerModel", "walks", "(II)V"⟩, 81) := ⟨⟨by decide +kernel, by decide +kernel⟩, List.mem_of_getElem? (i := 1232) (by decide +kernel), List.mem_of_getElem? (i := 1788) (by decide +kernel), List.mem_of_getElem? (i := 1789) (by decide +kernel)⟩
theorem lw_p76 : lw_okq (⟨"RoutePlannerModel", "unpacks", "(II)V"⟩, 81) := ⟨⟨by decide +kernel, by decide +kernel⟩, List.mem_of_getElem? (i := 1232) (by decide +kernel), List.mem_of_getElem? (i := 1792) (by decide +kernel), List.mem_of_getElem? (i := 1793) (by decide +kernel)⟩
def lw_privs_5 : List (MethodName × Nat) := [(⟨"RoutePlannerModel", "towards", "(II)J"⟩, 81), (⟨"RoutePlannerModel", "isSettled", "(I)Z"⟩, 81), (⟨"RoutePlannerModel", "begins", "()V"⟩, 81), (⟨"RoutePlannerModel", "value", "(I)I"⟩, 81), (⟨"RoutePlannerModel", "shortcuts", "(I)I"⟩, 81), (⟨"RoutePlannerModel", "contract", "(II)I"⟩, 81), (⟨"RoutePlannerModel", "ends", "(I)I"⟩, 81), (⟨"RoutePlannerModel", "edgeAt", "(IZI)I"⟩, 81), (⟨"RoutePlannerModel", "goesUp", "()V"⟩, 81), (⟨"RoutePlannerModel", "relaxes", "(III)V"⟩, 81), (⟨"RoutePlannerModel", "goesDown", "()V"⟩, 81), (⟨"RoutePlannerModel", "walks", "(II)V"⟩, 81), (⟨"RoutePlannerModel", "unpacks", "(II)V"⟩, 81)]
theorem lw_r5 : ∀ q ∈ lw_privs_5, lw_okq q := List.forall_mem_cons.mpr ⟨lw_p64, List.forall_mem_cons.mpr ⟨lw_p65, List.forall_mem_cons.mpr ⟨lw_p66, List.forall_mem_cons.mpr ⟨lw_p67, List.forall_mem_cons.mpr ⟨lw_p68, List.forall_mem_cons.mpr ⟨lw_p69, List.forall_mem_cons.mpr ⟨lw_p70, List.forall_mem_cons.mpr ⟨lw_p71, List.forall_mem_cons.mpr ⟨lw_p72, List.forall_mem_cons.mpr ⟨lw_p73, List.forall_mem_cons.mpr ⟨lw_p74, List.forall_mem_cons.mpr ⟨lw_p75, List.forall_mem_cons.mpr ⟨lw_p76, fun _ h => absurd h List.not_mem_nil⟩⟩⟩⟩⟩⟩⟩⟩⟩⟩⟩⟩⟩
def lw_privs : List (MethodName × Nat) := lw_privs_1 ++ (lw_privs_2 ++ (lw_privs_3 ++ (lw_privs_4 ++ (lw_privs_5))))
def lw_tbl : List Cond := k2_sels lw_privs ++ tables_1
theorem lw_privs_ok : ∀ q ∈ lw_privs, lw_okq q := by
  show ∀ q ∈ lw_privs_1 ++ (lw_privs_2 ++ (lw_privs_3 ++ (lw_privs_4 ++ (lw_privs_5)))), lw_okq q
  exact List.forall_mem_append.mpr ⟨lw_r1, List.forall_mem_append.mpr ⟨lw_r2, List.forall_mem_append.mpr ⟨lw_r3, List.forall_mem_append.mpr ⟨lw_r4, lw_r5⟩⟩⟩⟩
end
section
/-! ===== BEGIN exceptions that leave a method, and their catching by the caller (launches without stack traces) ===== -/
section VXA
/-! The laws vx_back, vx_callV, vx_callS, vx_callSW, vx_throw0, vx_throwS follow proofs of the library, with one case more: JvmDerived/Free/Laws.lean (Back.of_free), Shelf42/LK1.lean (callV, callS), Shelf/KitTraced.lean (throwNew0V, throwNewS). -/
/-- where a method has thrown q: the class by its name, the cell, what was written, the world -/
def vx_T (XC : String → State → State → Prop) (st : State) (q : Addr) (t : State) (mc ms : Nat) (free : Addr → Prop) : Prop :=
  ∃ (E : String) (ce : Cell) (L : List Loc), XC E st t ∧ t.heap[q]? = some ce ∧ ce.vm = .none ∧ st.vm.findClass E = some ce.cls ∧ st.WarmedH t.vm ∧ st.sameButNew ({ t with vm := st.vm } : State) L mc ms ∧ ∀ z ∈ L, free z.base
def vx_Q (Qc : Array Value → State → Outcome → State → Prop) (XC : String → State → State → Prop) (mc ms : Nat) (free : Addr → Prop) : Array Value → State → Outcome → State → Prop := fun a st o t =>
  (Qc a st o t ∧ ∃ L, FrameEnd st o t L mc ms ∧ ∀ q ∈ L, free q.base) ∨ ∃ q, o = .threw q ∧ vx_T XC st q t mc ms free
/-- a callee that returns or throws -/
def vx_Met (l : Launch) (y : MethodName) (ws : List Cond) (rm : Room) (Pc : Array Value → State → Prop) (Qc : Array Value → State → Outcome → State → Prop) (XC : String → State → State → Prop) (mc ms : Nat) (free : Addr → Prop) : Prop :=
  MetFree l y (headSpec ws rm) Pc (fun _ _ _ _ _ => True) (vx_Q Qc XC mc ms free)
def vx_Post (XC : String → State → State → Prop) (mc ms : Nat) (free : Addr → Prop) : Pt → Array Value → Addr → Pt → Prop := fun A a q B =>
  ∃ (g : JFrame) (mk : MethodId) (t : State) (L : List Loc) (E : String) (ce : Cell), B.U.heap = t.heap ∧ B.U.vm = t.vm ∧ XC E (A.U.calling g mk a) t ∧ t.heap[q]? = some ce ∧ ce.vm = .none ∧ A.U.vm.findClass E = some ce.cls ∧ B.locs = A.locs ++ L ∧ (∀ z ∈ L, free z.base) ∧ B.cells = A.cells + mc ∧ B.slots = A.slots + ms
def vx_Back (l : Launch) (R : Room) (p : Program) (e : Env) (below : List Frame) (s : State) (sargs : Array Value) (y : MethodName) (len W9 : Nat)
    (Pre : Pt → Array Value → Prop) (Post : Pt → Array Value → Option Value → Pt → Prop) (PostX : Pt → Array Value → Addr → Pt → Prop) : Prop :=
  ∀ (m : MethodId) (meth : Method) (c : Code) (A : Pt) (g : JFrame) (ig : Instr) (mk : MethodId) (a : Array Value),
    Stand p l e R s m sargs below meth c A.U A.locs A.cells A.slots → g.method = m → g.locals.size = c.maxLocals → decode c.code g.pc = .ok (ig, len) →
    2 * g.monitorRoom + (g.stack.map fun v => v.category).sum ≤ W9 → A.U.methodNamed? y = some mk → Pre A a →
    (∃ (v : Option Value) (B : Pt), Stand p l e R s m sargs below meth c B.U B.locs B.cells B.slots ∧ Post A a v B ∧
      Steps p.tables e below (doInvoke e (A.U.setTop g) [] mk a).1 (B.U.setTop { g with pc := g.pc + len, stack := v.toList ++ g.stack })) ∨
    (∃ (q : Addr) (B : Pt), Stand p l e R s m sargs below meth c B.U B.locs B.cells B.slots ∧ PostX A a q B ∧
      Steps p.tables e below (doInvoke e (A.U.setTop g) [] mk a).1 ((B.U.setTop g).pushFrame (.throwing q)))
section Payer
variable {l : Launch} {R : Room} {p : Program} {e : Env} {below : List Frame} {s : State} {sargs : Array Value} {y : MethodName} {len W9 : Nat}
theorem vx_back {ws : List Cond} {rm : Room} {Pc : Array Value → State → Prop} {Qc : Array Value → State → Outcome → State → Prop} {XC : String → State → State → Prop} {mc ms : Nat} {free : Addr → Prop} {bytes : ByteArray} {maxL : Nat} {ret : Option FieldType}
    (hM : vx_Met l y ws rm Pc Qc XC mc ms free) (hblind : FrameBlind Pc) (hrc : rm.cells = mc) (hrs : rm.slots = ms)
    (hframes : rm.frames + 1 ≤ R.frames) (hlocals : W9 + (maxL + 11) + rm.locals ≤ R.locals)
    (hws : ∀ w ∈ ws, ∀ a' U, s.WarmedH U.vm → w.before a' U = true) (hcode : Cond.code y bytes maxL ret ∈ ws) (hinit : ∀ a' U, s.WarmedH U.vm → (Cond.initialized y.cls).before a' U = true) :
    vx_Back l R p e below s sargs y len W9 (PreOf R mc ms Pc) (PostOf Qc mc ms free) (vx_Post XC mc ms free) := by
  intro m meth c A g ig mk a X hg hsize hdg hW hn hp
  have h1 : (headSpec ws rm).pre.before a A.U = true := atoms_intro fun w hw => hws w hw _ _ X.warmed
  have h2 : (Cond.code y bytes maxL ret).before a A.U = true := hws _ hcode _ _ X.warmed
  have h3 : (Cond.initialized y.cls).before a A.U = true := hinit _ _ X.warmed
  have h4 : A.cells + (headSpec ws rm).room.cells ≤ R.cells := by rw [show (headSpec ws rm).room.cells = mc from hrc]; exact hp.1
  have h5 : A.slots + (headSpec ws rm).room.slots ≤ R.slots := by rw [show (headSpec ws rm).room.slots = ms from hrs]; exact hp.2.1
  have hPc : Pc a (A.U.calling g mk a) := hblind _ _ _ _ hp.2.2
  obtain ⟨U, Ls, c0, s0⟩ := A
  dsimp only [Pt.U, Pt.locs, Pt.cells, Pt.slots] at h1 h2 h3 h4 h5 X hn hPc ⊢
  obtain ⟨methY, cY, hmY, hcY, -, hlY, -, -, -, -⟩ := Cond.code_spec hn h2
  obtain ⟨kY, hkY, -⟩ := className_of_methodNamed hn
  have hinitY : kY.init = .initialized := Cond.initialized_spec (findClass_of_methodNamed hn) hkY h3
  have h : At U g.method c below := by rw [hg]; exact X.here
  have hlocals9 : W9 + (maxL + 11) + (headSpec ws rm).room.locals ≤ R.locals := hlocals
  have happ : (headSpec ws rm).appliesLoose y e.platform (U.calling g mk a) = true :=
    Spec.appliesLoose_calling (g := g) h hdg hn hkY hinitY
      (X.room_calling (g := g) (R' := (headSpec ws rm).room) hsize hmY hcY hframes (by rw [hlY]; omega) h4 h5) h1
  obtain ⟨mid, hmid⟩ := h.above
  have hfr : (U.setTop g).frames = (.java g :: mid) ++ below := by rw [State.frames_setTop' g h.top, hmid]; rfl
  obtain ⟨o, s₂, hsteps, -, hend, hq⟩ := Steps.callFree hM p X.admits X.cas X.clock (acts := []) hfr happ hPc trivial
  have hq' : vx_Q Qc XC mc ms free a (U.calling g mk a) o s₂ := hq
  rw [State.frames_setTop' g h.top] at hend
  obtain ⟨g₀, hg0⟩ := Option.isSome_iff_exists.mp h.top
  obtain ⟨r, hr⟩ := State.topJava?_eq_some.mp hg0
  have hr' : (({ U with heap := s₂.heap, slotsUsed := s₂.slotsUsed } : State).setVm s₂.vm).frames = .java g₀ :: r := hr
  rcases hq' with ⟨hqc, L, hfe, hL⟩ | ⟨q, rfl, E, ce, L, hx, hce, hcv, hcl, hW₂, hsm, hL⟩
  · obtain ⟨⟨v, rfl⟩, hW₂, e2, q2, q3, q4, q5, q6⟩ := id hfe
    have e3 : s₂ = ({ (U.calling g mk a).setFrames s₂.frames with heap := s₂.heap, slotsUsed := s₂.slotsUsed } : State).setVm s₂.vm := by
      have : s₂ = ({ s₂ with vm := (U.calling g mk a).vm } : State).setVm s₂.vm := rfl
      rw [e2] at this
      exact this
    obtain ⟨c₂, i₂, len₂, hc₂, hd₂, hf₂⟩ := hend
    have hW' : U.WarmedH s₂.vm := hW₂
    have hcc : c₂ = c := by
      have h1 : s₂.code? g.method = U.code? g.method := by
        rw [State.code?_eq, State.code?_eq, hW'.alike.method?]
      exact Option.some.inj (hc₂.symm.trans (h1.trans h.code))
    subst hcc
    have hlen : len₂ = len := by rw [hdg] at hd₂; cases hd₂; rfl
    subst hlen
    have hs₂ : s₂ = (({ U with heap := s₂.heap, slotsUsed := s₂.slotsUsed } : State).setVm s₂.vm).setTop { g with pc := g.pc + len₂, stack := v.toList ++ g.stack } := by
      refine e3.trans ?_
      rw [hf₂, State.calling_eq h.top, State.setFrames_setFrames, State.setTop_of_frames _ hr', hr]
      rfl
    have hsame : U.sameButNew ({ U with heap := s₂.heap, slotsUsed := s₂.slotsUsed } : State) L mc ms := by
      refine ⟨?_, q2, q3, q4, q5, q6⟩
      obtain ⟨t, ht, -⟩ := State.frames_cons hr
      show ({ U with heap := s₂.heap, slotsUsed := s₂.slotsUsed } : State) = { U.setFrames U.frames with heap := s₂.heap, slotsUsed := s₂.slotsUsed }
      rw [State.setFrames_self ht]
    subst hg
    refine Or.inl ⟨v, ⟨(({ U with heap := s₂.heap, slotsUsed := s₂.slotsUsed } : State).setVm s₂.vm), Ls ++ L, c0 + mc, s0 + ms⟩,
      ⟨X.admits, X.cas, X.clock, X.frames, X.room, X.hears, X.method, X.code, (X.here.setHeapUsed s₂.heap s₂.slotsUsed).setVm hW'.alike, X.tail, State.WarmedH.trans X.warmed hW', X.limits, X.bytes, X.same.trans (hsame.setVm s.vm)⟩,
      ⟨g, mk, s₂, L, rfl, rfl, hqc, rfl, hL, rfl, rfl⟩, ?_⟩
    show Steps p.tables e below _ ((({ U with heap := s₂.heap, slotsUsed := s₂.slotsUsed } : State).setVm s₂.vm).setTop { g with pc := g.pc + len₂, stack := v.toList ++ g.stack })
    rw [← hs₂]
    exact hsteps
  · obtain ⟨e2, q2, q3, q4, q5, q6⟩ := id hsm
    have e3 : s₂ = ({ (U.calling g mk a).setFrames s₂.frames with heap := s₂.heap, slotsUsed := s₂.slotsUsed } : State).setVm s₂.vm := by
      have : s₂ = ({ s₂ with vm := (U.calling g mk a).vm } : State).setVm s₂.vm := rfl
      rw [e2] at this
      exact this
    have hf₂ : s₂.frames = .throwing q :: .java g :: U.frames.tail := hend
    have hW' : U.WarmedH s₂.vm := hW₂
    have hs₂ : s₂ = ((({ U with heap := s₂.heap, slotsUsed := s₂.slotsUsed } : State).setVm s₂.vm).setTop g).pushFrame (.throwing q) := by
      refine e3.trans ?_
      rw [hf₂, State.calling_eq h.top, State.setFrames_setFrames, State.pushFrame, State.frames_setTop _ hr', State.setTop_of_frames _ hr', State.setFrames_setFrames, hr]
      rfl
    have hsame : U.sameButNew ({ U with heap := s₂.heap, slotsUsed := s₂.slotsUsed } : State) L mc ms := by
      refine ⟨?_, q2, q3, q4, q5, q6⟩
      obtain ⟨t, ht, -⟩ := State.frames_cons hr
      show ({ U with heap := s₂.heap, slotsUsed := s₂.slotsUsed } : State) = { U.setFrames U.frames with heap := s₂.heap, slotsUsed := s₂.slotsUsed }
      rw [State.setFrames_self ht]
    subst hg
    refine Or.inr ⟨q, ⟨(({ U with heap := s₂.heap, slotsUsed := s₂.slotsUsed } : State).setVm s₂.vm), Ls ++ L, c0 + mc, s0 + ms⟩,
      ⟨X.admits, X.cas, X.clock, X.frames, X.room, X.hears, X.method, X.code, (X.here.setHeapUsed s₂.heap s₂.slotsUsed).setVm hW'.alike, X.tail, State.WarmedH.trans X.warmed hW', X.limits, X.bytes, X.same.trans (hsame.setVm s.vm)⟩,
      ⟨g, mk, s₂, L, E, ce, rfl, rfl, hx, hce, hcv, hcl, rfl, hL, rfl, rfl⟩, ?_⟩
    show Steps p.tables e below _ (((({ U with heap := s₂.heap, slotsUsed := s₂.slotsUsed } : State).setVm s₂.vm).setTop g).pushFrame (.throwing q))
    rw [← hs₂]
    exact hsteps
end Payer
section Calls
variable {p : Program} {l : Launch} {e : Env} {R : Room} {s : State} {m : MethodId} {args : Array Value} {below : List Frame} {meth : Method} {c : Code} {T : State} {locs : List Loc} {cells slots : Nat}
theorem vx_callV (X : Stand p l e R s m args below meth c T locs cells slots) (hexec : p.tables.exec = Jvm.exec) {own C : String} {index : Nat} {y : MethodName} {bytes : ByteArray} {maxL : Nat} {ret : Option FieldType}
    (hown : s.vm.findClass own = some m.cls) (hlink : (Cond.methodLink own index y).before args s = true) (hinst : (Cond.instanceMethod y).before args s = true) (hsel : (Cond.selects C y y).before args s = true)
    (hcode : (Cond.code y bytes maxL ret).before args s = true) (hy : y.cls ≠ "java/lang/invoke/MethodHandle" ∧ y.cls ≠ "java/lang/invoke/VarHandle")
    {W9 : Nat} {Pre : Pt → Array Value → Prop} {Post : Pt → Array Value → Option Value → Pt → Prop} {PostX : Pt → Array Value → Addr → Pt → Prop} (hK : vx_Back l R p e below s args y 3 W9 Pre Post PostX)
    {b : Addr} {cellB : Cell} (hcell : T.heap[b]? = some cellB) (hobj : cellB.vm.isStatics = false) (hcls : s.vm.findClass C = some cellB.cls)
    {g : JFrame} (hg : g.method = m) (hsize : g.locals.size = c.maxLocals) {argsL rest : List Value} (hlen : ∀ sig, parseMethodDescriptor y.desc = some sig → argsL.length = sig.parameters.length)
    (hstack : g.stack = argsL.reverse ++ .ref b :: rest) (hW : 2 * g.monitorRoom + (rest.map fun v => v.category).sum ≤ W9) (hdg : decode c.code g.pc = .ok (.invokevirtual index, 3))
    (hpre : ∀ vm₁, s.WarmedH vm₁ → Pre ⟨T.setVm vm₁, locs, cells, slots⟩ (Value.ref b :: argsL).toArray) :
    (∃ (v : Option Value) (vm₁ : Vm) (B : Pt), s.WarmedH vm₁ ∧ Stand p l e R s m args below meth c B.U B.locs B.cells B.slots ∧ Post ⟨T.setVm vm₁, locs, cells, slots⟩ (Value.ref b :: argsL).toArray v B ∧
      ∀ target, Steps p.tables e below (B.U.setTop { g with pc := g.pc + 3, stack := v.toList ++ rest }) target → Steps p.tables e below (T.setTop g) target) ∨
    (∃ (q : Addr) (vm₁ : Vm) (B : Pt), s.WarmedH vm₁ ∧ Stand p l e R s m args below meth c B.U B.locs B.cells B.slots ∧ PostX ⟨T.setVm vm₁, locs, cells, slots⟩ (Value.ref b :: argsL).toArray q B ∧
      Steps p.tables e below (T.setTop g) ((B.U.setTop { g with stack := rest }).pushFrame (.throwing q))) := by
  obtain ⟨mk, methM, hnamed, hmethM, hstM, habM⟩ := Cond.instanceMethod_spec hinst
  obtain ⟨methM', cM, hmethM', -, -, -, -, -, -, hsigM⟩ := Cond.code_spec hnamed hcode
  cases hmethM.symm.trans hmethM'
  obtain ⟨c2, r2, m2, q1, q2, q3, q4, kP, hkP, hkPi⟩ := Cond.selects_spec hsel
  cases hcls.symm.trans q1
  cases (State.methodFound?_of_named hnamed hy).symm.trans q2
  cases hnamed.symm.trans q3
  have hselP : selectMethod e.platform s.vm cellB.cls mk = .method mk := by rw [Launch.admits_selectMethod X.admits]; exact q4
  obtain ⟨vm₁, X₁, hstep₁⟩ := X.invokevirtual hexec hown hlink hnamed hmethM hstM hkP hkPi hy (a := b) (cell := cellB) hcell
    (fun z h => by rw [h] at hobj; cases hobj) hselP hmethM habM hkP hkPi (g := g) hg (argsL := argsL) (rest := rest) (hlen _ hsigM) hstack hdg
  rcases hK m meth c ⟨T.setVm vm₁, locs, cells, slots⟩ { g with stack := rest } (.invokevirtual index) mk (Value.ref b :: argsL).toArray X₁ hg hsize hdg hW (X₁.named hnamed) (hpre vm₁ X₁.warmed) with ⟨v, B, X', hpost, hsteps⟩ | ⟨q, B, X', hpost, hsteps⟩
  · exact Or.inl ⟨v, vm₁, B, X₁.warmed, X', hpost, fun target h => hstep₁ _ fun acts => by rw [doInvoke_state]; exact hsteps.trans h⟩
  · exact Or.inr ⟨q, vm₁, B, X₁.warmed, X', hpost, hstep₁ _ fun acts => by rw [doInvoke_state]; exact hsteps⟩
theorem vx_callS (X : Stand p l e R s m args below meth c T locs cells slots) (hexec : p.tables.exec = Jvm.exec) {own : String} {index : Nat} {y : MethodName} {bytes : ByteArray} {maxL : Nat} {ret : Option FieldType}
    (hown : s.vm.findClass own = some m.cls) (hlink : (Cond.methodLink own index y).before args s = true) (hstat : (Cond.static y).before args s = true) (hinit : (Cond.initialized y.cls).before args s = true)
    (hcode : (Cond.code y bytes maxL ret).before args s = true) (hy : y.cls ≠ "java/lang/invoke/MethodHandle" ∧ y.cls ≠ "java/lang/invoke/VarHandle")
    {W9 : Nat} {Pre : Pt → Array Value → Prop} {Post : Pt → Array Value → Option Value → Pt → Prop} {PostX : Pt → Array Value → Addr → Pt → Prop} (hK : vx_Back l R p e below s args y 3 W9 Pre Post PostX)
    {g : JFrame} (hg : g.method = m) (hsize : g.locals.size = c.maxLocals) {argsL rest : List Value} (hlen : ∀ sig, parseMethodDescriptor y.desc = some sig → argsL.length = sig.parameters.length)
    (hstack : g.stack = argsL.reverse ++ rest) (hW : 2 * g.monitorRoom + (rest.map fun v => v.category).sum ≤ W9) (hdg : decode c.code g.pc = .ok (.invokestatic index, 3))
    (hpre : ∀ vm₁, s.WarmedH vm₁ → Pre ⟨T.setVm vm₁, locs, cells, slots⟩ argsL.toArray) :
    (∃ (v : Option Value) (vm₁ : Vm) (B : Pt), s.WarmedH vm₁ ∧ Stand p l e R s m args below meth c B.U B.locs B.cells B.slots ∧ Post ⟨T.setVm vm₁, locs, cells, slots⟩ argsL.toArray v B ∧
      ∀ target, Steps p.tables e below (B.U.setTop { g with pc := g.pc + 3, stack := v.toList ++ rest }) target → Steps p.tables e below (T.setTop g) target) ∨
    (∃ (q : Addr) (vm₁ : Vm) (B : Pt), s.WarmedH vm₁ ∧ Stand p l e R s m args below meth c B.U B.locs B.cells B.slots ∧ PostX ⟨T.setVm vm₁, locs, cells, slots⟩ argsL.toArray q B ∧
      Steps p.tables e below (T.setTop g) ((B.U.setTop { g with stack := rest }).pushFrame (.throwing q))) := by
  obtain ⟨mk, hnamed⟩ := Cond.code_named hcode
  obtain ⟨methM, cM, hmethM, -, -, -, -, -, -, hsigM⟩ := Cond.code_spec hnamed hcode
  have hstatic : methM.isStatic = true := Cond.static_spec hnamed hmethM hstat
  obtain ⟨kP, hkP, -⟩ := className_of_methodNamed hnamed
  have hinitP : kP.init = .initialized := Cond.initialized_spec (findClass_of_methodNamed hnamed) hkP hinit
  obtain ⟨vm₁, X₁, hstep₁⟩ := X.invokestatic hexec hown hlink hnamed hmethM hstatic hkP hinitP hy (g := g) hg (argsL := argsL) (rest := rest) (hlen _ hsigM) hstack hdg
  rcases hK m meth c ⟨T.setVm vm₁, locs, cells, slots⟩ { g with stack := rest } (.invokestatic index) mk argsL.toArray X₁ hg hsize hdg hW (X₁.named hnamed) (hpre vm₁ X₁.warmed) with ⟨v, B, X', hpost, hsteps⟩ | ⟨q, B, X', hpost, hsteps⟩
  · exact Or.inl ⟨v, vm₁, B, X₁.warmed, X', hpost, fun target h => hstep₁ _ fun acts => by rw [doInvoke_state]; exact hsteps.trans h⟩
  · exact Or.inr ⟨q, vm₁, B, X₁.warmed, X', hpost, hstep₁ _ fun acts => by rw [doInvoke_state]; exact hsteps⟩
end Calls
theorem vx_cls {s : State} {T : State} {vm₁ : Vm} {E : String} {k : ClassId} (hW : s.WarmedH vm₁) (h : (T.setVm vm₁).vm.findClass E = some k) : s.vm.findClass E = some k := by
  have h1 : vm₁.findClass E = some k := h
  rw [hW.alike.findClass] at h1
  exact h1
/-- the method's frame g, with q thrown over it -/
def vx_W (p : Program) (l : Launch) (e : Env) (R : Room) (s : State) (m : MethodId) (args : Array Value) (below : List Frame) (meth : Method) (c : Code) (H : Heap) (locs : List Loc) (cells slots : Nat) (Q : State → Prop) (g : JFrame) (q : Addr) : Prop :=
  ∀ T : State, T.heap = H → Stand p l e R s m args below meth c T locs cells slots → ∃ t, Steps p.tables e below ((T.setTop g).pushFrame (.throwing q)) t ∧ Q t
def vx_Run (p : Program) (l : Launch) (e : Env) (R : Room) (s : State) (m : MethodId) (args : Array Value) (below : List Frame) (meth : Method) (c : Code) (H : Heap) (locs : List Loc) (cells slots mc ms : Nat) (g : JFrame) (rest : List Value) (Qa : State → Outcome → State → Prop) (XC : String → State → State → Prop) (free : Addr → Prop) : Prop :=
  ∀ T : State, T.heap = H → Stand p l e R s m args below meth c T locs cells slots →
    (∃ (v : Option Value) (st₀ t T' : State) (L : List Loc), st₀.heap = H ∧ Stand p l e R s m args below meth c T' (locs ++ L) (cells + mc) (slots + ms) ∧ (∀ q ∈ L, free q.base) ∧ T'.heap = t.heap ∧ T'.vm = t.vm ∧ Qa st₀ (.returned v) t ∧
      Goes p e below T g T' { g with pc := g.pc + 3, stack := v.toList ++ rest }) ∨
    (∃ (q : Addr) (st₀ t T' : State) (L : List Loc) (E : String) (ce : Cell), st₀.heap = H ∧ Stand p l e R s m args below meth c T' (locs ++ L) (cells + mc) (slots + ms) ∧ (∀ z ∈ L, free z.base) ∧ T'.heap = t.heap ∧ T'.vm = t.vm ∧ XC E st₀ t ∧ t.heap[q]? = some ce ∧ ce.vm = .none ∧ s.vm.findClass E = some ce.cls ∧
      Steps p.tables e below (T.setTop g) ((T'.setTop { g with stack := rest }).pushFrame (.throwing q)))
def vx_X {S : Type} (px : S → Prop) (B : String → S → State → Prop) (A : Nat → Prop) : String → State → State → Prop := fun E st t => ∃ u : S, px u ∧ B E u t ∧ va_F A st t
section Runs
variable {p : Program} {l : Launch} {e : Env} {R : Room} {s : State} {m : MethodId} {args : Array Value} {below : List Frame} {meth : Method} {c : Code} {H : Heap} {locs : List Loc} {cells slots : Nat}
variable {y : MethodName} {bytes cc : ByteArray} {maxL nL mc ms n index : Nat} {ret : Option FieldType} {ws : List Cond} {rm : Room} {Pc : Array Value → State → Prop} {Qc : Array Value → State → Outcome → State → Prop} {XC : String → State → State → Prop} {free : Addr → Prop} {Ts : List Cond} {own C : String} {b : Addr} {As rest : List Value} {g : JFrame}
theorem vx_callBack (cb : CallB R s args own index y bytes maxL ret ws rm mc ms n) (hM : vx_Met l y ws rm Pc Qc XC mc ms free) (hbl : FrameBlind Pc) : vx_Back l R p e below s args y 3 8 (PreOf R mc ms Pc) (PostOf Qc mc ms free) (vx_Post XC mc ms free) := by
  obtain ⟨hrc, hrs, hfr, hlo, hws, hcw, -, hini, -⟩ := cb
  exact vx_back (bytes := bytes) (maxL := maxL) (ret := ret) hM hbl hrc hrs hfr hlo hws hcw (fun a' U hW => word_at hW (Or.inl (by first | rfl | simp [Cond.onTables, Cond.keeps, Cond.steady])) hini)
theorem vx_runV (S : CallFix p m c cc nL s args Ts own) (hM : vx_Met l y ws rm Pc Qc XC mc ms free) (cw : CallW R s args own C index y bytes maxL ret ws rm mc ms n) (hp : PreV s H C b Pc As)
    (hg : g.method = m) (hn : As.length = n) (hsize : g.locals.size = nL) (hstack : g.stack = As.reverse ++ .ref b :: rest) (hW : 2 * g.monitorRoom + (rest.map fun v => v.category).sum ≤ 8) (hdg : decode cc g.pc = .ok (.invokevirtual index, 3)) (hf : cells + mc ≤ R.cells ∧ slots + ms ≤ R.slots) :
    vx_Run p l e R s m args below meth c H locs cells slots mc ms g rest (Qc (Value.ref b :: As).toArray) XC free := by
  have hK : vx_Back l R p e below s args y 3 8 (PreOf R mc ms Pc) (PostOf Qc mc ms free) (vx_Post XC mc ms free) := vx_callBack cw.1 hM hp.1
  obtain ⟨⟨-, -, -, -, -, -, hcode, -, hy, hlen, hl⟩, hin, hse⟩ := cw
  obtain ⟨hx, hb, hml, ho, -⟩ := S
  obtain ⟨-, ⟨cellB, hcB, hoB, hclB⟩, hPc⟩ := hp
  intro T hT X
  rcases vx_callV X hx (C := C) (bytes := bytes) (maxL := maxL) (ret := ret) ho hl hin hse hcode hy hK (by rw [hT]; exact hcB) hoB hclB hg (hsize.trans hml.symm) (argsL := As) (rest := rest) (fun sig h => hn.trans (hlen sig h)) hstack hW (by rw [hb]; exact hdg)
    (fun vm₁ hW₁ => ⟨hf.1, hf.2, hPc (T.setVm vm₁) hT hW₁⟩) with ⟨v, vm₁, ⟨U', l2, c2, s2⟩, hW₁, X', ⟨g', mk, t, L, e1, e2, hq, h1, hL, h2, h3⟩, st⟩ | ⟨q, vm₁, ⟨U', l2, c2, s2⟩, hW₁, X', ⟨g', mk, t, L, E, ce, e1, e2, hq, hce, hcv, hcl, h1, hL, h2, h3⟩, st⟩
  · dsimp only [Pt.U, Pt.locs, Pt.cells, Pt.slots] at X' e1 e2 h1 h2 h3 st
    subst h1; subst h2; subst h3
    exact Or.inl ⟨v, (T.setVm vm₁).calling g' mk (Value.ref b :: As).toArray, t, U', L, hT, X', hL, e1, e2, hq, st⟩
  · dsimp only [Pt.U, Pt.locs, Pt.cells, Pt.slots] at X' e1 e2 h1 h2 h3 st hcl
    subst h1; subst h2; subst h3
    exact Or.inr ⟨q, (T.setVm vm₁).calling g' mk (Value.ref b :: As).toArray, t, U', L, E, ce, hT, X', hL, e1, e2, hq, hce, hcv, vx_cls hW₁ hcl, st⟩
theorem vx_runS (S : CallFix p m c cc nL s args Ts own) (hM : vx_Met l y ws rm Pc Qc XC mc ms free) (cw : CallB R s args own index y bytes maxL ret ws rm mc ms n ∧ (Cond.static y).before args s = true) (hp : PreS s H Pc As)
    (hg : g.method = m) (hn : As.length = n) (hsize : g.locals.size = nL) (hstack : g.stack = As.reverse ++ rest) (hW : 2 * g.monitorRoom + (rest.map fun v => v.category).sum ≤ 8) (hdg : decode cc g.pc = .ok (.invokestatic index, 3)) (hf : cells + mc ≤ R.cells ∧ slots + ms ≤ R.slots) :
    vx_Run p l e R s m args below meth c H locs cells slots mc ms g rest (Qc As.toArray) XC free := by
  have hK : vx_Back l R p e below s args y 3 8 (PreOf R mc ms Pc) (PostOf Qc mc ms free) (vx_Post XC mc ms free) := vx_callBack cw.1 hM hp.1
  obtain ⟨⟨-, -, -, -, -, -, hcode, hini, hy, hlen, hl⟩, hstt⟩ := cw
  obtain ⟨hx, hb, hml, ho, -⟩ := S
  intro T hT X
  rcases vx_callS X hx (bytes := bytes) (maxL := maxL) (ret := ret) ho hl hstt hini hcode hy hK hg (hsize.trans hml.symm) (argsL := As) (rest := rest) (fun sig h => hn.trans (hlen sig h)) hstack hW (by rw [hb]; exact hdg)
    (fun vm₁ hW₁ => ⟨hf.1, hf.2, hp.2 (T.setVm vm₁) hT hW₁⟩) with ⟨v, vm₁, ⟨U', l2, c2, s2⟩, hW₁, X', ⟨g', mk, t, L, e1, e2, hq, h1, hL, h2, h3⟩, st⟩ | ⟨q, vm₁, ⟨U', l2, c2, s2⟩, hW₁, X', ⟨g', mk, t, L, E, ce, e1, e2, hq, hce, hcv, hcl, h1, hL, h2, h3⟩, st⟩
  · dsimp only [Pt.U, Pt.locs, Pt.cells, Pt.slots] at X' e1 e2 h1 h2 h3 st
    subst h1; subst h2; subst h3
    exact Or.inl ⟨v, (T.setVm vm₁).calling g' mk As.toArray, t, U', L, hT, X', hL, e1, e2, hq, st⟩
  · dsimp only [Pt.U, Pt.locs, Pt.cells, Pt.slots] at X' e1 e2 h1 h2 h3 st hcl
    subst h1; subst h2; subst h3
    exact Or.inr ⟨q, (T.setVm vm₁).calling g' mk As.toArray, t, U', L, E, ce, hT, X', hL, e1, e2, hq, hce, hcv, vx_cls hW₁ hcl, st⟩
end Runs
section Rows
variable {p : Program} {l : Launch} {e : Env} {R : Room} {s : State} {m : MethodId} {args : Array Value} {below : List Frame} {meth : Method} {c : Code} {H : Heap} {locs : List Loc} {cells slots : Nat} {Q : State → Prop}
variable {mc ms : Nat} {free : Addr → Prop} {A0 A1 : Nat → Prop} {H0 : Heap} {a : Array Value} {pc : Nat} {ls : Array Slot} {st0 rest : List Value}
theorem vx_keep {st₀ t T' : State} {L : List Loc} (h0 : st₀.heap = H) (e1 : T'.heap = t.heap) (hS : va_S A0 H0 H locs) (hA : ∀ q, q < H.size → A1 q → A0 q) (hf : ∀ q, free q → A0 q) (hL : ∀ q ∈ L, free q.base) (hF : va_F A1 st₀ t) :
    H.size ≤ T'.heap.size ∧ (∀ q : Nat, q < H.size → ¬ A1 q → T'.heap[q]? = H[q]?) ∧ va_S A0 H0 T'.heap (locs ++ L) := by
  obtain ⟨hz, hk⟩ := hF
  rw [h0] at hz hk
  exact ⟨by rw [e1]; exact hz, fun q h1 h2 => by rw [e1]; exact hk q h1 h2,
    ⟨Nat.le_trans hS.1 (by rw [e1]; exact hz), fun q h1 h2 => by rw [e1, hk q (Nat.lt_of_lt_of_le h1 hS.1) (fun z => h2 (hA q (Nat.lt_of_lt_of_le h1 hS.1) z))]; exact hS.2.1 q h1 h2, fun q hq => by
      rcases List.mem_append.mp hq with h | h
      · exact hS.2.2 q h
      · exact hf _ (hL q h)⟩⟩
theorem vx_calli {S SX : Type} {post : Int32 → S → Prop} {px : SX → Prop} {B : S → State → Prop} {BX : String → SX → State → Prop} {AX : Nat → Prop} (hr : vx_Run p l e R s m args below meth c H locs cells slots mc ms (F0 m pc ls st0) rest (va_Qi post B A1 a) (vx_X px BX AX) free) (hS : va_S A0 H0 H locs) (hA : ∀ q, q < H.size → A1 q → A0 q) (hf : ∀ q, free q → A0 q) (hAX : ∀ q, q < H.size → AX q → A0 q)
    (kx : ∀ (E : String) (ce : Cell) (q9 : Addr) (u : SX) (t : State) (H1 : Heap) (locs1 : List Loc), t.heap = H1 → s.vm.Alike t.vm → px u → BX E u t → H.size ≤ H1.size → (∀ q : Nat, q < H.size → ¬ AX q → H1[q]? = H[q]?) → va_S A0 H0 H1 locs1 → H1[q9]? = some ce → ce.vm = .none → s.vm.findClass E = some ce.cls → vx_W p l e R s m args below meth c H1 locs1 (cells + mc) (slots + ms) Q (F0 m pc ls rest) q9)
    (kk : ∀ (r : Int32) (u : S) (t : State) (H1 : Heap) (locs1 : List Loc), t.heap = H1 → s.vm.Alike t.vm → post r u → B u t → H.size ≤ H1.size → (∀ q : Nat, q < H.size → ¬ A1 q → H1[q]? = H[q]?) → va_S A0 H0 H1 locs1 → W p l e R s m args below meth c H1 locs1 (cells + mc) (slots + ms) Q (F0 m (pc + 3) ls (.int r :: rest))) : W p l e R s m args below meth c H locs cells slots Q (F0 m pc ls st0) := by
  intro T hT X
  rcases hr T hT X with ⟨v, st₀, t, T', L, h0, X', hL, e1, e2, ⟨⟨r, u, hv, hp, hb⟩, hF⟩, st⟩ | ⟨q, st₀, t, T', L, E, ce, h0, X', hL, e1, e2, ⟨u, hp, hb, hF⟩, hce, hcv, hcl, st⟩
  · cases hv
    obtain ⟨k1, k2, k3⟩ := vx_keep h0 e1 hS hA hf hL hF
    obtain ⟨t2, a1, b1⟩ := kk r u t T'.heap (locs ++ L) e1.symm (by rw [← e2]; exact X'.warmed.alike) hp hb k1 k2 k3 T' rfl X'
    exact ⟨t2, st t2 a1, b1⟩
  · obtain ⟨k1, k2, k3⟩ := vx_keep h0 e1 hS hAX hf hL hF
    obtain ⟨t2, a1, b1⟩ := kx E ce q u t T'.heap (locs ++ L) e1.symm (by rw [← e2]; exact X'.warmed.alike) hp hb k1 k2 k3 (by rw [e1]; exact hce) hcv hcl T' rfl X'
    exact ⟨t2, st.trans a1, b1⟩
theorem vx_calll {S SX : Type} {post : Int64 → S → Prop} {px : SX → Prop} {B : S → State → Prop} {BX : String → SX → State → Prop} {AX : Nat → Prop} (hr : vx_Run p l e R s m args below meth c H locs cells slots mc ms (F0 m pc ls st0) rest (va_Ql post B A1 a) (vx_X px BX AX) free) (hS : va_S A0 H0 H locs) (hA : ∀ q, q < H.size → A1 q → A0 q) (hf : ∀ q, free q → A0 q) (hAX : ∀ q, q < H.size → AX q → A0 q)
    (kx : ∀ (E : String) (ce : Cell) (q9 : Addr) (u : SX) (t : State) (H1 : Heap) (locs1 : List Loc), t.heap = H1 → s.vm.Alike t.vm → px u → BX E u t → H.size ≤ H1.size → (∀ q : Nat, q < H.size → ¬ AX q → H1[q]? = H[q]?) → va_S A0 H0 H1 locs1 → H1[q9]? = some ce → ce.vm = .none → s.vm.findClass E = some ce.cls → vx_W p l e R s m args below meth c H1 locs1 (cells + mc) (slots + ms) Q (F0 m pc ls rest) q9)
    (kk : ∀ (r : Int64) (u : S) (t : State) (H1 : Heap) (locs1 : List Loc), t.heap = H1 → s.vm.Alike t.vm → post r u → B u t → H.size ≤ H1.size → (∀ q : Nat, q < H.size → ¬ A1 q → H1[q]? = H[q]?) → va_S A0 H0 H1 locs1 → W p l e R s m args below meth c H1 locs1 (cells + mc) (slots + ms) Q (F0 m (pc + 3) ls (.long r :: rest))) : W p l e R s m args below meth c H locs cells slots Q (F0 m pc ls st0) := by
  intro T hT X
  rcases hr T hT X with ⟨v, st₀, t, T', L, h0, X', hL, e1, e2, ⟨⟨r, u, hv, hp, hb⟩, hF⟩, st⟩ | ⟨q, st₀, t, T', L, E, ce, h0, X', hL, e1, e2, ⟨u, hp, hb, hF⟩, hce, hcv, hcl, st⟩
  · cases hv
    obtain ⟨k1, k2, k3⟩ := vx_keep h0 e1 hS hA hf hL hF
    obtain ⟨t2, a1, b1⟩ := kk r u t T'.heap (locs ++ L) e1.symm (by rw [← e2]; exact X'.warmed.alike) hp hb k1 k2 k3 T' rfl X'
    exact ⟨t2, st t2 a1, b1⟩
  · obtain ⟨k1, k2, k3⟩ := vx_keep h0 e1 hS hAX hf hL hF
    obtain ⟨t2, a1, b1⟩ := kx E ce q u t T'.heap (locs ++ L) e1.symm (by rw [← e2]; exact X'.warmed.alike) hp hb k1 k2 k3 (by rw [e1]; exact hce) hcv hcl T' rfl X'
    exact ⟨t2, st.trans a1, b1⟩
theorem vx_callf {S SX : Type} {post : UInt32 → S → Prop} {px : SX → Prop} {B : S → State → Prop} {BX : String → SX → State → Prop} {AX : Nat → Prop} (hr : vx_Run p l e R s m args below meth c H locs cells slots mc ms (F0 m pc ls st0) rest (va_Qf post B A1 a) (vx_X px BX AX) free) (hS : va_S A0 H0 H locs) (hA : ∀ q, q < H.size → A1 q → A0 q) (hf : ∀ q, free q → A0 q) (hAX : ∀ q, q < H.size → AX q → A0 q)
    (kx : ∀ (E : String) (ce : Cell) (q9 : Addr) (u : SX) (t : State) (H1 : Heap) (locs1 : List Loc), t.heap = H1 → s.vm.Alike t.vm → px u → BX E u t → H.size ≤ H1.size → (∀ q : Nat, q < H.size → ¬ AX q → H1[q]? = H[q]?) → va_S A0 H0 H1 locs1 → H1[q9]? = some ce → ce.vm = .none → s.vm.findClass E = some ce.cls → vx_W p l e R s m args below meth c H1 locs1 (cells + mc) (slots + ms) Q (F0 m pc ls rest) q9)
    (kk : ∀ (r : UInt32) (u : S) (t : State) (H1 : Heap) (locs1 : List Loc), t.heap = H1 → s.vm.Alike t.vm → post r u → B u t → H.size ≤ H1.size → (∀ q : Nat, q < H.size → ¬ A1 q → H1[q]? = H[q]?) → va_S A0 H0 H1 locs1 → W p l e R s m args below meth c H1 locs1 (cells + mc) (slots + ms) Q (F0 m (pc + 3) ls (.float r :: rest))) : W p l e R s m args below meth c H locs cells slots Q (F0 m pc ls st0) := by
  intro T hT X
  rcases hr T hT X with ⟨v, st₀, t, T', L, h0, X', hL, e1, e2, ⟨⟨r, u, hv, hp, hb⟩, hF⟩, st⟩ | ⟨q, st₀, t, T', L, E, ce, h0, X', hL, e1, e2, ⟨u, hp, hb, hF⟩, hce, hcv, hcl, st⟩
  · cases hv
    obtain ⟨k1, k2, k3⟩ := vx_keep h0 e1 hS hA hf hL hF
    obtain ⟨t2, a1, b1⟩ := kk r u t T'.heap (locs ++ L) e1.symm (by rw [← e2]; exact X'.warmed.alike) hp hb k1 k2 k3 T' rfl X'
    exact ⟨t2, st t2 a1, b1⟩
  · obtain ⟨k1, k2, k3⟩ := vx_keep h0 e1 hS hAX hf hL hF
    obtain ⟨t2, a1, b1⟩ := kx E ce q u t T'.heap (locs ++ L) e1.symm (by rw [← e2]; exact X'.warmed.alike) hp hb k1 k2 k3 (by rw [e1]; exact hce) hcv hcl T' rfl X'
    exact ⟨t2, st.trans a1, b1⟩
theorem vx_calld {S SX : Type} {post : UInt64 → S → Prop} {px : SX → Prop} {B : S → State → Prop} {BX : String → SX → State → Prop} {AX : Nat → Prop} (hr : vx_Run p l e R s m args below meth c H locs cells slots mc ms (F0 m pc ls st0) rest (va_Qd post B A1 a) (vx_X px BX AX) free) (hS : va_S A0 H0 H locs) (hA : ∀ q, q < H.size → A1 q → A0 q) (hf : ∀ q, free q → A0 q) (hAX : ∀ q, q < H.size → AX q → A0 q)
    (kx : ∀ (E : String) (ce : Cell) (q9 : Addr) (u : SX) (t : State) (H1 : Heap) (locs1 : List Loc), t.heap = H1 → s.vm.Alike t.vm → px u → BX E u t → H.size ≤ H1.size → (∀ q : Nat, q < H.size → ¬ AX q → H1[q]? = H[q]?) → va_S A0 H0 H1 locs1 → H1[q9]? = some ce → ce.vm = .none → s.vm.findClass E = some ce.cls → vx_W p l e R s m args below meth c H1 locs1 (cells + mc) (slots + ms) Q (F0 m pc ls rest) q9)
    (kk : ∀ (r : UInt64) (u : S) (t : State) (H1 : Heap) (locs1 : List Loc), t.heap = H1 → s.vm.Alike t.vm → post r u → B u t → H.size ≤ H1.size → (∀ q : Nat, q < H.size → ¬ A1 q → H1[q]? = H[q]?) → va_S A0 H0 H1 locs1 → W p l e R s m args below meth c H1 locs1 (cells + mc) (slots + ms) Q (F0 m (pc + 3) ls (.double r :: rest))) : W p l e R s m args below meth c H locs cells slots Q (F0 m pc ls st0) := by
  intro T hT X
  rcases hr T hT X with ⟨v, st₀, t, T', L, h0, X', hL, e1, e2, ⟨⟨r, u, hv, hp, hb⟩, hF⟩, st⟩ | ⟨q, st₀, t, T', L, E, ce, h0, X', hL, e1, e2, ⟨u, hp, hb, hF⟩, hce, hcv, hcl, st⟩
  · cases hv
    obtain ⟨k1, k2, k3⟩ := vx_keep h0 e1 hS hA hf hL hF
    obtain ⟨t2, a1, b1⟩ := kk r u t T'.heap (locs ++ L) e1.symm (by rw [← e2]; exact X'.warmed.alike) hp hb k1 k2 k3 T' rfl X'
    exact ⟨t2, st t2 a1, b1⟩
  · obtain ⟨k1, k2, k3⟩ := vx_keep h0 e1 hS hAX hf hL hF
    obtain ⟨t2, a1, b1⟩ := kx E ce q u t T'.heap (locs ++ L) e1.symm (by rw [← e2]; exact X'.warmed.alike) hp hb k1 k2 k3 (by rw [e1]; exact hce) hcv hcl T' rfl X'
    exact ⟨t2, st.trans a1, b1⟩
theorem vx_callv {S SX : Type} {post : S → Prop} {px : SX → Prop} {B : S → State → Prop} {BX : String → SX → State → Prop} {AX : Nat → Prop} (hr : vx_Run p l e R s m args below meth c H locs cells slots mc ms (F0 m pc ls st0) rest (va_Qv post B A1 a) (vx_X px BX AX) free) (hS : va_S A0 H0 H locs) (hA : ∀ q, q < H.size → A1 q → A0 q) (hf : ∀ q, free q → A0 q) (hAX : ∀ q, q < H.size → AX q → A0 q)
    (kx : ∀ (E : String) (ce : Cell) (q9 : Addr) (u : SX) (t : State) (H1 : Heap) (locs1 : List Loc), t.heap = H1 → s.vm.Alike t.vm → px u → BX E u t → H.size ≤ H1.size → (∀ q : Nat, q < H.size → ¬ AX q → H1[q]? = H[q]?) → va_S A0 H0 H1 locs1 → H1[q9]? = some ce → ce.vm = .none → s.vm.findClass E = some ce.cls → vx_W p l e R s m args below meth c H1 locs1 (cells + mc) (slots + ms) Q (F0 m pc ls rest) q9)
    (kk : ∀ (u : S) (t : State) (H1 : Heap) (locs1 : List Loc), t.heap = H1 → s.vm.Alike t.vm → post u → B u t → H.size ≤ H1.size → (∀ q : Nat, q < H.size → ¬ A1 q → H1[q]? = H[q]?) → va_S A0 H0 H1 locs1 → W p l e R s m args below meth c H1 locs1 (cells + mc) (slots + ms) Q (F0 m (pc + 3) ls (rest))) : W p l e R s m args below meth c H locs cells slots Q (F0 m pc ls st0) := by
  intro T hT X
  rcases hr T hT X with ⟨v, st₀, t, T', L, h0, X', hL, e1, e2, ⟨⟨u, hv, hp, hb⟩, hF⟩, st⟩ | ⟨q, st₀, t, T', L, E, ce, h0, X', hL, e1, e2, ⟨u, hp, hb, hF⟩, hce, hcv, hcl, st⟩
  · cases hv
    obtain ⟨k1, k2, k3⟩ := vx_keep h0 e1 hS hA hf hL hF
    obtain ⟨t2, a1, b1⟩ := kk u t T'.heap (locs ++ L) e1.symm (by rw [← e2]; exact X'.warmed.alike) hp hb k1 k2 k3 T' rfl X'
    exact ⟨t2, st t2 a1, b1⟩
  · obtain ⟨k1, k2, k3⟩ := vx_keep h0 e1 hS hAX hf hL hF
    obtain ⟨t2, a1, b1⟩ := kx E ce q u t T'.heap (locs ++ L) e1.symm (by rw [← e2]; exact X'.warmed.alike) hp hb k1 k2 k3 (by rw [e1]; exact hce) hcv hcl T' rfl X'
    exact ⟨t2, st.trans a1, b1⟩
end Rows
section Ends
variable {p : Program} {l : Launch} {e : Env} {R : Room} {s : State} {m : MethodId} {args : Array Value} {below : List Frame} {meth : Method} {c : Code} {H : Heap} {locs : List Loc} {cells slots : Nat} {Q : State → Prop}
variable {mc ms : Nat} {free : Addr → Prop} {A0 A1 : Nat → Prop} {H0 : Heap} {a : Array Value} {ls : Array Slot} {st0 rest : List Value}
variable {Qc : Array Value → State → Outcome → State → Prop} {XC : String → State → State → Prop}
/-- what a body that may throw owes at its end -/
def vx_MQ (below : List Frame) (Qc : Array Value → State → Outcome → State → Prop) (XC : String → State → State → Prop) (a : Array Value) (s : State) (mc ms : Nat) (free : Addr → Prop) : State → Prop := fun t =>
  ∃ o, t.status = .running ∧ Ended t below o ∧ vx_Q Qc XC mc ms free a s o t
theorem vx_ret {g : JFrame} {mc ms : Nat} (k : W p l e R s m args below meth c H locs cells slots (MQ below Qc args s mc ms free) g) : W p l e R s m args below meth c H locs cells slots (vx_MQ below Qc XC args s mc ms free) g := by
  intro T hT X
  obtain ⟨t, a1, o, b1, b2, b3, b4⟩ := k T hT X
  exact ⟨t, a1, o, b1, b2, Or.inl ⟨b3, b4⟩⟩
/-- not caught here: it goes on to the caller -/
theorem vx_widen {g : JFrame} {q : Addr} {k n : Nat} (h1 : cells ≤ k) (h2 : slots ≤ n) (kk : vx_W p l e R s m args below meth c H locs k n Q g q) : vx_W p l e R s m args below meth c H locs cells slots Q g q := fun T hT X => kk T hT (stand_widen X h1 h2)
theorem vx_out {pc : Nat} {E : String} {ce : Cell} {q : Addr} {mc ms : Nat} (hout : ∀ x ∈ c.exceptionTable.toList, covers x pc = false) (hlocks : meth.locks = false) (hcell : H[q]? = some ce) (hv : ce.vm = .none) (hcl : s.vm.findClass E = some ce.cls)
    (hx : ∀ t : State, t.heap = H → s.vm.Alike t.vm → XC E s t) (hf : ∀ z ∈ locs, free z.base) (hc : cells ≤ mc) (hs : slots ≤ ms) :
    vx_W p l e R s m args below meth c H locs cells slots (vx_MQ below Qc XC args s mc ms free) (F0 m pc ls rest) q := by
  intro T hT X
  obtain ⟨st1, hrun, hend, hW, hsm⟩ := X.leaveThrown q (g := F0 m pc ls rest) rfl rfl rfl hout hlocks
  have hcell9 : (T.setFrames (.throwing q :: below)).heap[q]? = some ce := by
    show T.heap[q]? = some ce
    rw [hT]; exact hcell
  exact ⟨_, st1, .threw q, hrun, hend, Or.inr ⟨q, rfl, E, ce, locs, hx _ hT hW.alike, hcell9, hv, hcl, hW, hsm.mono hc hs, hf⟩⟩
theorem vx_frame {U : State} {k n : Nat} (h : s.sameButNew ({ U with vm := s.vm } : State) locs k n) : s.heap.size ≤ U.heap.size ∧ ∀ q : Nat, q < s.heap.size → (∀ z ∈ locs, z.base ≠ q) → U.heap[q]? = s.heap[q]? := by
  obtain ⟨-, h2, -, -, -, h6⟩ := h
  refine ⟨h2, fun q hq hz => ?_⟩
  obtain ⟨c9, e1, e2, e3, e4⟩ := h6 q _ (Array.getElem?_eq_getElem hq)
  have hs : c9.slots = (s.heap[q]).slots := Array.ext_getElem? fun i => e4 i fun hm => hz _ hm rfl
  have h9 : c9 = s.heap[q] := by
    rw [hs] at e2
    exact e2
  have e5 : U.heap[q]? = some c9 := e1
  rw [e5, h9, Array.getElem?_eq_getElem hq]
/-- the words of a throw but the four that speak of the heap -/
def vx_no (w : Cond) : Bool := decide (w ≠ .isRef (.static Bundle.tN "UNASSIGNED_STACK" Bundle.steD)) && decide (w ≠ .isRef (.static Bundle.tN "SUPPRESSED_SENTINEL" Bundle.listD)) && decide (w ≠ .laysStatic Bundle.tN "UNASSIGNED_STACK" Bundle.steD) && decide (w ≠ .laysStatic Bundle.tN "SUPPRESSED_SENTINEL" Bundle.listD)
def vx_at0 (own : String) (ic : Nat) (X : String) (names : List String) : List Cond := (Bundle.ownAtoms0 own ic X names).filter vx_no
def vx_atS (own : String) (ic : Nat) (X : String) (names : List String) : List Cond := (Bundle.ownAtoms own ic X names).filter vx_no
/-- a word that the tables alone decide, or a good one -/
def vx_ot (w : Cond) : Bool := w.onTables || goodWord w
theorem vx_ot_at {args a' : Array Value} {s U : State} {w : Cond} (hW : s.WarmedH U.vm) (hvm : s.vm = U.vm) (hg : vx_ot w = true) (h : w.before args s = true) : w.before a' U = true := by
  simp only [vx_ot, Bool.or_eq_true] at hg
  rcases hg with hg | hg
  · exact va_tabs hg hvm h
  · exact word_at hW (good_of_word hg) h
/-- a list's words: the good ones out of the method's own list, the others by premises of their own -/
theorem vx_hat {args : Array Value} {s : State} {L B : List Cond} (h1 : ∀ w ∈ L.filter goodWord, w.before args s = true) (h2 : ∀ w ∈ L.filter (fun w => !goodWord w), w ∈ B) (h3 : ∀ w ∈ B, w.before args s = true) : ∀ w ∈ L, w.before args s = true := by
  intro w hw
  by_cases g : goodWord w = true
  · exact h1 w (List.mem_filter.mpr ⟨hw, g⟩)
  · refine h3 w (h2 w (List.mem_filter.mpr ⟨hw, ?_⟩))
    show (!goodWord w) = true
    cases hgw : goodWord w
    · rfl
    · exact absurd hgw g
theorem vx_c {args : Array Value} {s : State} {w : Cond} {B : List Cond} (h : w.before args s = true) (t : ∀ w ∈ B, w.before args s = true) : ∀ w' ∈ w :: B, w'.before args s = true := fun w' h' => (List.mem_cons.mp h').elim (fun e => by rw [e]; exact h) (t w')
theorem vx_n {args : Array Value} {s : State} : ∀ w ∈ ([] : List Cond), w.before args s = true := fun _ h => nomatch h
theorem vx_own {args : Array Value} {s : State} {L : List Cond} (h1 : ∀ w ∈ L.filter vx_no, w.before args s = true)
    (hU : (Cond.isRef (.static Bundle.tN "UNASSIGNED_STACK" Bundle.steD)).before args s = true) (hN : (Cond.isRef (.static Bundle.tN "SUPPRESSED_SENTINEL" Bundle.listD)).before args s = true)
    (lU : (Cond.laysStatic Bundle.tN "UNASSIGNED_STACK" Bundle.steD).before args s = true) (lN : (Cond.laysStatic Bundle.tN "SUPPRESSED_SENTINEL" Bundle.listD).before args s = true) : ∀ w ∈ L, w.before args s = true := by
  intro w hw
  by_cases e1 : w = .isRef (.static Bundle.tN "UNASSIGNED_STACK" Bundle.steD)
  · rw [e1]; exact hU
  · by_cases e2 : w = .isRef (.static Bundle.tN "SUPPRESSED_SENTINEL" Bundle.listD)
    · rw [e2]; exact hN
    · by_cases e3 : w = .laysStatic Bundle.tN "UNASSIGNED_STACK" Bundle.steD
      · rw [e3]; exact lU
      · by_cases e4 : w = .laysStatic Bundle.tN "SUPPRESSED_SENTINEL" Bundle.listD
        · rw [e4]; exact lN
        · exact h1 w (List.mem_filter.mpr ⟨hw, by unfold vx_no; rw [decide_eq_true e1, decide_eq_true e2, decide_eq_true e3, decide_eq_true e4]; rfl⟩)
/-- where a static field lies, its class's statics cell in H -/
def vx_L (C n d : String) (A : Nat → Prop) (U : State) (H : Heap) : Prop := ∃ (c : ClassId) (k : Class) (i : Nat) (f : Field) (a : Nat) (cell : Cell), U.vm.findClass C = some c ∧ U.fieldFound? C n d = some (c, k, i, f) ∧ f.isStatic = true ∧ k.statics = some a ∧ H[a]? = some cell ∧ cell.vm.isStatics = true ∧ cell.cls = c ∧ f.slot < cell.slots.size ∧ k.staticTypes[f.slot]? = some f.type ∧ ¬ A a
theorem vx_L.moved {C n d : String} {A : Nat → Prop} {u U : State} {H : Heap} (hvm : u.vm.Alike U.vm) (h : vx_L C n d A u H) : vx_L C n d A U H := by
  obtain ⟨c, k, i, f, a, cell, h1, h2, h3, h4, h5, h6, h7, h8, h9, h10⟩ := h
  obtain ⟨k', hi', he⟩ := State.fieldFound?_setVm hvm h2
  exact ⟨c, k', i, f, a, cell, by rw [hvm.findClass]; exact h1, hi', h3, by rw [he]; exact h4, h5, h6, h7, h8, by rw [he]; exact h9, h10⟩
theorem vx_L.kept {C n d : String} {A : Nat → Prop} {U : State} {H H1 : Heap} (h : vx_L C n d A U H) (hq : ∀ a : Nat, a < H.size → ¬ A a → H1[a]? = H[a]?) : vx_L C n d A U H1 := by
  obtain ⟨c, k, i, f, a, cell, h1, h2, h3, h4, h5, h6, h7, h8, h9, h10⟩ := h
  exact ⟨c, k, i, f, a, cell, h1, h2, h3, h4, by rw [hq a (Array.getElem?_eq_some_iff.mp h5).1 h10]; exact h5, h6, h7, h8, h9, h10⟩
theorem vx_L.narrow {C n d : String} {A B : Nat → Prop} {U : State} {H : Heap} (h : vx_L C n d A U H) (hAB : ∀ q, B q → A q) : vx_L C n d B U H := by
  obtain ⟨c, k, i, f, a, cell, h1, h2, h3, h4, h5, h6, h7, h8, h9, h10⟩ := h
  exact ⟨c, k, i, f, a, cell, h1, h2, h3, h4, h5, h6, h7, h8, h9, fun z => h10 (hAB _ z)⟩
theorem vx_L.word {C n d : String} {A : Nat → Prop} {s : State} {args : Array Value} (h : vx_L C n d A s s.heap) : (Cond.laysStatic C n d).before args s = true := by
  obtain ⟨c, k, i, f, a, cell, h1, h2, h3, h4, h5, h6, h7, h8, h9, -⟩ := h
  show (Cond.laysStatic C n d).holds args s none s [] = true
  exact Cond.laysStatic_of h1 h2 h3 h4 h5 h6 h7 h8 h9
/-- .. and what it holds: null or some reference -/
def vx_Zq (C n d : String) (A : Nat → Prop) (U : State) (H : Heap) : Prop := va_Zq C n d A U H ∧ vx_L C n d A U H
theorem vx_Zq.moved {C n d : String} {A : Nat → Prop} {u U : State} {H : Heap} (hvm : u.vm.Alike U.vm) (h : vx_Zq C n d A u H) : vx_Zq C n d A U H := ⟨va_Zq.moved hvm h.1, vx_L.moved hvm h.2⟩
theorem vx_Zq.kept {C n d : String} {A : Nat → Prop} {U : State} {H H1 : Heap} (h : vx_Zq C n d A U H) (hq : ∀ a : Nat, a < H.size → ¬ A a → H1[a]? = H[a]?) : vx_Zq C n d A U H1 := ⟨va_Zq.kept h.1 hq, vx_L.kept h.2 hq⟩
theorem vx_Zq.narrow {C n d : String} {A B : Nat → Prop} {U : State} {H : Heap} (h : vx_Zq C n d A U H) (hAB : ∀ q, B q → A q) : vx_Zq C n d B U H := ⟨va_Zq.narrow h.1 hAB, vx_L.narrow h.2 hAB⟩
theorem vx_Zqof {args : Array Value} {s : State} {C n d : String} {A : Nat → Prop} (hl : (Cond.laysStatic C n d).before args s = true) (hini : (Cond.initialized C).before args s = true) (h : (Cond.isRef (.static C n d)).before args s = true) (hA : ∀ a : Nat, a < s.heap.size → ¬ A a) : vx_Zq C n d A s s.heap := by
  refine ⟨va_Zqof hl hini h hA, ?_⟩
  obtain ⟨c, k, i, f, a, cell, h1, h2, h3, h4, h5, h6, h7, h8, h9⟩ := Cond.laysStatic_spec hl
  exact ⟨c, k, i, f, a, cell, h1, h2, h3, h4, h5, h6, h7, h8, h9, hA a (Array.getElem?_eq_some_iff.mp h5).1⟩
theorem vx_isRef {C n d : String} {v : Value} {A : Nat → Prop} {s : State} {args : Array Value} (h : va_Z C n d v A s s.heap) (hv : v.isRef = true) : (Cond.isRef (.static C n d)).before args s = true := by
  obtain ⟨cf, kf, fi, f, a, cell, h1, h2, h3, h4, h5, h6, h7, -⟩ := h
  have he : (Term.static C n d).eval args s none [] s = some v := by
    simp [Term.eval, State.fieldNamed?, h1, h2, h4, h5, h6, h7]
  simp only [Cond.before, Cond.holds, Cond.value, he]
  cases v <;> simp_all [Value.isRef]
theorem vx_isRefq {C n d : String} {A : Nat → Prop} {s : State} {args : Array Value} (h : va_Zq C n d A s s.heap) : (Cond.isRef (.static C n d)).before args s = true := by
  rcases h with h | ⟨t, h⟩
  · exact vx_isRef h rfl
  · exact vx_isRef h rfl
/-- the same frame, seen from here: as if the method were called anew in this heap -/
theorem vx_rebase {T : State} (X : Stand p l e R s m args below meth c T locs cells slots) {R' : Room} (hf : R'.frames ≤ R.frames) (hl : R'.locals ≤ R.locals) (hc : cells + R'.cells ≤ R.cells) (hs : slots + R'.slots ≤ R.slots) :
    Stand p l e R' ((T.setVm s.vm).setFrames (.invoking m args :: below)) m args below meth c T [] 0 0 := by
  have htop : (T.setVm s.vm).topJava?.isSome := X.here.top
  have hF : ((T.setVm s.vm).setFrames (.invoking m args :: below)).frames = .invoking m args :: below := State.frames_setFrames _ (State.cur_lt_of_top htop)
  obtain ⟨g₀, hg0⟩ := Option.isSome_iff_exists.mp htop
  obtain ⟨r, hr⟩ := State.topJava?_eq_some.mp hg0
  have hl9 : e.platform.stackLimits (T.setVm s.vm).me = e.platform.stackLimits s.me := X.limits
  have hb9 : (T.setVm s.vm).me.stackBytes = s.me.stackBytes := X.bytes
  refine ⟨X.admits, X.cas, X.clock, hF, ?_, X.hears, X.method, X.code, X.here, X.tail, X.warmed, ?_, ?_, ?_⟩
  · have h := X.room
    have hU : ((T.setVm s.vm).setFrames (.invoking m args :: below)).localsInUse = s.localsInUse := by
      rw [State.localsInUse_invoking hF (meth := meth) (c := c) X.method X.code, State.localsInUse_invoking X.frames X.method X.code]
    simp only [State.hasRoom, Bool.and_eq_true, decide_eq_true_eq] at h ⊢
    obtain ⟨⟨⟨⟨h1, h2, h3, h4, h5, h6⟩, h7⟩, h8⟩, h9⟩ := h
    rw [X.frames, List.length_cons] at h2 h3
    have q1 := X.heapSize
    have q2 := X.used
    simp only [hF, hU, List.length_cons, State.stackLimits_setFrames, State.stackBytes_setFrames, hl9, hb9]
    refine ⟨⟨⟨⟨by omega, by omega, by omega, by omega, by omega, h6⟩, ?_⟩, ?_⟩, X.book⟩
    · show T.heap.size + R'.cells ≤ e.platform.maxCells
      omega
    · show T.slotsUsed + R'.slots ≤ e.platform.maxSlots
      omega
  · rw [State.stackLimits_setFrames]; rfl
  · rw [State.stackBytes_setFrames]; rfl
  · refine ⟨?_, Nat.le_refl _, Nat.le_refl _, ?_, ?_, fun a c9 h9 => ⟨c9, h9, rfl, rfl, fun _ _ => rfl⟩⟩
    · obtain ⟨t, ht, -⟩ := State.frames_cons hr
      show T.setVm s.vm = { ((T.setVm s.vm).setFrames (.invoking m args :: below)).setFrames (T.setVm s.vm).frames with heap := T.heap, slotsUsed := T.slotsUsed }
      rw [State.setFrames_setFrames, State.setFrames_self ht]
      rfl
    · show T.slotsUsed = T.slotsUsed + ((T.heap.toList.drop T.heap.size).map (·.slots.size)).sum
      rw [List.drop_eq_nil_of_le (Nat.le_of_eq Array.length_toList)]
      rfl
    · show ((T.heap.toList.drop T.heap.size).map (·.slots.size)).sum ≤ 0
      rw [List.drop_eq_nil_of_le (Nat.le_of_eq Array.length_toList)]
      exact Nat.le_refl _
/-- 'throw new E()': new; dup; invokespecial; athrow -/
theorem vx_throw0 {cc : ByteArray} {pc : Nat} (hexec : p.tables.exec = Jvm.exec) (hb : c.code = cc) (hl : l.stackTraces = false) {own cls : String} {names : List String} {ik ic mc ms : Nat} {A : Nat → Prop}
    (hown : s.vm.findClass own = some m.cls) (hcls : Bundle.fit cls = true) (hnames : ∀ n ∈ names, Bundle.fit n = true)
    (hk : (Cond.classLink own ik cls).before args s = true) (hini : (Cond.initialized cls).before args s = true) (hat : ∀ w ∈ vx_at0 own ic cls names, w.before args s = true)
    (hgood : ∀ w ∈ Cond.classLink own ik cls :: Cond.initialized cls :: vx_at0 own ic cls names, vx_ot w = true)
    (hU : vx_Zq Bundle.tN "UNASSIGNED_STACK" Bundle.steD A s s.heap) (hN : vx_Zq Bundle.tN "SUPPRESSED_SENTINEL" Bundle.listD A s s.heap) (hS : va_S A s.heap H locs) (hsize : ls.size = c.maxLocals)
    (d0 : decode cc pc = .ok (.new ik, 3)) (d3 : decode cc (pc + 3) = .ok (.dup, 1)) (d4 : decode cc (pc + 4) = .ok (.invokespecial ic, 3)) (d7 : decode cc (pc + 7) = .ok (.athrow, 1))
    (hout : ∀ x ∈ c.exceptionTable.toList, covers x (pc + 7) = false)
    (hRframes : names.length + 3 < R.frames) (hRlocals : (rest.map fun v => v.category).sum + (13 * (names.length + 1) + 42) ≤ R.locals) (hRcells : cells + 1 ≤ R.cells) (hRslots : slots + 6 ≤ R.slots) (hlocks : meth.locks = false)
    (hx : ∀ t : State, s.vm.Alike t.vm → H.size ≤ t.heap.size → (∀ q : Nat, q < H.size → t.heap[q]? = H[q]?) → XC cls s t)
    (hf : ∀ z ∈ locs, free z.base) (hc : cells + 1 ≤ mc) (hs : slots + 6 ≤ ms) :
    W p l e R s m args below meth c H locs cells slots (vx_MQ below Qc XC args s mc ms free) (F0 m pc ls rest) := by
  intro T hT X
  have htr : e.platform.stackTraces = false := (show e.platform.stackTraces = l.stackTraces by rw [X.admits.platform]).trans hl
  have Y := vx_rebase X (R' := { frames := R.frames, locals := R.locals, cells := 1, slots := 6 }) (Nat.le_refl _) (Nat.le_refl _) hRcells hRslots
  obtain ⟨s', hA⟩ : ∃ z, z = (T.setVm s.vm).setFrames (.invoking m args :: below) := ⟨_, rfl⟩
  rw [← hA] at Y
  have hvm : s'.vm = s.vm := by rw [hA]; rfl
  have hhp : s'.heap = H := by rw [hA]; exact hT
  have hW0 : s.WarmedH s'.vm := by rw [hvm]; exact State.WarmedH.refl s
  have hat' : ∀ w ∈ vx_at0 own ic cls names, w.before args s' = true := fun w hw => vx_ot_at hW0 hvm.symm (hgood w (List.mem_cons_of_mem _ (List.mem_cons_of_mem _ hw))) (hat w hw)
  have hk' : (Cond.classLink own ik cls).before args s' = true := vx_ot_at hW0 hvm.symm (hgood _ List.mem_cons_self) hk
  have hini' : (Cond.initialized cls).before args s' = true := vx_ot_at hW0 hvm.symm (hgood _ (List.mem_cons_of_mem _ List.mem_cons_self)) hini
  have hU' : vx_Zq Bundle.tN "UNASSIGNED_STACK" Bundle.steD A s' s'.heap := by rw [hhp]; exact vx_Zq.moved hW0.alike (hU.kept hS.2.1)
  have hN' : vx_Zq Bundle.tN "SUPPRESSED_SENTINEL" Bundle.listD A s' s'.heap := by rw [hhp]; exact vx_Zq.moved hW0.alike (hN.kept hS.2.1)
  have h : ∀ w ∈ Bundle.ownAtoms0 own ic cls names, w.before args s' = true := vx_own hat' (vx_isRefq hU'.1) (vx_isRefq hN'.1) hU'.2.word hN'.2.word
  have hown' : s'.vm.findClass own = some m.cls := by rw [hvm]; exact hown
  have hins : (Cond.instantiable cls 6).before args s' = true := h _ (by simp [Bundle.ownAtoms0])
  obtain ⟨vm₁, cX, kX, hfX, hkX, -, -, X₁, st1⟩ := Y.newCold hexec (own := own) (C := cls) (index := ik) (n := 6) hown' hk' hins hini'
    (g := F0 m pc ls rest) rfl (by rw [hb]; exact d0) (Nat.le_refl _) (Nat.le_refl _)
  generalize hT1 : (T.setVm vm₁).pushCell { cls := cX, slots := kX.instanceTypes.map defaultValue, vm := .none } = T1 at X₁ st1
  have hcat : (Value.ref T.heap.size).category = 1 := rfl
  have hcellA : T1.heap[T.heap.size]? = some (freshCell cX kX) := by rw [← hT1]; exact State.heap_pushCell_size _ _
  have d3' : decode c.code (pc + 3) = .ok (.dup, 1) := by rw [hb]; exact d3
  obtain ⟨U, hsteps, hrun, hend, hW, hsame, ce, hce, hO⟩ := X₁.ctorThrow0 hexec htr (own := own) (cls := cls) (names := names) (ic := ic) hown' hcls hnames h (fun x hx => nomatch hx) hfX hkX hcellA (by rw [hhp, hT]; exact Nat.le_refl _)
    (g := { method := m, pc := pc + 4, locals := ls, stack := .ref T.heap.size :: .ref T.heap.size :: rest, locked := none }) rfl hsize rfl rfl (rest := rest) rfl
    (by rw [hb]; exact d4) (by rw [hb]; exact d7) hout hRframes (by simp only [List.map_cons, List.sum_cons, hcat]; omega) hlocks
  obtain ⟨f1, f2⟩ := vx_frame hsame
  rw [hhp] at f1 f2
  have hWs : s.WarmedH U.vm := State.WarmedH.trans hW0 hW
  have hcl : s.vm.findClass cls = some ce.cls := by
    have h9 := hO.cls
    rw [hvm] at h9
    exact h9
  have hall : s.sameButNew ({ U with vm := s.vm } : State) locs mc ms := by
    subst hA
    obtain ⟨e1, e2⟩ := hsame
    rw [State.setFrames_setFrames] at e1
    have h2 : (T.setVm s.vm).sameButNew ({ U with vm := s.vm } : State) [] (0 + 1) (0 + 6) := ⟨e1, e2⟩
    have h3 := X.same.trans h2
    rw [List.append_nil] at h3
    exact h3.mono hc hs
  refine ⟨U, ?_, .threw T.heap.size, hrun, hend, Or.inr ⟨T.heap.size, rfl, cls, ce, locs, hx U hWs.alike f1 (fun q hq => f2 q hq (fun z hz => nomatch hz)), hce, hO.vm, hcl, hWs, hall, hf⟩⟩
  refine st1 _ ?_
  show Steps p.tables e below (T1.setTop { method := m, pc := pc + 3, locals := ls, stack := .ref T.heap.size :: rest, locked := none }) _
  jvm_step X₁.here [X₁.here.top, hexec, d3', Value.category]
  exact hsteps
/-- 'throw new E("text")': new; dup; ldc; invokespecial; athrow -/
theorem vx_throwS {cc : ByteArray} {pc : Nat} (hexec : p.tables.exec = Jvm.exec) (hb : c.code = cc) (hl : l.stackTraces = false) {own cls text : String} {names : List String} {ik is ic mc ms sa : Nat} {A : Nat → Prop}
    (hown : s.vm.findClass own = some m.cls) (hcls : Bundle.fit cls = true) (hnames : ∀ n ∈ names, Bundle.fit n = true)
    (hk : (Cond.classLink own ik cls).before args s = true) (hini : (Cond.initialized cls).before args s = true) (hstr : vk_R own is text sa s) (hat : ∀ w ∈ vx_atS own ic cls names, w.before args s = true)
    (hgood : ∀ w ∈ Cond.classLink own ik cls :: Cond.initialized cls :: vx_atS own ic cls names, vx_ot w = true)
    (hU : vx_Zq Bundle.tN "UNASSIGNED_STACK" Bundle.steD A s s.heap) (hN : vx_Zq Bundle.tN "SUPPRESSED_SENTINEL" Bundle.listD A s s.heap) (hS : va_S A s.heap H locs) (hsize : ls.size = c.maxLocals)
    (d0 : decode cc pc = .ok (.new ik, 3)) (d3 : decode cc (pc + 3) = .ok (.dup, 1)) (d4 : decode cc (pc + 4) = .ok (.ldc is, 2)) (d6 : decode cc (pc + 6) = .ok (.invokespecial ic, 3)) (d9 : decode cc (pc + 9) = .ok (.athrow, 1))
    (hout : ∀ x ∈ c.exceptionTable.toList, covers x (pc + 9) = false)
    (hRframes : names.length + 3 < R.frames) (hRlocals : (rest.map fun v => v.category).sum + (13 * (names.length + 1) + 43) ≤ R.locals) (hRcells : cells + 1 ≤ R.cells) (hRslots : slots + 6 ≤ R.slots) (hlocks : meth.locks = false)
    (hx : ∀ t : State, s.vm.Alike t.vm → H.size ≤ t.heap.size → (∀ q : Nat, q < H.size → t.heap[q]? = H[q]?) → XC cls s t)
    (hf : ∀ z ∈ locs, free z.base) (hc : cells + 1 ≤ mc) (hs : slots + 6 ≤ ms) :
    W p l e R s m args below meth c H locs cells slots (vx_MQ below Qc XC args s mc ms free) (F0 m pc ls rest) := by
  intro T hT X
  have htr : e.platform.stackTraces = false := (show e.platform.stackTraces = l.stackTraces by rw [X.admits.platform]).trans hl
  have Y := vx_rebase X (R' := { frames := R.frames, locals := R.locals, cells := 1, slots := 6 }) (Nat.le_refl _) (Nat.le_refl _) hRcells hRslots
  obtain ⟨s', hA⟩ : ∃ z, z = (T.setVm s.vm).setFrames (.invoking m args :: below) := ⟨_, rfl⟩
  rw [← hA] at Y
  have hvm : s'.vm = s.vm := by rw [hA]; rfl
  have hhp : s'.heap = H := by rw [hA]; exact hT
  have hW0 : s.WarmedH s'.vm := by rw [hvm]; exact State.WarmedH.refl s
  have hat' : ∀ w ∈ vx_atS own ic cls names, w.before args s' = true := fun w hw => vx_ot_at hW0 hvm.symm (hgood w (List.mem_cons_of_mem _ (List.mem_cons_of_mem _ hw))) (hat w hw)
  have hk' : (Cond.classLink own ik cls).before args s' = true := vx_ot_at hW0 hvm.symm (hgood _ List.mem_cons_self) hk
  have hini' : (Cond.initialized cls).before args s' = true := vx_ot_at hW0 hvm.symm (hgood _ (List.mem_cons_of_mem _ List.mem_cons_self)) hini
  have hU' : vx_Zq Bundle.tN "UNASSIGNED_STACK" Bundle.steD A s' s'.heap := by rw [hhp]; exact vx_Zq.moved hW0.alike (hU.kept hS.2.1)
  have hN' : vx_Zq Bundle.tN "SUPPRESSED_SENTINEL" Bundle.listD A s' s'.heap := by rw [hhp]; exact vx_Zq.moved hW0.alike (hN.kept hS.2.1)
  have h : ∀ w ∈ Bundle.ownAtoms own ic cls names, w.before args s' = true := vx_own hat' (vx_isRefq hU'.1) (vx_isRefq hN'.1) hU'.2.word hN'.2.word
  have hown' : s'.vm.findClass own = some m.cls := by rw [hvm]; exact hown
  have hins : (Cond.instantiable cls 6).before args s' = true := h _ (by simp [Bundle.ownAtoms])
  obtain ⟨vm₁, cX, kX, hfX, hkX, -, -, X₁, st1⟩ := Y.newCold hexec (own := own) (C := cls) (index := ik) (n := 6) hown' hk' hins hini'
    (g := F0 m pc ls rest) rfl (by rw [hb]; exact d0) (Nat.le_refl _) (Nat.le_refl _)
  generalize hT1 : (T.setVm vm₁).pushCell { cls := cX, slots := kX.instanceTypes.map defaultValue, vm := .none } = T1 at X₁ st1
  have hcat : (Value.ref T.heap.size).category = 1 := rfl
  have hcellA : T1.heap[T.heap.size]? = some (freshCell cX kX) := by rw [← hT1]; exact State.heap_pushCell_size _ _
  have d3' : decode c.code (pc + 3) = .ok (.dup, 1) := by rw [hb]; exact d3
  have d4' : decode c.code (pc + 4) = .ok (.ldc is, 2) := by rw [hb]; exact d4
  have hstr' : vk_R own is text sa s' := vk_R.warm hW0 hstr
  obtain ⟨U, hsteps, hrun, hend, hW, hsame, ce, hce, hO⟩ := X₁.ctorThrowS hexec htr (own := own) (cls := cls) (names := names) (ic := ic) hown' hcls hnames h (fun x hx => nomatch hx) hfX hkX hcellA (by rw [hhp, hT]; exact Nat.le_refl _) (msg := .ref sa) rfl
    (g := { method := m, pc := pc + 6, locals := ls, stack := .ref sa :: .ref T.heap.size :: .ref T.heap.size :: rest, locked := none }) rfl hsize rfl rfl (rest := rest) rfl
    (by rw [hb]; exact d6) (by rw [hb]; exact d9) hout hRframes (by simp only [List.map_cons, List.sum_cons, hcat]; omega) hlocks
  obtain ⟨f1, f2⟩ := vx_frame hsame
  rw [hhp] at f1 f2
  have hWs : s.WarmedH U.vm := State.WarmedH.trans hW0 hW
  have hcl : s.vm.findClass cls = some ce.cls := by
    have h9 := hO.cls
    rw [hvm] at h9
    exact h9
  have hall : s.sameButNew ({ U with vm := s.vm } : State) locs mc ms := by
    subst hA
    obtain ⟨e1, e2⟩ := hsame
    rw [State.setFrames_setFrames] at e1
    have h2 : (T.setVm s.vm).sameButNew ({ U with vm := s.vm } : State) [] (0 + 1) (0 + 6) := ⟨e1, e2⟩
    have h3 := X.same.trans h2
    rw [List.append_nil] at h3
    exact h3.mono hc hs
  refine ⟨U, ?_, .threw T.heap.size, hrun, hend, Or.inr ⟨T.heap.size, rfl, cls, ce, locs, hx U hWs.alike f1 (fun q hq => f2 q hq (fun z hz => nomatch hz)), hce, hO.vm, hcl, hWs, hall, hf⟩⟩
  refine st1 _ ?_
  show Steps p.tables e below (T1.setTop { method := m, pc := pc + 3, locals := ls, stack := .ref T.heap.size :: rest, locked := none }) _
  jvm_step X₁.here [X₁.here.top, hexec, d3', Value.category]
  exact X₁.ldcString hexec (own := own) (text := text) (index := is) (a := sa) hown' hstr'.1 hstr'.2
    (g := { method := m, pc := pc + 4, locals := ls, stack := .ref T.heap.size :: .ref T.heap.size :: rest, locked := none }) rfl d4' _ hsteps
/-- 'throw new E("text")', the text by a wide index -/
theorem vx_throwSW {cc : ByteArray} {pc : Nat} (hexec : p.tables.exec = Jvm.exec) (hb : c.code = cc) (hl : l.stackTraces = false) {own cls text : String} {names : List String} {ik is ic mc ms sa : Nat} {A : Nat → Prop}
    (hown : s.vm.findClass own = some m.cls) (hcls : Bundle.fit cls = true) (hnames : ∀ n ∈ names, Bundle.fit n = true)
    (hk : (Cond.classLink own ik cls).before args s = true) (hini : (Cond.initialized cls).before args s = true) (hstr : vk_R own is text sa s) (hat : ∀ w ∈ vx_atS own ic cls names, w.before args s = true)
    (hgood : ∀ w ∈ Cond.classLink own ik cls :: Cond.initialized cls :: vx_atS own ic cls names, vx_ot w = true)
    (hU : vx_Zq Bundle.tN "UNASSIGNED_STACK" Bundle.steD A s s.heap) (hN : vx_Zq Bundle.tN "SUPPRESSED_SENTINEL" Bundle.listD A s s.heap) (hS : va_S A s.heap H locs) (hsize : ls.size = c.maxLocals)
    (d0 : decode cc pc = .ok (.new ik, 3)) (d3 : decode cc (pc + 3) = .ok (.dup, 1)) (d4 : decode cc (pc + 4) = .ok (.ldc_w is, 3)) (d7 : decode cc (pc + 7) = .ok (.invokespecial ic, 3)) (d10 : decode cc (pc + 10) = .ok (.athrow, 1))
    (hout : ∀ x ∈ c.exceptionTable.toList, covers x (pc + 10) = false)
    (hRframes : names.length + 3 < R.frames) (hRlocals : (rest.map fun v => v.category).sum + (13 * (names.length + 1) + 43) ≤ R.locals) (hRcells : cells + 1 ≤ R.cells) (hRslots : slots + 6 ≤ R.slots) (hlocks : meth.locks = false)
    (hx : ∀ t : State, s.vm.Alike t.vm → H.size ≤ t.heap.size → (∀ q : Nat, q < H.size → t.heap[q]? = H[q]?) → XC cls s t)
    (hf : ∀ z ∈ locs, free z.base) (hc : cells + 1 ≤ mc) (hs : slots + 6 ≤ ms) :
    W p l e R s m args below meth c H locs cells slots (vx_MQ below Qc XC args s mc ms free) (F0 m pc ls rest) := by
  intro T hT X
  have htr : e.platform.stackTraces = false := (show e.platform.stackTraces = l.stackTraces by rw [X.admits.platform]).trans hl
  have Y := vx_rebase X (R' := { frames := R.frames, locals := R.locals, cells := 1, slots := 6 }) (Nat.le_refl _) (Nat.le_refl _) hRcells hRslots
  obtain ⟨s', hA⟩ : ∃ z, z = (T.setVm s.vm).setFrames (.invoking m args :: below) := ⟨_, rfl⟩
  rw [← hA] at Y
  have hvm : s'.vm = s.vm := by rw [hA]; rfl
  have hhp : s'.heap = H := by rw [hA]; exact hT
  have hW0 : s.WarmedH s'.vm := by rw [hvm]; exact State.WarmedH.refl s
  have hat' : ∀ w ∈ vx_atS own ic cls names, w.before args s' = true := fun w hw => vx_ot_at hW0 hvm.symm (hgood w (List.mem_cons_of_mem _ (List.mem_cons_of_mem _ hw))) (hat w hw)
  have hk' : (Cond.classLink own ik cls).before args s' = true := vx_ot_at hW0 hvm.symm (hgood _ List.mem_cons_self) hk
  have hini' : (Cond.initialized cls).before args s' = true := vx_ot_at hW0 hvm.symm (hgood _ (List.mem_cons_of_mem _ List.mem_cons_self)) hini
  have hU' : vx_Zq Bundle.tN "UNASSIGNED_STACK" Bundle.steD A s' s'.heap := by rw [hhp]; exact vx_Zq.moved hW0.alike (hU.kept hS.2.1)
  have hN' : vx_Zq Bundle.tN "SUPPRESSED_SENTINEL" Bundle.listD A s' s'.heap := by rw [hhp]; exact vx_Zq.moved hW0.alike (hN.kept hS.2.1)
  have h : ∀ w ∈ Bundle.ownAtoms own ic cls names, w.before args s' = true := vx_own hat' (vx_isRefq hU'.1) (vx_isRefq hN'.1) hU'.2.word hN'.2.word
  have hown' : s'.vm.findClass own = some m.cls := by rw [hvm]; exact hown
  have hins : (Cond.instantiable cls 6).before args s' = true := h _ (by simp [Bundle.ownAtoms])
  obtain ⟨vm₁, cX, kX, hfX, hkX, -, -, X₁, st1⟩ := Y.newCold hexec (own := own) (C := cls) (index := ik) (n := 6) hown' hk' hins hini'
    (g := F0 m pc ls rest) rfl (by rw [hb]; exact d0) (Nat.le_refl _) (Nat.le_refl _)
  generalize hT1 : (T.setVm vm₁).pushCell { cls := cX, slots := kX.instanceTypes.map defaultValue, vm := .none } = T1 at X₁ st1
  have hcat : (Value.ref T.heap.size).category = 1 := rfl
  have hcellA : T1.heap[T.heap.size]? = some (freshCell cX kX) := by rw [← hT1]; exact State.heap_pushCell_size _ _
  have d3' : decode c.code (pc + 3) = .ok (.dup, 1) := by rw [hb]; exact d3
  have d4' : decode c.code (pc + 4) = .ok (.ldc_w is, 3) := by rw [hb]; exact d4
  have hstr' : vk_R own is text sa s' := vk_R.warm hW0 hstr
  obtain ⟨U, hsteps, hrun, hend, hW, hsame, ce, hce, hO⟩ := X₁.ctorThrowS hexec htr (own := own) (cls := cls) (names := names) (ic := ic) hown' hcls hnames h (fun x hx => nomatch hx) hfX hkX hcellA (by rw [hhp, hT]; exact Nat.le_refl _) (msg := .ref sa) rfl
    (g := { method := m, pc := pc + 7, locals := ls, stack := .ref sa :: .ref T.heap.size :: .ref T.heap.size :: rest, locked := none }) rfl hsize rfl rfl (rest := rest) rfl
    (by rw [hb]; exact d7) (by rw [hb]; exact d10) hout hRframes (by simp only [List.map_cons, List.sum_cons, hcat]; omega) hlocks
  obtain ⟨f1, f2⟩ := vx_frame hsame
  rw [hhp] at f1 f2
  have hWs : s.WarmedH U.vm := State.WarmedH.trans hW0 hW
  have hcl : s.vm.findClass cls = some ce.cls := by
    have h9 := hO.cls
    rw [hvm] at h9
    exact h9
  have hall : s.sameButNew ({ U with vm := s.vm } : State) locs mc ms := by
    subst hA
    obtain ⟨e1, e2⟩ := hsame
    rw [State.setFrames_setFrames] at e1
    have h2 : (T.setVm s.vm).sameButNew ({ U with vm := s.vm } : State) [] (0 + 1) (0 + 6) := ⟨e1, e2⟩
    have h3 := X.same.trans h2
    rw [List.append_nil] at h3
    exact h3.mono hc hs
  refine ⟨U, ?_, .threw T.heap.size, hrun, hend, Or.inr ⟨T.heap.size, rfl, cls, ce, locs, hx U hWs.alike f1 (fun q hq => f2 q hq (fun z hz => nomatch hz)), hce, hO.vm, hcl, hWs, hall, hf⟩⟩
  refine st1 _ ?_
  show Steps p.tables e below (T1.setTop { method := m, pc := pc + 3, locals := ls, stack := .ref T.heap.size :: rest, locked := none }) _
  jvm_step X₁.here [X₁.here.top, hexec, d3', Value.category]
  exact X₁.ldcStringW hexec (own := own) (text := text) (index := is) (a := sa) hown' hstr'.1 hstr'.2
    (g := { method := m, pc := pc + 4, locals := ls, stack := .ref T.heap.size :: .ref T.heap.size :: rest, locked := none }) rfl d4' _ hsteps
end Ends
section Bodies
variable {l : Launch}
theorem vx_ofW {y : MethodName} {ws ws' : List Cond} {rm : Room} {Pc : Array Value → State → Prop} {Qc : Array Value → State → Outcome → State → Prop} {XC : String → State → State → Prop} {mc ms : Nat} {free : Addr → Prop} {cc : ByteArray} {maxL : Nat} {ret : Option FieldType}
    (hy : plainName y.cls = true) (hw : ws = Cond.code y cc maxL ret :: ws')
    (body : ∀ p e s m args below meth c s₁, BodyLoose p l y (headSpec ws rm) cc maxL ret e s m args below meth c s₁ → c.maxLocals = maxL → (∀ x ∈ c.exceptionTable.toList, False) → Pc args s →
      W p l e (headSpec ws rm).room s m args below meth c s.heap [] 0 0 (vx_MQ below Qc XC args s mc ms free) (entryFrame m args maxL)) : vx_Met l y ws rm Pc Qc XC mc ms free := by
  refine MetFree.of_bodyS (code := cc) (maxLocals := maxL) (ret := ret) hy ?_ ?_
  · intro args s m h hn
    obtain ⟨meth, c, h1, h2, h3, h4, h5, h6, -, -⟩ := Cond.code_spec hn (atoms_spec (ws := ws) h _ (by rw [hw]; exact List.mem_cons_self))
    exact ⟨meth, c, h1, h2, h3, h4, h5, h6⟩
  · intro p e s m args below meth c s₁ B hml hP _
    have hh0 : s₁.heap = s.heap := by rw [B.state]; rfl
    have ht : ∀ x ∈ c.exceptionTable.toList, False := by
      obtain ⟨meth9, c9, h1, h2, -, -, -, -, h7, -⟩ := Cond.code_spec B.named (atoms_spec (ws := ws) B.pre _ (by rw [hw]; exact List.mem_cons_self))
      cases Option.some.inj (h1.symm.trans B.method)
      cases Option.some.inj (h2.symm.trans (Stand.of_body B).code)
      intro x hx
      rw [Array.isEmpty_iff.mp h7] at hx
      cases hx
    obtain ⟨t, a1, o, b1, b2, b3⟩ := body p e s m args below meth c s₁ B hml ht hP s₁ hh0 (Stand.of_body B)
    exact ⟨t, o, a1, b1, b2, b3⟩
/-- the table of a body with handlers -/
theorem vx_table {p : Program} {x y : MethodName} {S : Spec} {cc bytes : ByteArray} {maxL maxL' : Nat} {ret ret' : Option FieldType} {e : Env} {s s₁ : State} {m : MethodId} {args : Array Value} {below : List Frame} {meth : Method} {c : Code} {hh : List (Nat × Nat × Nat × Nat)}
    (B : BodyLoose p l y S cc maxL ret e s m args below meth c s₁) (h : (Cond.codeWith y bytes maxL' ret' hh).before args s = true) : c.exceptionTable.toList = tableOf hh := by
  obtain ⟨m9, meth9, c9, hn9, h1, h2, -, -, h6, -⟩ := Cond.codeWith_spec h
  cases Option.some.inj (hn9.symm.trans B.named)
  cases Option.some.inj (h1.symm.trans B.method)
  cases Option.some.inj (h2.symm.trans (Stand.of_body B).code)
  rw [← h6, table_eq]
end Bodies
end VXA
/-! ===== END ===== -/
/-! ===== BEGIN a static call of a method with an exception table ===== -/
section VXS
variable {p : Program} {l : Launch} {e : Env} {R : Room} {s : State} {m : MethodId} {args : Array Value} {below : List Frame} {meth : Method} {c : Code} {T : State} {H : Heap} {locs : List Loc} {cells slots : Nat}
abbrev vx_CSW (R : Room) (s : State) (args : Array Value) (own : String) (index : Nat) (y : MethodName) (bytes : ByteArray) (maxL : Nat) (ret : Option FieldType) (hh : List (Nat × Nat × Nat × Nat)) (ws : List Cond) (rm : Room) (mc ms n : Nat) : Prop :=
  (rm.cells = mc ∧ rm.slots = ms ∧ rm.frames + 1 ≤ R.frames ∧ 8 + (maxL + 11) + rm.locals ≤ R.locals ∧ (∀ w ∈ ws, ∀ (a' : Array Value) (U : State), s.WarmedH U.vm → w.before a' U = true) ∧ Cond.codeWith y bytes maxL ret hh ∈ ws) ∧
  (Cond.codeWith y bytes maxL ret hh).before args s = true ∧ (Cond.initialized y.cls).before args s = true ∧ (y.cls ≠ "java/lang/invoke/MethodHandle" ∧ y.cls ≠ "java/lang/invoke/VarHandle") ∧
  (∀ sig, parseMethodDescriptor y.desc = some sig → n = sig.parameters.length) ∧ (Cond.methodLink own index y).before args s = true ∧ (Cond.static y).before args s = true
theorem vx_cwSW {own : String} {index maxL mc ms : Nat} {y : MethodName} {bytes : ByteArray} {ret : Option FieldType} {hh : List (Nat × Nat × Nat × Nat)} {Ts ws ws' : List Cond} {rm : Room} (n : Nat) (ht : ∀ w ∈ Ts, w.before args s = true) (hT : GoodIn Ts (va_wsS own index y ws)) (hw : ws = Cond.codeWith y bytes maxL ret hh :: ws') (hrc : rm.cells = mc) (hrs : rm.slots = ms)
    (hd : y.cls ≠ "java/lang/invoke/MethodHandle" ∧ y.cls ≠ "java/lang/invoke/VarHandle" ∧ (parseMethodDescriptor y.desc).map (fun d => d.parameters.length) = some n) (hR : rm.frames + 1 ≤ R.frames ∧ 8 + (maxL + 11) + rm.locals ≤ R.locals) :
    vx_CSW R s args own index y bytes maxL ret hh ws rm mc ms n := by
  have ok : ∀ w ∈ va_wsS own index y ws, w.before args s = true := fun w h => ht w (hT w h).1
  have hG : GoodIn Ts ws := fun w h => hT w (by unfold va_wsS; exact List.mem_append_right _ h)
  have hc : Cond.codeWith y bytes maxL ret hh ∈ ws := by rw [hw]; exact List.mem_cons_self
  refine ⟨⟨hrc, hrs, hR.1, hR.2, pay_in ht hG, hc⟩, ht _ (hG _ hc).1, ok _ (by simp [va_wsS]), ⟨hd.1, hd.2.1⟩, fun sig h => ?_, ok _ (by simp [va_wsS]), ok _ (by simp [va_wsS])⟩
  have h2 := hd.2.2
  rw [h] at h2
  exact (Option.some.inj h2).symm
theorem vx_callSW (X : Stand p l e R s m args below meth c T locs cells slots) (hexec : p.tables.exec = Jvm.exec) {own : String} {index : Nat} {y : MethodName} {bytes : ByteArray} {maxL : Nat} {ret : Option FieldType} {hh : List (Nat × Nat × Nat × Nat)}
    (hown : s.vm.findClass own = some m.cls) (hlink : (Cond.methodLink own index y).before args s = true) (hstat : (Cond.static y).before args s = true) (hinit : (Cond.initialized y.cls).before args s = true)
    (hcode : (Cond.codeWith y bytes maxL ret hh).before args s = true) (hy : y.cls ≠ "java/lang/invoke/MethodHandle" ∧ y.cls ≠ "java/lang/invoke/VarHandle")
    {W9 : Nat} {Pre : Pt → Array Value → Prop} {Post : Pt → Array Value → Option Value → Pt → Prop} (hK : Back l R p e below s args y 3 W9 Pre Post)
    {g : JFrame} (hg : g.method = m) (hsize : g.locals.size = c.maxLocals) {argsL rest : List Value} (hlen : ∀ sig, parseMethodDescriptor y.desc = some sig → argsL.length = sig.parameters.length)
    (hstack : g.stack = argsL.reverse ++ rest) (hW : 2 * g.monitorRoom + (rest.map fun v => v.category).sum ≤ W9) (hdg : decode c.code g.pc = .ok (.invokestatic index, 3))
    (hpre : ∀ vm₁, s.WarmedH vm₁ → Pre ⟨T.setVm vm₁, locs, cells, slots⟩ argsL.toArray) :
    ∃ (v : Option Value) (vm₁ : Vm) (B : Pt), s.WarmedH vm₁ ∧ Stand p l e R s m args below meth c B.U B.locs B.cells B.slots ∧ Post ⟨T.setVm vm₁, locs, cells, slots⟩ argsL.toArray v B ∧
      ∀ target, Steps p.tables e below (B.U.setTop { g with pc := g.pc + 3, stack := v.toList ++ rest }) target → Steps p.tables e below (T.setTop g) target := by
  obtain ⟨mk, methM, cM, hnamed, hmethM, -, -, -, -, -, -, hsigM⟩ := Cond.codeWith_spec hcode
  have hstatic : methM.isStatic = true := Cond.static_spec hnamed hmethM hstat
  obtain ⟨kP, hkP, -⟩ := className_of_methodNamed hnamed
  have hinitP : kP.init = .initialized := Cond.initialized_spec (findClass_of_methodNamed hnamed) hkP hinit
  obtain ⟨vm₁, X₁, hstep₁⟩ := X.invokestatic hexec hown hlink hnamed hmethM hstatic hkP hinitP hy (g := g) hg (argsL := argsL) (rest := rest) (hlen _ hsigM) hstack hdg
  obtain ⟨v, B, X', hpost, hsteps⟩ := hK m meth c ⟨T.setVm vm₁, locs, cells, slots⟩ { g with stack := rest } (.invokestatic index) mk argsL.toArray X₁ hg hsize hdg hW (X₁.named hnamed) (hpre vm₁ X₁.warmed)
  exact ⟨v, vm₁, B, X₁.warmed, X', hpost, fun target h => hstep₁ _ fun acts => by rw [doInvoke_state]; exact hsteps.trans h⟩
theorem vx_runSW {y : MethodName} {bytes cc : ByteArray} {maxL nL mc ms n index : Nat} {ret : Option FieldType} {hh : List (Nat × Nat × Nat × Nat)} {ws : List Cond} {rm : Room} {Pc : Array Value → State → Prop} {Qc : Array Value → State → Outcome → State → Prop} {free : Addr → Prop} {Ts : List Cond} {own : String} {As rest : List Value} {g : JFrame}
    (S : CallFix p m c cc nL s args Ts own) (hM : Met l y ws rm Pc Qc mc ms free) (cw : vx_CSW R s args own index y bytes maxL ret hh ws rm mc ms n) (hp : PreS s H Pc As)
    (hg : g.method = m) (hn : As.length = n) (hsize : g.locals.size = nL) (hstack : g.stack = As.reverse ++ rest) (hW : 2 * g.monitorRoom + (rest.map fun v => v.category).sum ≤ 8) (hdg : decode cc g.pc = .ok (.invokestatic index, 3)) (hf : cells + mc ≤ R.cells ∧ slots + ms ≤ R.slots) :
    va_Run p l e R s m args below meth c H locs cells slots mc ms g rest (Qc As.toArray) (free) := by
  obtain ⟨⟨hrc, hrs, hfr, hlo, hws, hcw⟩, hcode, hini, hy, hlen, hl, hstt⟩ := cw
  have hK : Back l R p e below s args y 3 8 (PreOf R mc ms Pc) (PostOf Qc mc ms free) := va_backW (hh := hh) (bytes := bytes) (maxL := maxL) (ret := ret) hM hp.1 hrc hrs hfr hlo hws hcw (fun a' U hW => word_at hW (Or.inl (by first | rfl | simp [Cond.onTables, Cond.keeps, Cond.steady])) hini)
  obtain ⟨hx, hb, hml, ho, -⟩ := S
  intro T hT X
  obtain ⟨v, vm₁, ⟨U', l2, c2, s2⟩, hW₁, X', ⟨g', mk, t, L, e1, e2, hq, h1, hL, h2, h3⟩, st⟩ := vx_callSW X hx (hh := hh) (bytes := bytes) (maxL := maxL) (ret := ret) ho hl hstt hini hcode hy hK hg (hsize.trans hml.symm) (argsL := As) (rest := rest) (fun sig h => hn.trans (hlen sig h)) hstack hW (by rw [hb]; exact hdg)
    (fun vm₁ hW₁ => ⟨hf.1, hf.2, hp.2 (T.setVm vm₁) hT hW₁⟩)
  dsimp only [Pt.U, Pt.locs, Pt.cells, Pt.slots] at X' e1 e2 h1 h2 h3 st
  subst h1; subst h2; subst h3
  exact ⟨v, (T.setVm vm₁).calling g' mk As.toArray, t, U', L, hT, X', hL, e1, e2, hq, st⟩
/-- a thing of a world lies in the heap -/
theorem vx_lt {D : va_G} {cl : List vw_C} {ws : va_W} {H1 : Heap} (h : va_P D cl ws H1) {k : Nat} {q : Nat × va_E} (hk : ws[k]? = some q) : q.1 < H1.size := (h k q hk).lt
end VXS
/-! ===== END ===== -/
/-! ===== BEGIN methods with a table of their own: called by a name, returning or throwing ===== -/
section VXH
/-! vx_backW, vx_callVX, vx_callSX, vx_callVW, vx_runVW, vx_runVX, vx_runSX, vx_ofWH follow the same proofs as their sisters above (Free/Laws.lean, Shelf42/LK1.lean); vx_outP calls Shelf42/NT130.lean (outThrough). -/
section
variable {l : Launch} {R : Room} {p : Program} {e : Env} {below : List Frame} {s : State} {sargs : Array Value} {y : MethodName} {len W9 : Nat}
theorem vx_backW {ws : List Cond} {rm : Room} {Pc : Array Value → State → Prop} {Qc : Array Value → State → Outcome → State → Prop} {XC : String → State → State → Prop} {mc ms : Nat} {free : Addr → Prop} {bytes : ByteArray} {maxL : Nat} {ret : Option FieldType} {hh : List (Nat × Nat × Nat × Nat)}
    (hM : vx_Met l y ws rm Pc Qc XC mc ms free) (hblind : FrameBlind Pc) (hrc : rm.cells = mc) (hrs : rm.slots = ms)
    (hframes : rm.frames + 1 ≤ R.frames) (hlocals : W9 + (maxL + 11) + rm.locals ≤ R.locals)
    (hws : ∀ w ∈ ws, ∀ a' U, s.WarmedH U.vm → w.before a' U = true) (hcode : Cond.codeWith y bytes maxL ret hh ∈ ws) (hinit : ∀ a' U, s.WarmedH U.vm → (Cond.initialized y.cls).before a' U = true) :
    vx_Back l R p e below s sargs y len W9 (PreOf R mc ms Pc) (PostOf Qc mc ms free) (vx_Post XC mc ms free) := by
  intro m meth c A g ig mk a X hg hsize hdg hW hn hp
  have h1 : (headSpec ws rm).pre.before a A.U = true := atoms_intro fun w hw => hws w hw _ _ X.warmed
  have h2 : (Cond.codeWith y bytes maxL ret hh).before a A.U = true := hws _ hcode _ _ X.warmed
  have h3 : (Cond.initialized y.cls).before a A.U = true := hinit _ _ X.warmed
  have h4 : A.cells + (headSpec ws rm).room.cells ≤ R.cells := by rw [show (headSpec ws rm).room.cells = mc from hrc]; exact hp.1
  have h5 : A.slots + (headSpec ws rm).room.slots ≤ R.slots := by rw [show (headSpec ws rm).room.slots = ms from hrs]; exact hp.2.1
  have hPc : Pc a (A.U.calling g mk a) := hblind _ _ _ _ hp.2.2
  obtain ⟨U, Ls, c0, s0⟩ := A
  dsimp only [Pt.U, Pt.locs, Pt.cells, Pt.slots] at h1 h2 h3 h4 h5 X hn hPc ⊢
  obtain ⟨m9, methY, cY, hn9, hmY, hcY, -, hlY, -⟩ := Cond.codeWith_spec h2
  cases Option.some.inj (hn9.symm.trans hn)
  obtain ⟨kY, hkY, -⟩ := className_of_methodNamed hn
  have hinitY : kY.init = .initialized := Cond.initialized_spec (findClass_of_methodNamed hn) hkY h3
  have h : At U g.method c below := by rw [hg]; exact X.here
  have hlocals9 : W9 + (maxL + 11) + (headSpec ws rm).room.locals ≤ R.locals := hlocals
  have happ : (headSpec ws rm).appliesLoose y e.platform (U.calling g mk a) = true :=
    Spec.appliesLoose_calling (g := g) h hdg hn hkY hinitY
      (X.room_calling (g := g) (R' := (headSpec ws rm).room) hsize hmY hcY hframes (by rw [hlY]; omega) h4 h5) h1
  obtain ⟨mid, hmid⟩ := h.above
  have hfr : (U.setTop g).frames = (.java g :: mid) ++ below := by rw [State.frames_setTop' g h.top, hmid]; rfl
  obtain ⟨o, s₂, hsteps, -, hend, hq⟩ := Steps.callFree hM p X.admits X.cas X.clock (acts := []) hfr happ hPc trivial
  have hq' : vx_Q Qc XC mc ms free a (U.calling g mk a) o s₂ := hq
  rw [State.frames_setTop' g h.top] at hend
  obtain ⟨g₀, hg0⟩ := Option.isSome_iff_exists.mp h.top
  obtain ⟨r, hr⟩ := State.topJava?_eq_some.mp hg0
  have hr' : (({ U with heap := s₂.heap, slotsUsed := s₂.slotsUsed } : State).setVm s₂.vm).frames = .java g₀ :: r := hr
  rcases hq' with ⟨hqc, L, hfe, hL⟩ | ⟨q, rfl, E, ce, L, hx, hce, hcv, hcl, hW₂, hsm, hL⟩
  · obtain ⟨⟨v, rfl⟩, hW₂, e2, q2, q3, q4, q5, q6⟩ := id hfe
    have e3 : s₂ = ({ (U.calling g mk a).setFrames s₂.frames with heap := s₂.heap, slotsUsed := s₂.slotsUsed } : State).setVm s₂.vm := by
      have : s₂ = ({ s₂ with vm := (U.calling g mk a).vm } : State).setVm s₂.vm := rfl
      rw [e2] at this
      exact this
    obtain ⟨c₂, i₂, len₂, hc₂, hd₂, hf₂⟩ := hend
    have hW' : U.WarmedH s₂.vm := hW₂
    have hcc : c₂ = c := by
      have h1 : s₂.code? g.method = U.code? g.method := by
        rw [State.code?_eq, State.code?_eq, hW'.alike.method?]
      exact Option.some.inj (hc₂.symm.trans (h1.trans h.code))
    subst hcc
    have hlen : len₂ = len := by rw [hdg] at hd₂; cases hd₂; rfl
    subst hlen
    have hs₂ : s₂ = (({ U with heap := s₂.heap, slotsUsed := s₂.slotsUsed } : State).setVm s₂.vm).setTop { g with pc := g.pc + len₂, stack := v.toList ++ g.stack } := by
      refine e3.trans ?_
      rw [hf₂, State.calling_eq h.top, State.setFrames_setFrames, State.setTop_of_frames _ hr', hr]
      rfl
    have hsame : U.sameButNew ({ U with heap := s₂.heap, slotsUsed := s₂.slotsUsed } : State) L mc ms := by
      refine ⟨?_, q2, q3, q4, q5, q6⟩
      obtain ⟨t, ht, -⟩ := State.frames_cons hr
      show ({ U with heap := s₂.heap, slotsUsed := s₂.slotsUsed } : State) = { U.setFrames U.frames with heap := s₂.heap, slotsUsed := s₂.slotsUsed }
      rw [State.setFrames_self ht]
    subst hg
    refine Or.inl ⟨v, ⟨(({ U with heap := s₂.heap, slotsUsed := s₂.slotsUsed } : State).setVm s₂.vm), Ls ++ L, c0 + mc, s0 + ms⟩,
      ⟨X.admits, X.cas, X.clock, X.frames, X.room, X.hears, X.method, X.code, (X.here.setHeapUsed s₂.heap s₂.slotsUsed).setVm hW'.alike, X.tail, State.WarmedH.trans X.warmed hW', X.limits, X.bytes, X.same.trans (hsame.setVm s.vm)⟩,
      ⟨g, mk, s₂, L, rfl, rfl, hqc, rfl, hL, rfl, rfl⟩, ?_⟩
    show Steps p.tables e below _ ((({ U with heap := s₂.heap, slotsUsed := s₂.slotsUsed } : State).setVm s₂.vm).setTop { g with pc := g.pc + len₂, stack := v.toList ++ g.stack })
    rw [← hs₂]
    exact hsteps
  · obtain ⟨e2, q2, q3, q4, q5, q6⟩ := id hsm
    have e3 : s₂ = ({ (U.calling g mk a).setFrames s₂.frames with heap := s₂.heap, slotsUsed := s₂.slotsUsed } : State).setVm s₂.vm := by
      have : s₂ = ({ s₂ with vm := (U.calling g mk a).vm } : State).setVm s₂.vm := rfl
      rw [e2] at this
      exact this
    have hf₂ : s₂.frames = .throwing q :: .java g :: U.frames.tail := hend
    have hW' : U.WarmedH s₂.vm := hW₂
    have hs₂ : s₂ = ((({ U with heap := s₂.heap, slotsUsed := s₂.slotsUsed } : State).setVm s₂.vm).setTop g).pushFrame (.throwing q) := by
      refine e3.trans ?_
      rw [hf₂, State.calling_eq h.top, State.setFrames_setFrames, State.pushFrame, State.frames_setTop _ hr', State.setTop_of_frames _ hr', State.setFrames_setFrames, hr]
      rfl
    have hsame : U.sameButNew ({ U with heap := s₂.heap, slotsUsed := s₂.slotsUsed } : State) L mc ms := by
      refine ⟨?_, q2, q3, q4, q5, q6⟩
      obtain ⟨t, ht, -⟩ := State.frames_cons hr
      show ({ U with heap := s₂.heap, slotsUsed := s₂.slotsUsed } : State) = { U.setFrames U.frames with heap := s₂.heap, slotsUsed := s₂.slotsUsed }
      rw [State.setFrames_self ht]
    subst hg
    refine Or.inr ⟨q, ⟨(({ U with heap := s₂.heap, slotsUsed := s₂.slotsUsed } : State).setVm s₂.vm), Ls ++ L, c0 + mc, s0 + ms⟩,
      ⟨X.admits, X.cas, X.clock, X.frames, X.room, X.hears, X.method, X.code, (X.here.setHeapUsed s₂.heap s₂.slotsUsed).setVm hW'.alike, X.tail, State.WarmedH.trans X.warmed hW', X.limits, X.bytes, X.same.trans (hsame.setVm s.vm)⟩,
      ⟨g, mk, s₂, L, E, ce, rfl, rfl, hx, hce, hcv, hcl, rfl, hL, rfl, rfl⟩, ?_⟩
    show Steps p.tables e below _ (((({ U with heap := s₂.heap, slotsUsed := s₂.slotsUsed } : State).setVm s₂.vm).setTop g).pushFrame (.throwing q))
    rw [← hs₂]
    exact hsteps
end
variable {p : Program} {l : Launch} {e : Env} {R : Room} {s : State} {m : MethodId} {args : Array Value} {below : List Frame} {meth : Method} {c : Code} {T : State} {H : Heap} {locs : List Loc} {cells slots : Nat}
theorem vx_callVX (X : Stand p l e R s m args below meth c T locs cells slots) (hexec : p.tables.exec = Jvm.exec) {own C : String} {index : Nat} {y : MethodName} {bytes : ByteArray} {maxL : Nat} {ret : Option FieldType} {hh : List (Nat × Nat × Nat × Nat)}
    (hown : s.vm.findClass own = some m.cls) (hlink : (Cond.methodLink own index y).before args s = true) (hinst : (Cond.instanceMethod y).before args s = true) (hsel : (Cond.selects C y y).before args s = true)
    (hcode : (Cond.codeWith y bytes maxL ret hh).before args s = true) (hy : y.cls ≠ "java/lang/invoke/MethodHandle" ∧ y.cls ≠ "java/lang/invoke/VarHandle")
    {W9 : Nat} {Pre : Pt → Array Value → Prop} {Post : Pt → Array Value → Option Value → Pt → Prop} {PostX : Pt → Array Value → Addr → Pt → Prop} (hK : vx_Back l R p e below s args y 3 W9 Pre Post PostX)
    {b : Addr} {cellB : Cell} (hcell : T.heap[b]? = some cellB) (hobj : cellB.vm.isStatics = false) (hcls : s.vm.findClass C = some cellB.cls)
    {g : JFrame} (hg : g.method = m) (hsize : g.locals.size = c.maxLocals) {argsL rest : List Value} (hlen : ∀ sig, parseMethodDescriptor y.desc = some sig → argsL.length = sig.parameters.length)
    (hstack : g.stack = argsL.reverse ++ .ref b :: rest) (hW : 2 * g.monitorRoom + (rest.map fun v => v.category).sum ≤ W9) (hdg : decode c.code g.pc = .ok (.invokevirtual index, 3))
    (hpre : ∀ vm₁, s.WarmedH vm₁ → Pre ⟨T.setVm vm₁, locs, cells, slots⟩ (Value.ref b :: argsL).toArray) :
    (∃ (v : Option Value) (vm₁ : Vm) (B : Pt), s.WarmedH vm₁ ∧ Stand p l e R s m args below meth c B.U B.locs B.cells B.slots ∧ Post ⟨T.setVm vm₁, locs, cells, slots⟩ (Value.ref b :: argsL).toArray v B ∧
      ∀ target, Steps p.tables e below (B.U.setTop { g with pc := g.pc + 3, stack := v.toList ++ rest }) target → Steps p.tables e below (T.setTop g) target) ∨
    (∃ (q : Addr) (vm₁ : Vm) (B : Pt), s.WarmedH vm₁ ∧ Stand p l e R s m args below meth c B.U B.locs B.cells B.slots ∧ PostX ⟨T.setVm vm₁, locs, cells, slots⟩ (Value.ref b :: argsL).toArray q B ∧
      Steps p.tables e below (T.setTop g) ((B.U.setTop { g with stack := rest }).pushFrame (.throwing q))) := by
  obtain ⟨mk, methM, hnamed, hmethM, hstM, habM⟩ := Cond.instanceMethod_spec hinst
  obtain ⟨m8, methM', cM, hn8, hmethM', -, -, -, -, -, -, hsigM⟩ := Cond.codeWith_spec hcode
  cases Option.some.inj (hn8.symm.trans hnamed)
  cases hmethM.symm.trans hmethM'
  obtain ⟨c2, r2, m2, q1, q2, q3, q4, kP, hkP, hkPi⟩ := Cond.selects_spec hsel
  cases hcls.symm.trans q1
  cases (State.methodFound?_of_named hnamed hy).symm.trans q2
  cases hnamed.symm.trans q3
  have hselP : selectMethod e.platform s.vm cellB.cls mk = .method mk := by rw [Launch.admits_selectMethod X.admits]; exact q4
  obtain ⟨vm₁, X₁, hstep₁⟩ := X.invokevirtual hexec hown hlink hnamed hmethM hstM hkP hkPi hy (a := b) (cell := cellB) hcell
    (fun z h => by rw [h] at hobj; cases hobj) hselP hmethM habM hkP hkPi (g := g) hg (argsL := argsL) (rest := rest) (hlen _ hsigM) hstack hdg
  rcases hK m meth c ⟨T.setVm vm₁, locs, cells, slots⟩ { g with stack := rest } (.invokevirtual index) mk (Value.ref b :: argsL).toArray X₁ hg hsize hdg hW (X₁.named hnamed) (hpre vm₁ X₁.warmed) with ⟨v, B, X', hpost, hsteps⟩ | ⟨q, B, X', hpost, hsteps⟩
  · exact Or.inl ⟨v, vm₁, B, X₁.warmed, X', hpost, fun target h => hstep₁ _ fun acts => by rw [doInvoke_state]; exact hsteps.trans h⟩
  · exact Or.inr ⟨q, vm₁, B, X₁.warmed, X', hpost, hstep₁ _ fun acts => by rw [doInvoke_state]; exact hsteps⟩
theorem vx_callSX (X : Stand p l e R s m args below meth c T locs cells slots) (hexec : p.tables.exec = Jvm.exec) {own : String} {index : Nat} {y : MethodName} {bytes : ByteArray} {maxL : Nat} {ret : Option FieldType} {hh : List (Nat × Nat × Nat × Nat)}
    (hown : s.vm.findClass own = some m.cls) (hlink : (Cond.methodLink own index y).before args s = true) (hstat : (Cond.static y).before args s = true) (hinit : (Cond.initialized y.cls).before args s = true)
    (hcode : (Cond.codeWith y bytes maxL ret hh).before args s = true) (hy : y.cls ≠ "java/lang/invoke/MethodHandle" ∧ y.cls ≠ "java/lang/invoke/VarHandle")
    {W9 : Nat} {Pre : Pt → Array Value → Prop} {Post : Pt → Array Value → Option Value → Pt → Prop} {PostX : Pt → Array Value → Addr → Pt → Prop} (hK : vx_Back l R p e below s args y 3 W9 Pre Post PostX)
    {g : JFrame} (hg : g.method = m) (hsize : g.locals.size = c.maxLocals) {argsL rest : List Value} (hlen : ∀ sig, parseMethodDescriptor y.desc = some sig → argsL.length = sig.parameters.length)
    (hstack : g.stack = argsL.reverse ++ rest) (hW : 2 * g.monitorRoom + (rest.map fun v => v.category).sum ≤ W9) (hdg : decode c.code g.pc = .ok (.invokestatic index, 3))
    (hpre : ∀ vm₁, s.WarmedH vm₁ → Pre ⟨T.setVm vm₁, locs, cells, slots⟩ argsL.toArray) :
    (∃ (v : Option Value) (vm₁ : Vm) (B : Pt), s.WarmedH vm₁ ∧ Stand p l e R s m args below meth c B.U B.locs B.cells B.slots ∧ Post ⟨T.setVm vm₁, locs, cells, slots⟩ argsL.toArray v B ∧
      ∀ target, Steps p.tables e below (B.U.setTop { g with pc := g.pc + 3, stack := v.toList ++ rest }) target → Steps p.tables e below (T.setTop g) target) ∨
    (∃ (q : Addr) (vm₁ : Vm) (B : Pt), s.WarmedH vm₁ ∧ Stand p l e R s m args below meth c B.U B.locs B.cells B.slots ∧ PostX ⟨T.setVm vm₁, locs, cells, slots⟩ argsL.toArray q B ∧
      Steps p.tables e below (T.setTop g) ((B.U.setTop { g with stack := rest }).pushFrame (.throwing q))) := by
  obtain ⟨mk, methM, cM, hnamed, hmethM, -, -, -, -, -, -, hsigM⟩ := Cond.codeWith_spec hcode
  have hstatic : methM.isStatic = true := Cond.static_spec hnamed hmethM hstat
  obtain ⟨kP, hkP, -⟩ := className_of_methodNamed hnamed
  have hinitP : kP.init = .initialized := Cond.initialized_spec (findClass_of_methodNamed hnamed) hkP hinit
  obtain ⟨vm₁, X₁, hstep₁⟩ := X.invokestatic hexec hown hlink hnamed hmethM hstatic hkP hinitP hy (g := g) hg (argsL := argsL) (rest := rest) (hlen _ hsigM) hstack hdg
  rcases hK m meth c ⟨T.setVm vm₁, locs, cells, slots⟩ { g with stack := rest } (.invokestatic index) mk argsL.toArray X₁ hg hsize hdg hW (X₁.named hnamed) (hpre vm₁ X₁.warmed) with ⟨v, B, X', hpost, hsteps⟩ | ⟨q, B, X', hpost, hsteps⟩
  · exact Or.inl ⟨v, vm₁, B, X₁.warmed, X', hpost, fun target h => hstep₁ _ fun acts => by rw [doInvoke_state]; exact hsteps.trans h⟩
  · exact Or.inr ⟨q, vm₁, B, X₁.warmed, X', hpost, hstep₁ _ fun acts => by rw [doInvoke_state]; exact hsteps⟩
theorem vx_callVW (X : Stand p l e R s m args below meth c T locs cells slots) (hexec : p.tables.exec = Jvm.exec) {own C : String} {index : Nat} {y : MethodName} {bytes : ByteArray} {maxL : Nat} {ret : Option FieldType} {hh : List (Nat × Nat × Nat × Nat)}
    (hown : s.vm.findClass own = some m.cls) (hlink : (Cond.methodLink own index y).before args s = true) (hinst : (Cond.instanceMethod y).before args s = true) (hsel : (Cond.selects C y y).before args s = true)
    (hcode : (Cond.codeWith y bytes maxL ret hh).before args s = true) (hy : y.cls ≠ "java/lang/invoke/MethodHandle" ∧ y.cls ≠ "java/lang/invoke/VarHandle")
    {W9 : Nat} {Pre : Pt → Array Value → Prop} {Post : Pt → Array Value → Option Value → Pt → Prop} (hK : Back l R p e below s args y 3 W9 Pre Post)
    {b : Addr} {cellB : Cell} (hcell : T.heap[b]? = some cellB) (hobj : cellB.vm.isStatics = false) (hcls : s.vm.findClass C = some cellB.cls)
    {g : JFrame} (hg : g.method = m) (hsize : g.locals.size = c.maxLocals) {argsL rest : List Value} (hlen : ∀ sig, parseMethodDescriptor y.desc = some sig → argsL.length = sig.parameters.length)
    (hstack : g.stack = argsL.reverse ++ .ref b :: rest) (hW : 2 * g.monitorRoom + (rest.map fun v => v.category).sum ≤ W9) (hdg : decode c.code g.pc = .ok (.invokevirtual index, 3))
    (hpre : ∀ vm₁, s.WarmedH vm₁ → Pre ⟨T.setVm vm₁, locs, cells, slots⟩ (Value.ref b :: argsL).toArray) :
    ∃ (v : Option Value) (vm₁ : Vm) (B : Pt), s.WarmedH vm₁ ∧ Stand p l e R s m args below meth c B.U B.locs B.cells B.slots ∧ Post ⟨T.setVm vm₁, locs, cells, slots⟩ (Value.ref b :: argsL).toArray v B ∧
      ∀ target, Steps p.tables e below (B.U.setTop { g with pc := g.pc + 3, stack := v.toList ++ rest }) target → Steps p.tables e below (T.setTop g) target := by
  obtain ⟨mk, methM, hnamed, hmethM, hstM, habM⟩ := Cond.instanceMethod_spec hinst
  obtain ⟨m8, methM', cM, hn8, hmethM', -, -, -, -, -, -, hsigM⟩ := Cond.codeWith_spec hcode
  cases Option.some.inj (hn8.symm.trans hnamed)
  cases hmethM.symm.trans hmethM'
  obtain ⟨c2, r2, m2, q1, q2, q3, q4, kP, hkP, hkPi⟩ := Cond.selects_spec hsel
  cases hcls.symm.trans q1
  cases (State.methodFound?_of_named hnamed hy).symm.trans q2
  cases hnamed.symm.trans q3
  have hselP : selectMethod e.platform s.vm cellB.cls mk = .method mk := by rw [Launch.admits_selectMethod X.admits]; exact q4
  obtain ⟨vm₁, X₁, hstep₁⟩ := X.invokevirtual hexec hown hlink hnamed hmethM hstM hkP hkPi hy (a := b) (cell := cellB) hcell
    (fun z h => by rw [h] at hobj; cases hobj) hselP hmethM habM hkP hkPi (g := g) hg (argsL := argsL) (rest := rest) (hlen _ hsigM) hstack hdg
  obtain ⟨v, B, X', hpost, hsteps⟩ := hK m meth c ⟨T.setVm vm₁, locs, cells, slots⟩ { g with stack := rest } (.invokevirtual index) mk (Value.ref b :: argsL).toArray X₁ hg hsize hdg hW (X₁.named hnamed) (hpre vm₁ X₁.warmed)
  exact ⟨v, vm₁, B, X₁.warmed, X', hpost, fun target h => hstep₁ _ fun acts => by rw [doInvoke_state]; exact hsteps.trans h⟩
abbrev vx_CVW (R : Room) (s : State) (args : Array Value) (own C : String) (index : Nat) (y : MethodName) (bytes : ByteArray) (maxL : Nat) (ret : Option FieldType) (hh : List (Nat × Nat × Nat × Nat)) (ws : List Cond) (rm : Room) (mc ms n : Nat) : Prop :=
  (rm.cells = mc ∧ rm.slots = ms ∧ rm.frames + 1 ≤ R.frames ∧ 8 + (maxL + 11) + rm.locals ≤ R.locals ∧ (∀ w ∈ ws, ∀ (a' : Array Value) (U : State), s.WarmedH U.vm → w.before a' U = true) ∧ Cond.codeWith y bytes maxL ret hh ∈ ws) ∧
  (Cond.codeWith y bytes maxL ret hh).before args s = true ∧ (Cond.initialized y.cls).before args s = true ∧ (y.cls ≠ "java/lang/invoke/MethodHandle" ∧ y.cls ≠ "java/lang/invoke/VarHandle") ∧
  (∀ sig, parseMethodDescriptor y.desc = some sig → n = sig.parameters.length) ∧ (Cond.methodLink own index y).before args s = true ∧ (Cond.instanceMethod y).before args s = true ∧ (Cond.selects C y y).before args s = true
theorem vx_cwVW {own C : String} {index maxL mc ms : Nat} {y : MethodName} {bytes : ByteArray} {ret : Option FieldType} {hh : List (Nat × Nat × Nat × Nat)} {Ts ws ws' : List Cond} {rm : Room} (n : Nat) (ht : ∀ w ∈ Ts, w.before args s = true) (hT : GoodIn Ts (wsV own index C y ws)) (hw : ws = Cond.codeWith y bytes maxL ret hh :: ws') (hrc : rm.cells = mc) (hrs : rm.slots = ms)
    (hd : y.cls = C ∧ y.cls ≠ "java/lang/invoke/MethodHandle" ∧ y.cls ≠ "java/lang/invoke/VarHandle" ∧ (parseMethodDescriptor y.desc).map (fun d => d.parameters.length) = some n) (hR : rm.frames + 1 ≤ R.frames ∧ 8 + (maxL + 11) + rm.locals ≤ R.locals) :
    vx_CVW R s args own C index y bytes maxL ret hh ws rm mc ms n := by
  obtain ⟨hC, hd⟩ := hd
  subst hC
  have ok : ∀ w ∈ wsV own index y.cls y ws, w.before args s = true := fun w h => ht w (hT w h).1
  have hG : GoodIn Ts ws := fun w h => hT w (by unfold wsV; exact List.mem_append_right _ h)
  have hc : Cond.codeWith y bytes maxL ret hh ∈ ws := by rw [hw]; exact List.mem_cons_self
  refine ⟨⟨hrc, hrs, hR.1, hR.2, pay_in ht hG, hc⟩, ht _ (hG _ hc).1, ok _ (by simp [wsV]), ⟨hd.1, hd.2.1⟩, fun sig h => ?_, ok _ (by simp [wsV]), ok _ (by simp [wsV]), ok _ (by simp [wsV])⟩
  have h2 := hd.2.2
  rw [h] at h2
  exact (Option.some.inj h2).symm
theorem vx_runVW {y : MethodName} {bytes cc : ByteArray} {maxL nL mc ms n index : Nat} {ret : Option FieldType} {hh : List (Nat × Nat × Nat × Nat)} {ws : List Cond} {rm : Room} {Pc : Array Value → State → Prop} {Qc : Array Value → State → Outcome → State → Prop} {free : Addr → Prop} {Ts : List Cond} {own C : String} {b : Addr} {As rest : List Value} {g : JFrame}
    (S : CallFix p m c cc nL s args Ts own) (hM : Met l y ws rm Pc Qc mc ms free) (cw : vx_CVW R s args own C index y bytes maxL ret hh ws rm mc ms n) (hp : PreV s H C b Pc As)
    (hg : g.method = m) (hn : As.length = n) (hsize : g.locals.size = nL) (hstack : g.stack = As.reverse ++ .ref b :: rest) (hW : 2 * g.monitorRoom + (rest.map fun v => v.category).sum ≤ 8) (hdg : decode cc g.pc = .ok (.invokevirtual index, 3)) (hf : cells + mc ≤ R.cells ∧ slots + ms ≤ R.slots) :
    va_Run p l e R s m args below meth c H locs cells slots mc ms g rest (Qc (Value.ref b :: As).toArray) free := by
  obtain ⟨⟨hrc, hrs, hfr, hlo, hws, hcw⟩, hcode, hini, hy, hlen, hl, hin, hse⟩ := cw
  have hK : Back l R p e below s args y 3 8 (PreOf R mc ms Pc) (PostOf Qc mc ms free) := va_backW (hh := hh) (bytes := bytes) (maxL := maxL) (ret := ret) hM hp.1 hrc hrs hfr hlo hws hcw (fun a' U hW => word_at hW (Or.inl (by first | rfl | simp [Cond.onTables, Cond.keeps, Cond.steady])) hini)
  obtain ⟨hx, hb, hml, ho, -⟩ := S
  obtain ⟨-, ⟨cellB, hcB, hoB, hclB⟩, hPc⟩ := hp
  intro T hT X
  obtain ⟨v, vm₁, ⟨U', l2, c2, s2⟩, hW₁, X', ⟨g', mk, t, L, e1, e2, hq, h1, hL, h2, h3⟩, st⟩ := vx_callVW X hx (C := C) (hh := hh) (bytes := bytes) (maxL := maxL) (ret := ret) ho hl hin hse hcode hy hK (by rw [hT]; exact hcB) hoB hclB hg (hsize.trans hml.symm) (argsL := As) (rest := rest) (fun sig h => hn.trans (hlen sig h)) hstack hW (by rw [hb]; exact hdg)
    (fun vm₁ hW₁ => ⟨hf.1, hf.2, hPc (T.setVm vm₁) hT hW₁⟩)
  dsimp only [Pt.U, Pt.locs, Pt.cells, Pt.slots] at X' e1 e2 h1 h2 h3 st
  subst h1; subst h2; subst h3
  exact ⟨v, (T.setVm vm₁).calling g' mk (Value.ref b :: As).toArray, t, U', L, hT, X', hL, e1, e2, hq, st⟩
section
variable {y : MethodName} {bytes cc : ByteArray} {maxL nL mc ms n index : Nat} {ret : Option FieldType} {ws : List Cond} {rm : Room} {Pc : Array Value → State → Prop} {Qc : Array Value → State → Outcome → State → Prop} {XC : String → State → State → Prop} {free : Addr → Prop} {Ts : List Cond} {own C : String} {b : Addr} {As rest : List Value} {g : JFrame}
theorem vx_runVX {hh : List (Nat × Nat × Nat × Nat)} (S : CallFix p m c cc nL s args Ts own) (hM : vx_Met l y ws rm Pc Qc XC mc ms free) (cw : vx_CVW R s args own C index y bytes maxL ret hh ws rm mc ms n) (hp : PreV s H C b Pc As)
    (hg : g.method = m) (hn : As.length = n) (hsize : g.locals.size = nL) (hstack : g.stack = As.reverse ++ .ref b :: rest) (hW : 2 * g.monitorRoom + (rest.map fun v => v.category).sum ≤ 8) (hdg : decode cc g.pc = .ok (.invokevirtual index, 3)) (hf : cells + mc ≤ R.cells ∧ slots + ms ≤ R.slots) :
    vx_Run p l e R s m args below meth c H locs cells slots mc ms g rest (Qc (Value.ref b :: As).toArray) XC free := by
  obtain ⟨⟨hrc, hrs, hfr, hlo, hws, hcw⟩, hcode, hini, hy, hlen, hl, hin, hse⟩ := cw
  have hK : vx_Back l R p e below s args y 3 8 (PreOf R mc ms Pc) (PostOf Qc mc ms free) (vx_Post XC mc ms free) := vx_backW (hh := hh) (bytes := bytes) (maxL := maxL) (ret := ret) hM hp.1 hrc hrs hfr hlo hws hcw (fun a' U hW => word_at hW (Or.inl (by first | rfl | simp [Cond.onTables, Cond.keeps, Cond.steady])) hini)
  obtain ⟨hx, hb, hml, ho, -⟩ := S
  obtain ⟨-, ⟨cellB, hcB, hoB, hclB⟩, hPc⟩ := hp
  intro T hT X
  rcases vx_callVX X hx (C := C) (hh := hh) (bytes := bytes) (maxL := maxL) (ret := ret) ho hl hin hse hcode hy hK (by rw [hT]; exact hcB) hoB hclB hg (hsize.trans hml.symm) (argsL := As) (rest := rest) (fun sig h => hn.trans (hlen sig h)) hstack hW (by rw [hb]; exact hdg)
    (fun vm₁ hW₁ => ⟨hf.1, hf.2, hPc (T.setVm vm₁) hT hW₁⟩) with ⟨v, vm₁, ⟨U', l2, c2, s2⟩, hW₁, X', ⟨g', mk, t, L, e1, e2, hq, h1, hL, h2, h3⟩, st⟩ | ⟨q, vm₁, ⟨U', l2, c2, s2⟩, hW₁, X', ⟨g', mk, t, L, E, ce, e1, e2, hq, hce, hcv, hcl, h1, hL, h2, h3⟩, st⟩
  · dsimp only [Pt.U, Pt.locs, Pt.cells, Pt.slots] at X' e1 e2 h1 h2 h3 st
    subst h1; subst h2; subst h3
    exact Or.inl ⟨v, (T.setVm vm₁).calling g' mk (Value.ref b :: As).toArray, t, U', L, hT, X', hL, e1, e2, hq, st⟩
  · dsimp only [Pt.U, Pt.locs, Pt.cells, Pt.slots] at X' e1 e2 h1 h2 h3 st hcl
    subst h1; subst h2; subst h3
    exact Or.inr ⟨q, (T.setVm vm₁).calling g' mk (Value.ref b :: As).toArray, t, U', L, E, ce, hT, X', hL, e1, e2, hq, hce, hcv, vx_cls hW₁ hcl, st⟩
theorem vx_runSX {hh : List (Nat × Nat × Nat × Nat)} (S : CallFix p m c cc nL s args Ts own) (hM : vx_Met l y ws rm Pc Qc XC mc ms free) (cw : vx_CSW R s args own index y bytes maxL ret hh ws rm mc ms n) (hp : PreS s H Pc As)
    (hg : g.method = m) (hn : As.length = n) (hsize : g.locals.size = nL) (hstack : g.stack = As.reverse ++ rest) (hW : 2 * g.monitorRoom + (rest.map fun v => v.category).sum ≤ 8) (hdg : decode cc g.pc = .ok (.invokestatic index, 3)) (hf : cells + mc ≤ R.cells ∧ slots + ms ≤ R.slots) :
    vx_Run p l e R s m args below meth c H locs cells slots mc ms g rest (Qc As.toArray) XC free := by
  obtain ⟨⟨hrc, hrs, hfr, hlo, hws, hcw⟩, hcode, hini, hy, hlen, hl, hstt⟩ := cw
  have hK : vx_Back l R p e below s args y 3 8 (PreOf R mc ms Pc) (PostOf Qc mc ms free) (vx_Post XC mc ms free) := vx_backW (hh := hh) (bytes := bytes) (maxL := maxL) (ret := ret) hM hp.1 hrc hrs hfr hlo hws hcw (fun a' U hW => word_at hW (Or.inl (by first | rfl | simp [Cond.onTables, Cond.keeps, Cond.steady])) hini)
  obtain ⟨hx, hb, hml, ho, -⟩ := S
  intro T hT X
  rcases vx_callSX X hx (hh := hh) (bytes := bytes) (maxL := maxL) (ret := ret) ho hl hstt hini hcode hy hK hg (hsize.trans hml.symm) (argsL := As) (rest := rest) (fun sig h => hn.trans (hlen sig h)) hstack hW (by rw [hb]; exact hdg)
    (fun vm₁ hW₁ => ⟨hf.1, hf.2, hp.2 (T.setVm vm₁) hT hW₁⟩) with ⟨v, vm₁, ⟨U', l2, c2, s2⟩, hW₁, X', ⟨g', mk, t, L, e1, e2, hq, h1, hL, h2, h3⟩, st⟩ | ⟨q, vm₁, ⟨U', l2, c2, s2⟩, hW₁, X', ⟨g', mk, t, L, E, ce, e1, e2, hq, hce, hcv, hcl, h1, hL, h2, h3⟩, st⟩
  · dsimp only [Pt.U, Pt.locs, Pt.cells, Pt.slots] at X' e1 e2 h1 h2 h3 st
    subst h1; subst h2; subst h3
    exact Or.inl ⟨v, (T.setVm vm₁).calling g' mk As.toArray, t, U', L, hT, X', hL, e1, e2, hq, st⟩
  · dsimp only [Pt.U, Pt.locs, Pt.cells, Pt.slots] at X' e1 e2 h1 h2 h3 st hcl
    subst h1; subst h2; subst h3
    exact Or.inr ⟨q, (T.setVm vm₁).calling g' mk As.toArray, t, U', L, E, ce, hT, X', hL, e1, e2, hq, hce, hcv, vx_cls hW₁ hcl, st⟩
end
end VXH
theorem vx_ofWH {l : Launch} {y : MethodName} {ws ws' : List Cond} {rm : Room} {Pc : Array Value → State → Prop} {Qc : Array Value → State → Outcome → State → Prop} {XC : String → State → State → Prop} {mc ms : Nat} {free : Addr → Prop} {cc : ByteArray} {maxL : Nat} {ret : Option FieldType} {hh : List (Nat × Nat × Nat × Nat)}
    (hy : plainName y.cls = true) (hw : ws = Cond.codeWith y cc maxL ret hh :: ws')
    (body : ∀ p e s m args below meth c s₁, BodyLoose p l y (headSpec ws rm) cc maxL ret e s m args below meth c s₁ → c.maxLocals = maxL → Pc args s →
      W p l e (headSpec ws rm).room s m args below meth c s.heap [] 0 0 (vx_MQ below Qc XC args s mc ms free) (entryFrame m args maxL)) : vx_Met l y ws rm Pc Qc XC mc ms free := by
  refine MetFree.of_bodyS (code := cc) (maxLocals := maxL) (ret := ret) hy ?_ ?_
  · intro args s m h hn
    obtain ⟨m9, meth, c, hn9, h1, h2, h3, h4, -, h5, h6, -⟩ := Cond.codeWith_spec (atoms_spec (ws := ws) h _ (by rw [hw]; exact List.mem_cons_self))
    cases hn.symm.trans hn9
    exact ⟨meth, c, h1, h2, h3, h4, h5, h6⟩
  · intro p e s m args below meth c s₁ B hml hP _
    have hh0 : s₁.heap = s.heap := by rw [B.state]; rfl
    obtain ⟨t, a1, o, b1, b2, b3⟩ := body p e s m args below meth c s₁ B hml hP s₁ hh0 (Stand.of_body B)
    exact ⟨t, o, a1, b1, b2, b3⟩
/-! ===== END ===== -/
end
section
def RX0 : String := "RoutePlanner$Graph"
def TX0 : u_T := fun k => match k with
  | 0 => ("RoutePlanner$Graph", "xs", "[I", true)
  | 1 => ("RoutePlanner$Graph", "ys", "[I", true)
  | 2 => ("RoutePlanner$Graph", "potentials", "[J", true)
  | 3 => ("RoutePlanner$Graph", "tails", "[I", true)
  | 4 => ("RoutePlanner$Graph", "heads", "[I", true)
  | 5 => ("RoutePlanner$Graph", "weights", "[J", true)
  | 6 => ("RoutePlanner$Graph", "net", "LRoutePlanner$Net;", true)
  | 7 => ("RoutePlanner$Graph", "nodes", "I", false)
  | 8 => ("RoutePlanner$Graph", "arcs", "I", false)
  | _ => ("RoutePlanner$Graph", "sum", "J", false)
def tyX0 : Nat → FieldType := fun k => match k with
  | 0 => .array .int
  | 1 => .array .int
  | 2 => .array .long
  | 3 => .array .int
  | 4 => .array .int
  | 5 => .array .long
  | 6 => .object "RoutePlanner$Net"
  | 7 => .int
  | 8 => .int
  | _ => .long
abbrev wsX00 : List Cond := u_ws RX0 TX0 10
theorem nmX0 : ∀ a, a < 10 → ∀ b, b < 10 → a ≠ b → (TX0 a).2.1 ≠ (TX0 b).2.1 := by decide +kernel
theorem tyX0_ok : ∀ k, k < 10 → parseFieldDescriptor (TX0 k).2.2.1 = some (tyX0 k) := by decide +kernel
abbrev cX0_init : ByteArray := prog_2_method_1_code
def yX0_init : MethodName := ⟨RX0, "<init>", "()V"⟩
abbrev cX0_hasNode : ByteArray := prog_2_method_2_code
def yX0_hasNode : MethodName := ⟨RX0, "hasNode", "(I)Z"⟩
abbrev cX0_hasArc : ByteArray := prog_2_method_3_code
def yX0_hasArc : MethodName := ⟨RX0, "hasArc", "(I)Z"⟩
abbrev cX0_putNode : ByteArray := prog_2_method_4_code
def yX0_putNode : MethodName := ⟨RX0, "putNode", "(III)V"⟩
abbrev cX0_putArc : ByteArray := prog_2_method_5_code
def yX0_putArc : MethodName := ⟨RX0, "putArc", "(IIIJ)V"⟩
abbrev cX0_take : ByteArray := prog_2_method_6_code
def yX0_take : MethodName := ⟨RX0, "take", "(IIJ)V"⟩
abbrev cX0_touching : ByteArray := prog_2_method_7_code
def yX0_touching : MethodName := ⟨RX0, "touching", "([II)I"⟩
abbrev cX0_apart : ByteArray := prog_2_method_8_code
def yX0_apart : MethodName := ⟨RX0, "apart", "(II)J"⟩
abbrev cX0_firstInconsistent : ByteArray := prog_2_method_9_code
def yX0_firstInconsistent : MethodName := ⟨RX0, "firstInconsistent", "([J)I"⟩
def RX1 : String := "RoutePlanner$Hierarchy"
def TX1 : u_T := fun k => match k with
  | 0 => ("RoutePlanner$Hierarchy", "net", "LRoutePlanner$Net;", true)
  | 1 => ("RoutePlanner$Hierarchy", "ranks", "[I", true)
  | 2 => ("RoutePlanner$Hierarchy", "row", "[I", true)
  | 3 => ("RoutePlanner$Hierarchy", "made", "Z", false)
  | 4 => ("RoutePlanner$Hierarchy", "placed", "I", false)
  | 5 => ("RoutePlanner$Hierarchy", "shortcuts", "I", false)
  | 6 => ("RoutePlanner$Hierarchy", "perShortcut", "I", false)
  | 7 => ("RoutePlanner$Hierarchy", "perEdge", "I", false)
  | 8 => ("RoutePlanner$Hierarchy", "perContracted", "I", false)
  | 9 => ("RoutePlanner$Hierarchy", "witnesses", "LRoutePlanner$Ways;", true)
  | 10 => ("RoutePlanner$Hierarchy", "contractedBeside", "[I", true)
  | 11 => ("RoutePlanner$Hierarchy", "wantedFrom", "[I", true)
  | 12 => ("RoutePlanner$Hierarchy", "wantedTo", "[I", true)
  | _ => ("RoutePlanner$Hierarchy", "wanted", "I", false)
def tyX1 : Nat → FieldType := fun k => match k with
  | 0 => .object "RoutePlanner$Net"
  | 1 => .array .int
  | 2 => .array .int
  | 3 => .boolean
  | 4 => .int
  | 5 => .int
  | 6 => .int
  | 7 => .int
  | 8 => .int
  | 9 => .object "RoutePlanner$Ways"
  | 10 => .array .int
  | 11 => .array .int
  | 12 => .array .int
  | _ => .int
abbrev wsX10 : List Cond := u_ws RX1 TX1 14
theorem nmX1 : ∀ a, a < 14 → ∀ b, b < 14 → a ≠ b → (TX1 a).2.1 ≠ (TX1 b).2.1 := by decide +kernel
theorem tyX1_ok : ∀ k, k < 14 → parseFieldDescriptor (TX1 k).2.2.1 = some (tyX1 k) := by decide +kernel
abbrev cX1_init : ByteArray := prog_3_method_1_code
def yX1_init : MethodName := ⟨RX1, "<init>", "()V"⟩
abbrev cX1_begin : ByteArray := prog_3_method_2_code
def yX1_begin : MethodName := ⟨RX1, "begin", "(LRoutePlanner$Net;)V"⟩
abbrev cX1_cheapest : ByteArray := prog_3_method_3_code
def yX1_cheapest : MethodName := ⟨RX1, "cheapest", "()I"⟩
abbrev cX1_edgesOf : ByteArray := prog_3_method_4_code
def yX1_edgesOf : MethodName := ⟨RX1, "edgesOf", "(I)I"⟩
abbrev cX1_contract : ByteArray := prog_3_method_5_code
def yX1_contract : MethodName := ⟨RX1, "contract", "(I)V"⟩
abbrev cX1_askForShortcuts : ByteArray := prog_3_method_6_code
def yX1_askForShortcuts : MethodName := ⟨RX1, "askForShortcuts", "(I)V"⟩
abbrev cX1_askFrom : ByteArray := prog_3_method_7_code
def yX1_askFrom : MethodName := ⟨RX1, "askFrom", "(II)V"⟩
abbrev cX1_isPair : ByteArray := prog_3_method_8_code
def yX1_isPair : MethodName := ⟨RX1, "isPair", "(III)Z"⟩
abbrev cX1_isBridged : ByteArray := prog_3_method_9_code
def yX1_isBridged : MethodName := ⟨RX1, "isBridged", "(III)Z"⟩
abbrev cX1_isUp : ByteArray := prog_3_method_10_code
def yX1_isUp : MethodName := ⟨RX1, "isUp", "(II)Z"⟩
abbrev cX1_isDown : ByteArray := prog_3_method_11_code
def yX1_isDown : MethodName := ⟨RX1, "isDown", "(II)Z"⟩
abbrev cX1_cellOf : ByteArray := prog_3_method_12_code
def yX1_cellOf : MethodName := ⟨RX1, "cellOf", "(IZI)I"⟩
def RX2 : String := "RoutePlanner$Landmarks"
def TX2 : u_T := fun k => match k with
  | 0 => ("RoutePlanner$Landmarks", "nodes", "[I", true)
  | 1 => ("RoutePlanner$Landmarks", "potentials", "[J", true)
  | 2 => ("RoutePlanner$Landmarks", "size", "I", false)
  | 3 => ("RoutePlanner$Landmarks", "from", "LRoutePlanner$Ways;", true)
  | _ => ("RoutePlanner$Landmarks", "into", "LRoutePlanner$Ways;", true)
def tyX2 : Nat → FieldType := fun k => match k with
  | 0 => .array .int
  | 1 => .array .long
  | 2 => .int
  | 3 => .object "RoutePlanner$Ways"
  | _ => .object "RoutePlanner$Ways"
abbrev wsX20 : List Cond := u_ws RX2 TX2 5
theorem nmX2 : ∀ a, a < 5 → ∀ b, b < 5 → a ≠ b → (TX2 a).2.1 ≠ (TX2 b).2.1 := by decide +kernel
theorem tyX2_ok : ∀ k, k < 5 → parseFieldDescriptor (TX2 k).2.2.1 = some (tyX2 k) := by decide +kernel
abbrev cX2_init : ByteArray := prog_4_method_1_code
def yX2_init : MethodName := ⟨RX2, "<init>", "()V"⟩
abbrev cX2_lookTowards : ByteArray := prog_4_method_2_code
def yX2_lookTowards : MethodName := ⟨RX2, "lookTowards", "(LRoutePlanner$Net;I)V"⟩
abbrev cX2_raise : ByteArray := prog_4_method_3_code
def yX2_raise : MethodName := ⟨RX2, "raise", "(IJ)V"⟩
abbrev cX2_gap : ByteArray := prog_4_method_4_code
def yX2_gap : MethodName := ⟨RX2, "gap", "(LRoutePlanner$Ways;II)J"⟩
def RX3 : String := "RoutePlanner$Net"
def TX3 : u_T := fun k => match k with
  | 0 => ("RoutePlanner$Net", "lengths", "[J", true)
  | 1 => ("RoutePlanner$Net", "counts", "[I", true)
  | 2 => ("RoutePlanner$Net", "overs", "[I", true)
  | 3 => ("RoutePlanner$Net", "arcNumbers", "[I", true)
  | 4 => ("RoutePlanner$Net", "left", "[Z", true)
  | _ => ("RoutePlanner$Net", "nodes", "I", false)
def tyX3 : Nat → FieldType := fun k => match k with
  | 0 => .array .long
  | 1 => .array .int
  | 2 => .array .int
  | 3 => .array .int
  | 4 => .array .boolean
  | _ => .int
abbrev wsX30 : List Cond := u_ws RX3 TX3 6
theorem nmX3 : ∀ a, a < 6 → ∀ b, b < 6 → a ≠ b → (TX3 a).2.1 ≠ (TX3 b).2.1 := by decide +kernel
theorem tyX3_ok : ∀ k, k < 6 → parseFieldDescriptor (TX3 k).2.2.1 = some (tyX3 k) := by decide +kernel
abbrev cX3_init : ByteArray := prog_5_method_1_code
def yX3_init : MethodName := ⟨RX3, "<init>", "()V"⟩
abbrev cX3_cell : ByteArray := prog_5_method_2_code
def yX3_cell : MethodName := ⟨RX3, "cell", "(II)I"⟩
abbrev cX3_has : ByteArray := prog_5_method_3_code
def yX3_has : MethodName := ⟨RX3, "has", "(II)Z"⟩
abbrev cX3_empty : ByteArray := prog_5_method_4_code
def yX3_empty : MethodName := ⟨RX3, "empty", "(I)V"⟩
abbrev cX3_copy : ByteArray := prog_5_method_5_code
def yX3_copy : MethodName := ⟨RX3, "copy", "(LRoutePlanner$Net;)V"⟩
abbrev cX3_leaveAll : ByteArray := prog_5_method_6_code
def yX3_leaveAll : MethodName := ⟨RX3, "leaveAll", "()V"⟩
abbrev cX3_offerArc : ByteArray := prog_5_method_7_code
def yX3_offerArc : MethodName := ⟨RX3, "offerArc", "(IIJI)V"⟩
abbrev cX3_putShortcut : ByteArray := prog_5_method_8_code
def yX3_putShortcut : MethodName := ⟨RX3, "putShortcut", "(III)V"⟩
abbrev cX3_lengthVia : ByteArray := prog_5_method_9_code
def yX3_lengthVia : MethodName := ⟨RX3, "lengthVia", "(III)J"⟩
abbrev cX3_countVia : ByteArray := prog_5_method_10_code
def yX3_countVia : MethodName := ⟨RX3, "countVia", "(III)I"⟩
abbrev cX3_howManyEdges : ByteArray := prog_5_method_11_code
def yX3_howManyEdges : MethodName := ⟨RX3, "howManyEdges", "(Z)I"⟩
def RX4 : String := "RoutePlanner$Reader"
def TX4 : u_T := fun k => match k with
  | 0 => ("RoutePlanner$Reader", "tape", "LRoutePlanner$Tape;", true)
  | 1 => ("RoutePlanner$Reader", "graph", "LRoutePlanner$Graph;", true)
  | 2 => ("RoutePlanner$Reader", "at", "I", false)
  | 3 => ("RoutePlanner$Reader", "wordAt", "I", false)
  | 4 => ("RoutePlanner$Reader", "fault", "I", false)
  | 5 => ("RoutePlanner$Reader", "faultPlace", "I", false)
  | 6 => ("RoutePlanner$Reader", "nodes", "I", false)
  | 7 => ("RoutePlanner$Reader", "arcs", "I", false)
  | _ => ("RoutePlanner$Reader", "sum", "J", false)
def tyX4 : Nat → FieldType := fun k => match k with
  | 0 => .object "RoutePlanner$Tape"
  | 1 => .object "RoutePlanner$Graph"
  | 2 => .int
  | 3 => .int
  | 4 => .int
  | 5 => .int
  | 6 => .int
  | 7 => .int
  | _ => .long
abbrev wsX40 : List Cond := u_ws RX4 TX4 9
theorem nmX4 : ∀ a, a < 9 → ∀ b, b < 9 → a ≠ b → (TX4 a).2.1 ≠ (TX4 b).2.1 := by decide +kernel
theorem tyX4_ok : ∀ k, k < 9 → parseFieldDescriptor (TX4 k).2.2.1 = some (tyX4 k) := by decide +kernel
abbrev cX4_init : ByteArray := prog_6_method_1_code
def yX4_init : MethodName := ⟨RX4, "<init>", "(LRoutePlanner$Tape;LRoutePlanner$Graph;)V"⟩
abbrev cX4_readTape : ByteArray := prog_6_method_2_code
def yX4_readTape : MethodName := ⟨RX4, "readTape", "()I"⟩
abbrev cX4_readLine : ByteArray := prog_6_method_3_code
def yX4_readLine : MethodName := ⟨RX4, "readLine", "()V"⟩
abbrev cX4_readNode : ByteArray := prog_6_method_4_code
def yX4_readNode : MethodName := ⟨RX4, "readNode", "()V"⟩
abbrev cX4_readArcs : ByteArray := prog_6_method_5_code
def yX4_readArcs : MethodName := ⟨RX4, "readArcs", "(Z)V"⟩
abbrev cX4_putArc : ByteArray := prog_6_method_6_code
def yX4_putArc : MethodName := ⟨RX4, "putArc", "(IIJ)V"⟩
abbrev cX4_nextNode : ByteArray := prog_6_method_7_code
def yX4_nextNode : MethodName := ⟨RX4, "nextNode", "()I"⟩
abbrev cX4_nextNumber : ByteArray := prog_6_method_8_code
def yX4_nextNumber : MethodName := ⟨RX4, "nextNumber", "(ZJ)J"⟩
abbrev cX4_numberOfWord : ByteArray := prog_6_method_9_code
def yX4_numberOfWord : MethodName := ⟨RX4, "numberOfWord", "(Z)J"⟩
abbrev cX4_nextWord : ByteArray := prog_6_method_10_code
def yX4_nextWord : MethodName := ⟨RX4, "nextWord", "()Z"⟩
abbrev cX4_skip : ByteArray := prog_6_method_11_code
def yX4_skip : MethodName := ⟨RX4, "skip", "(II)V"⟩
abbrev cX4_isWord : ByteArray := prog_6_method_12_code
def yX4_isWord : MethodName := ⟨RX4, "isWord", "(Ljava/lang/String;)Z"⟩
abbrev cX4_fail : ByteArray := prog_6_method_13_code
def yX4_fail : MethodName := ⟨RX4, "fail", "(II)V"⟩
def RX5 : String := "RoutePlanner$Route"
def TX5 : u_T := fun k => match k with
  | 0 => ("RoutePlanner$Route", "relaxedFrom", "[I", true)
  | 1 => ("RoutePlanner$Route", "relaxedTo", "[I", true)
  | 2 => ("RoutePlanner$Route", "walk", "[I", true)
  | 3 => ("RoutePlanner$Route", "asked", "Z", false)
  | 4 => ("RoutePlanner$Route", "relaxedSize", "I", false)
  | 5 => ("RoutePlanner$Route", "relaxedUp", "I", false)
  | 6 => ("RoutePlanner$Route", "upSize", "I", false)
  | 7 => ("RoutePlanner$Route", "downSize", "I", false)
  | 8 => ("RoutePlanner$Route", "walkSize", "I", false)
  | 9 => ("RoutePlanner$Route", "shortcuts", "I", false)
  | 10 => ("RoutePlanner$Route", "top", "I", false)
  | 11 => ("RoutePlanner$Route", "bestLength", "J", false)
  | 12 => ("RoutePlanner$Route", "upLengths", "[J", true)
  | 13 => ("RoutePlanner$Route", "upCounts", "[I", true)
  | 14 => ("RoutePlanner$Route", "downLengths", "[J", true)
  | 15 => ("RoutePlanner$Route", "downCounts", "[I", true)
  | _ => ("RoutePlanner$Route", "chain", "[I", true)
def tyX5 : Nat → FieldType := fun k => match k with
  | 0 => .array .int
  | 1 => .array .int
  | 2 => .array .int
  | 3 => .boolean
  | 4 => .int
  | 5 => .int
  | 6 => .int
  | 7 => .int
  | 8 => .int
  | 9 => .int
  | 10 => .int
  | 11 => .long
  | 12 => .array .long
  | 13 => .array .int
  | 14 => .array .long
  | 15 => .array .int
  | _ => .array .int
abbrev wsX50 : List Cond := u_ws RX5 TX5 17
theorem nmX5 : ∀ a, a < 17 → ∀ b, b < 17 → a ≠ b → (TX5 a).2.1 ≠ (TX5 b).2.1 := by decide +kernel
theorem tyX5_ok : ∀ k, k < 17 → parseFieldDescriptor (TX5 k).2.2.1 = some (tyX5 k) := by decide +kernel
abbrev cX5_init : ByteArray := prog_7_method_1_code
def yX5_init : MethodName := ⟨RX5, "<init>", "()V"⟩
abbrev cX5_forget : ByteArray := prog_7_method_2_code
def yX5_forget : MethodName := ⟨RX5, "forget", "()V"⟩
abbrev cX5_ask : ByteArray := prog_7_method_3_code
def yX5_ask : MethodName := ⟨RX5, "ask", "(LRoutePlanner$Hierarchy;II)I"⟩
abbrev cX5_climb : ByteArray := prog_7_method_4_code
def yX5_climb : MethodName := ⟨RX5, "climb", "(LRoutePlanner$Hierarchy;IZ[J[I)I"⟩
abbrev cX5_relaxEdges : ByteArray := prog_7_method_5_code
def yX5_relaxEdges : MethodName := ⟨RX5, "relaxEdges", "(LRoutePlanner$Hierarchy;IZ[J[I)V"⟩
abbrev cX5_noteRelaxed : ByteArray := prog_7_method_6_code
def yX5_noteRelaxed : MethodName := ⟨RX5, "noteRelaxed", "(II)V"⟩
abbrev cX5_findTop : ByteArray := prog_7_method_7_code
def yX5_findTop : MethodName := ⟨RX5, "findTop", "(I)V"⟩
abbrev cX5_walkThrough : ByteArray := prog_7_method_8_code
def yX5_walkThrough : MethodName := ⟨RX5, "walkThrough", "(LRoutePlanner$Hierarchy;II)V"⟩
abbrev cX5_nextBelow : ByteArray := prog_7_method_9_code
def yX5_nextBelow : MethodName := ⟨RX5, "nextBelow", "(LRoutePlanner$Hierarchy;IZ[J[I)I"⟩
abbrev cX5_walkEdge : ByteArray := prog_7_method_10_code
def yX5_walkEdge : MethodName := ⟨RX5, "walkEdge", "(LRoutePlanner$Net;II)V"⟩
abbrev cX5_unpack : ByteArray := prog_7_method_11_code
def yX5_unpack : MethodName := ⟨RX5, "unpack", "(LRoutePlanner$Route;LRoutePlanner$Net;III)V"⟩
abbrev cX5_noteStep : ByteArray := prog_7_method_12_code
def yX5_noteStep : MethodName := ⟨RX5, "noteStep", "(I)V"⟩
def RX6 : String := "RoutePlanner$Tape"
def TX6 : u_T := fun k => match k with
  | 0 => ("RoutePlanner$Tape", "bytes", "[B", true)
  | _ => ("RoutePlanner$Tape", "size", "I", false)
def tyX6 : Nat → FieldType := fun k => match k with
  | 0 => .array .byte
  | _ => .int
abbrev wsX60 : List Cond := u_ws RX6 TX6 2
theorem nmX6 : ∀ a, a < 2 → ∀ b, b < 2 → a ≠ b → (TX6 a).2.1 ≠ (TX6 b).2.1 := by decide +kernel
theorem tyX6_ok : ∀ k, k < 2 → parseFieldDescriptor (TX6 k).2.2.1 = some (tyX6 k) := by decide +kernel
abbrev cX6_init : ByteArray := prog_8_method_1_code
def yX6_init : MethodName := ⟨RX6, "<init>", "()V"⟩
abbrev cX6_push : ByteArray := prog_8_method_2_code
def yX6_push : MethodName := ⟨RX6, "push", "(I)V"⟩
def RX7 : String := "RoutePlanner$Trail"
def TX7 : u_T := fun k => match k with
  | 0 => ("RoutePlanner$Trail", "nodes", "[I", true)
  | 1 => ("RoutePlanner$Trail", "lengths", "[J", true)
  | 2 => ("RoutePlanner$Trail", "counts", "[I", true)
  | 3 => ("RoutePlanner$Trail", "size", "I", false)
  | _ => ("RoutePlanner$Trail", "seen", "[I", true)
def tyX7 : Nat → FieldType := fun k => match k with
  | 0 => .array .int
  | 1 => .array .long
  | 2 => .array .int
  | 3 => .int
  | _ => .array .int
abbrev wsX70 : List Cond := u_ws RX7 TX7 5
theorem nmX7 : ∀ a, a < 5 → ∀ b, b < 5 → a ≠ b → (TX7 a).2.1 ≠ (TX7 b).2.1 := by decide +kernel
theorem tyX7_ok : ∀ k, k < 5 → parseFieldDescriptor (TX7 k).2.2.1 = some (tyX7 k) := by decide +kernel
abbrev cX7_init : ByteArray := prog_9_method_1_code
def yX7_init : MethodName := ⟨RX7, "<init>", "()V"⟩
abbrev cX7_has : ByteArray := prog_9_method_2_code
def yX7_has : MethodName := ⟨RX7, "has", "(I)Z"⟩
abbrev cX7_follow : ByteArray := prog_9_method_3_code
def yX7_follow : MethodName := ⟨RX7, "follow", "(LRoutePlanner$Ways;[JI)I"⟩
abbrev cX7_nextOf : ByteArray := prog_9_method_4_code
def yX7_nextOf : MethodName := ⟨RX7, "nextOf", "(LRoutePlanner$Ways;[J)I"⟩
abbrev cX7_comesAhead : ByteArray := prog_9_method_5_code
def yX7_comesAhead : MethodName := ⟨RX7, "comesAhead", "(LRoutePlanner$Ways;[JII)Z"⟩
abbrev cX7_meet : ByteArray := prog_9_method_6_code
def yX7_meet : MethodName := ⟨RX7, "meet", "(LRoutePlanner$Ways;LRoutePlanner$Ways;)I"⟩
abbrev cX7_putFirst : ByteArray := prog_9_method_7_code
def yX7_putFirst : MethodName := ⟨RX7, "putFirst", "(LRoutePlanner$Ways;I)V"⟩
abbrev cX7_put : ByteArray := prog_9_method_8_code
def yX7_put : MethodName := ⟨RX7, "put", "(LRoutePlanner$Ways;I)V"⟩
def RX8 : String := "RoutePlanner$Ways"
def TX8 : u_T := fun k => match k with
  | 0 => ("RoutePlanner$Ways", "lengths", "[J", true)
  | 1 => ("RoutePlanner$Ways", "counts", "[I", true)
  | 2 => ("RoutePlanner$Ways", "row", "[I", true)
  | 3 => ("RoutePlanner$Ways", "size", "I", false)
  | _ => ("RoutePlanner$Ways", "done", "[Z", true)
def tyX8 : Nat → FieldType := fun k => match k with
  | 0 => .array .long
  | 1 => .array .int
  | 2 => .array .int
  | 3 => .int
  | _ => .array .boolean
abbrev wsX80 : List Cond := u_ws RX8 TX8 5
theorem nmX8 : ∀ a, a < 5 → ∀ b, b < 5 → a ≠ b → (TX8 a).2.1 ≠ (TX8 b).2.1 := by decide +kernel
theorem tyX8_ok : ∀ k, k < 5 → parseFieldDescriptor (TX8 k).2.2.1 = some (tyX8 k) := by decide +kernel
abbrev cX8_init : ByteArray := prog_10_method_1_code
def yX8_init : MethodName := ⟨RX8, "<init>", "()V"⟩
abbrev cX8_run : ByteArray := prog_10_method_2_code
def yX8_run : MethodName := ⟨RX8, "run", "(LRoutePlanner$Net;IZJ)V"⟩
abbrev cX8_nearest : ByteArray := prog_10_method_3_code
def yX8_nearest : MethodName := ⟨RX8, "nearest", "(I)I"⟩
abbrev cX8_goOnFrom : ByteArray := prog_10_method_4_code
def yX8_goOnFrom : MethodName := ⟨RX8, "goOnFrom", "(LRoutePlanner$Net;IZ)V"⟩
abbrev cX8_isWorse : ByteArray := prog_10_method_5_code
def yX8_isWorse : MethodName := ⟨RX8, "isWorse", "(IJI)Z"⟩
def RX9 : String := "RoutePlanner"
def TX9 : u_T := fun k => match k with
  | 0 => ("RoutePlanner", "tape", "LRoutePlanner$Tape;", true)
  | 1 => ("RoutePlanner", "graph", "LRoutePlanner$Graph;", true)
  | 2 => ("RoutePlanner", "reader", "LRoutePlanner$Reader;", true)
  | 3 => ("RoutePlanner", "ahead", "LRoutePlanner$Ways;", true)
  | 4 => ("RoutePlanner", "back", "LRoutePlanner$Ways;", true)
  | 5 => ("RoutePlanner", "trail", "LRoutePlanner$Trail;", true)
  | 6 => ("RoutePlanner", "landmarks", "LRoutePlanner$Landmarks;", true)
  | 7 => ("RoutePlanner", "hierarchy", "LRoutePlanner$Hierarchy;", true)
  | 8 => ("RoutePlanner", "route", "LRoutePlanner$Route;", true)
  | 9 => ("RoutePlanner", "scratch", "[J", true)
  | 10 => ("RoutePlanner", "toldRow", "[I", true)
  | 11 => ("RoutePlanner", "toldSize", "I", false)
  | _ => ("RoutePlanner", "prepares", "I", false)
def tyX9 : Nat → FieldType := fun k => match k with
  | 0 => .object "RoutePlanner$Tape"
  | 1 => .object "RoutePlanner$Graph"
  | 2 => .object "RoutePlanner$Reader"
  | 3 => .object "RoutePlanner$Ways"
  | 4 => .object "RoutePlanner$Ways"
  | 5 => .object "RoutePlanner$Trail"
  | 6 => .object "RoutePlanner$Landmarks"
  | 7 => .object "RoutePlanner$Hierarchy"
  | 8 => .object "RoutePlanner$Route"
  | 9 => .array .long
  | 10 => .array .int
  | 11 => .int
  | _ => .int
abbrev wsX90 : List Cond := u_ws RX9 TX9 13
theorem nmX9 : ∀ a, a < 13 → ∀ b, b < 13 → a ≠ b → (TX9 a).2.1 ≠ (TX9 b).2.1 := by decide +kernel
theorem tyX9_ok : ∀ k, k < 13 → parseFieldDescriptor (TX9 k).2.2.1 = some (tyX9 k) := by decide +kernel
abbrev cX9_init : ByteArray := prog_1_method_1_code
def yX9_init : MethodName := ⟨RX9, "<init>", "()V"⟩
abbrev cX9_feed : ByteArray := prog_1_method_2_code
def yX9_feed : MethodName := ⟨RX9, "feed", "(IIIII)I"⟩
abbrev cX9_end : ByteArray := prog_1_method_3_code
def yX9_end : MethodName := ⟨RX9, "end", "(I)I"⟩
abbrev cX9_read : ByteArray := prog_1_method_4_code
def yX9_read : MethodName := ⟨RX9, "read", "()I"⟩
abbrev cX9_place : ByteArray := prog_1_method_5_code
def yX9_place : MethodName := ⟨RX9, "place", "()I"⟩
abbrev cX9_node : ByteArray := prog_1_method_6_code
def yX9_node : MethodName := ⟨RX9, "node", "(II)I"⟩
abbrev cX9_arc : ByteArray := prog_1_method_7_code
def yX9_arc : MethodName := ⟨RX9, "arc", "(IIJ)I"⟩
abbrev cX9_weigh : ByteArray := prog_1_method_8_code
def yX9_weigh : MethodName := ⟨RX9, "weigh", "(IJ)J"⟩
abbrev cX9_about : ByteArray := prog_1_method_9_code
def yX9_about : MethodName := ⟨RX9, "about", "(II)I"⟩
abbrev cX9_weight : ByteArray := prog_1_method_10_code
def yX9_weight : MethodName := ⟨RX9, "weight", "(I)J"⟩
abbrev cX9_clear : ByteArray := prog_1_method_11_code
def yX9_clear : MethodName := ⟨RX9, "clear", "()I"⟩
abbrev cX9_search : ByteArray := prog_1_method_12_code
def yX9_search : MethodName := ⟨RX9, "search", "(I)I"⟩
abbrev cX9_goal : ByteArray := prog_1_method_13_code
def yX9_goal : MethodName := ⟨RX9, "goal", "(II)I"⟩
abbrev cX9_both : ByteArray := prog_1_method_14_code
def yX9_both : MethodName := ⟨RX9, "both", "(II)I"⟩
abbrev cX9_landmarked : ByteArray := prog_1_method_15_code
def yX9_landmarked : MethodName := ⟨RX9, "landmarked", "(II)I"⟩
abbrev cX9_settled : ByteArray := prog_1_method_16_code
def yX9_settled : MethodName := ⟨RX9, "settled", "(I)I"⟩
abbrev cX9_length : ByteArray := prog_1_method_17_code
def yX9_length : MethodName := ⟨RX9, "length", "(I)J"⟩
abbrev cX9_count : ByteArray := prog_1_method_18_code
def yX9_count : MethodName := ⟨RX9, "count", "(I)I"⟩
abbrev cX9_distance : ByteArray := prog_1_method_19_code
def yX9_distance : MethodName := ⟨RX9, "distance", "(II)J"⟩
abbrev cX9_arcs : ByteArray := prog_1_method_20_code
def yX9_arcs : MethodName := ⟨RX9, "arcs", "(II)I"⟩
abbrev cX9_potential : ByteArray := prog_1_method_21_code
def yX9_potential : MethodName := ⟨RX9, "potential", "(IJ)J"⟩
abbrev cX9_inconsistent : ByteArray := prog_1_method_22_code
def yX9_inconsistent : MethodName := ⟨RX9, "inconsistent", "()I"⟩
abbrev cX9_straight : ByteArray := prog_1_method_23_code
def yX9_straight : MethodName := ⟨RX9, "straight", "(II)I"⟩
abbrev cX9_landmark : ByteArray := prog_1_method_24_code
def yX9_landmark : MethodName := ⟨RX9, "landmark", "(I)I"⟩
abbrev cX9_bound : ByteArray := prog_1_method_25_code
def yX9_bound : MethodName := ⟨RX9, "bound", "(II)J"⟩
abbrev cX9_factors : ByteArray := prog_1_method_26_code
def yX9_factors : MethodName := ⟨RX9, "factors", "(III)I"⟩
abbrev cX9_prepare : ByteArray := prog_1_method_27_code
def yX9_prepare : MethodName := ⟨RX9, "prepare", "()I"⟩
abbrev cX9_order : ByteArray := prog_1_method_28_code
def yX9_order : MethodName := ⟨RX9, "order", "(I)I"⟩
abbrev cX9_prepareTold : ByteArray := prog_1_method_29_code
def yX9_prepareTold : MethodName := ⟨RX9, "prepareTold", "()I"⟩
abbrev cX9_remake : ByteArray := prog_1_method_30_code
def yX9_remake : MethodName := ⟨RX9, "remake", "()I"⟩
abbrev cX9_ready : ByteArray := prog_1_method_31_code
def yX9_ready : MethodName := ⟨RX9, "ready", "()I"⟩
abbrev cX9_ranked : ByteArray := prog_1_method_32_code
def yX9_ranked : MethodName := ⟨RX9, "ranked", "(I)I"⟩
abbrev cX9_edge : ByteArray := prog_1_method_33_code
def yX9_edge : MethodName := ⟨RX9, "edge", "(IZII)I"⟩
abbrev cX9_edgeLength : ByteArray := prog_1_method_34_code
def yX9_edgeLength : MethodName := ⟨RX9, "edgeLength", "(IZI)J"⟩
abbrev cX9_query : ByteArray := prog_1_method_35_code
def yX9_query : MethodName := ⟨RX9, "query", "(II)I"⟩
abbrev cX9_told : ByteArray := prog_1_method_36_code
def yX9_told : MethodName := ⟨RX9, "told", "(I)I"⟩
abbrev cX9_found : ByteArray := prog_1_method_37_code
def yX9_found : MethodName := ⟨RX9, "found", "()J"⟩
abbrev cX9_step : ByteArray := prog_1_method_38_code
def yX9_step : MethodName := ⟨RX9, "step", "(I)I"⟩
abbrev cX9_relaxed : ByteArray := prog_1_method_39_code
def yX9_relaxed : MethodName := ⟨RX9, "relaxed", "(II)I"⟩
abbrev cX9_reached : ByteArray := prog_1_method_40_code
def yX9_reached : MethodName := ⟨RX9, "reached", "(II)I"⟩
abbrev cX9_total : ByteArray := prog_1_method_41_code
def yX9_total : MethodName := ⟨RX9, "total", "(I)I"⟩
abbrev cX9_needNode : ByteArray := prog_1_method_42_code
def yX9_needNode : MethodName := ⟨RX9, "needNode", "(I)V"⟩
abbrev cX9_needWeight : ByteArray := prog_1_method_43_code
def yX9_needWeight : MethodName := ⟨RX9, "needWeight", "(J)V"⟩
abbrev cX9_needSum : ByteArray := prog_1_method_44_code
def yX9_needSum : MethodName := ⟨RX9, "needSum", "(J)V"⟩
abbrev cX9_startPrepare : ByteArray := prog_1_method_45_code
def yX9_startPrepare : MethodName := ⟨RX9, "startPrepare", "()V"⟩
abbrev cX9_forgetAnswers : ByteArray := prog_1_method_46_code
def yX9_forgetAnswers : MethodName := ⟨RX9, "forgetAnswers", "()V"⟩
abbrev cX9_findWays : ByteArray := prog_1_method_47_code
def yX9_findWays : MethodName := ⟨RX9, "findWays", "(II)Z"⟩
abbrev cX9_findEdge : ByteArray := prog_1_method_48_code
def yX9_findEdge : MethodName := ⟨RX9, "findEdge", "(IZI)I"⟩
abbrev cX9_isWithin : ByteArray := prog_1_method_49_code
def yX9_isWithin : MethodName := ⟨RX9, "isWithin", "(II)Z"⟩
abbrev cX9_isFactor : ByteArray := prog_1_method_50_code
def yX9_isFactor : MethodName := ⟨RX9, "isFactor", "(I)Z"⟩
abbrev cX9_isAmong : ByteArray := prog_1_method_51_code
def yX9_isAmong : MethodName := ⟨RX9, "isAmong", "([III)Z"⟩
abbrev cX9_isBetter : ByteArray := prog_1_method_52_code
def yX9_isBetter : MethodName := ⟨RX9, "isBetter", "(JIJI)Z"⟩
abbrev cX9_together : ByteArray := prog_1_method_53_code
def yX9_together : MethodName := ⟨RX9, "together", "(JJ)J"⟩
def RX10 : String := "RoutePlannerModel"
def TX10 : u_T := fun k => match k with
  | 0 => ("RoutePlannerModel", "thrown", "I", false)
  | 1 => ("RoutePlannerModel", "nodes", "I", false)
  | 2 => ("RoutePlannerModel", "x", "[I", true)
  | 3 => ("RoutePlannerModel", "y", "[I", true)
  | 4 => ("RoutePlannerModel", "potential", "[J", true)
  | 5 => ("RoutePlannerModel", "arcs", "I", false)
  | 6 => ("RoutePlannerModel", "from", "[I", true)
  | 7 => ("RoutePlannerModel", "to", "[I", true)
  | 8 => ("RoutePlannerModel", "weight", "[J", true)
  | 9 => ("RoutePlannerModel", "marks", "[I", true)
  | 10 => ("RoutePlannerModel", "marksMany", "I", false)
  | 11 => ("RoutePlannerModel", "order", "[I", true)
  | 12 => ("RoutePlannerModel", "ordered", "I", false)
  | 13 => ("RoutePlannerModel", "factor", "[I", true)
  | 14 => ("RoutePlannerModel", "prepares", "I", false)
  | 15 => ("RoutePlannerModel", "tape", "[B", true)
  | 16 => ("RoutePlannerModel", "taped", "I", false)
  | 17 => ("RoutePlannerModel", "place", "I", false)
  | 18 => ("RoutePlannerModel", "next", "I", false)
  | 19 => ("RoutePlannerModel", "wordAt", "I", false)
  | 20 => ("RoutePlannerModel", "wordEnd", "I", false)
  | 21 => ("RoutePlannerModel", "faultNow", "I", false)
  | 22 => ("RoutePlannerModel", "faultAt", "I", false)
  | 23 => ("RoutePlannerModel", "number", "J", false)
  | 24 => ("RoutePlannerModel", "there", "[Z", true)
  | 25 => ("RoutePlannerModel", "length", "[J", true)
  | 26 => ("RoutePlannerModel", "count", "[I", true)
  | 27 => ("RoutePlannerModel", "over", "[I", true)
  | 28 => ("RoutePlannerModel", "arcOf", "[I", true)
  | 29 => ("RoutePlannerModel", "isLeft", "[Z", true)
  | 30 => ("RoutePlannerModel", "has", "[Z", true)
  | 31 => ("RoutePlannerModel", "isDone", "[Z", true)
  | 32 => ("RoutePlannerModel", "best", "[J", true)
  | 33 => ("RoutePlannerModel", "bestCount", "[I", true)
  | 34 => ("RoutePlannerModel", "settledMany", "I", false)
  | 35 => ("RoutePlannerModel", "settled", "[I", true)
  | 36 => ("RoutePlannerModel", "settledLength", "[J", true)
  | 37 => ("RoutePlannerModel", "settledCount", "[I", true)
  | 38 => ("RoutePlannerModel", "keyOf", "[J", true)
  | 39 => ("RoutePlannerModel", "row", "[I", true)
  | 40 => ("RoutePlannerModel", "rowLength", "[J", true)
  | 41 => ("RoutePlannerModel", "rowCount", "[I", true)
  | 42 => ("RoutePlannerModel", "markFrom", "[J", true)
  | 43 => ("RoutePlannerModel", "markTo", "[J", true)
  | 44 => ("RoutePlannerModel", "were", "[J", true)
  | 45 => ("RoutePlannerModel", "ready", "Z", false)
  | 46 => ("RoutePlannerModel", "rank", "[I", true)
  | 47 => ("RoutePlannerModel", "lastRank", "[I", true)
  | 48 => ("RoutePlannerModel", "byRank", "[I", true)
  | 49 => ("RoutePlannerModel", "hasUp", "[Z", true)
  | 50 => ("RoutePlannerModel", "upLength", "[J", true)
  | 51 => ("RoutePlannerModel", "upCount", "[I", true)
  | 52 => ("RoutePlannerModel", "upOver", "[I", true)
  | 53 => ("RoutePlannerModel", "upArc", "[I", true)
  | 54 => ("RoutePlannerModel", "hasDown", "[Z", true)
  | 55 => ("RoutePlannerModel", "downLength", "[J", true)
  | 56 => ("RoutePlannerModel", "downCount", "[I", true)
  | 57 => ("RoutePlannerModel", "downOver", "[I", true)
  | 58 => ("RoutePlannerModel", "downArc", "[I", true)
  | 59 => ("RoutePlannerModel", "isShort", "[Z", true)
  | 60 => ("RoutePlannerModel", "queried", "Z", false)
  | 61 => ("RoutePlannerModel", "isUp", "[Z", true)
  | 62 => ("RoutePlannerModel", "up", "[J", true)
  | 63 => ("RoutePlannerModel", "upMany", "[I", true)
  | 64 => ("RoutePlannerModel", "isDown", "[Z", true)
  | 65 => ("RoutePlannerModel", "down", "[J", true)
  | 66 => ("RoutePlannerModel", "downMany", "[I", true)
  | 67 => ("RoutePlannerModel", "top", "I", false)
  | 68 => ("RoutePlannerModel", "foundLength", "J", false)
  | 69 => ("RoutePlannerModel", "ups", "I", false)
  | 70 => ("RoutePlannerModel", "downs", "I", false)
  | 71 => ("RoutePlannerModel", "shorts", "I", false)
  | 72 => ("RoutePlannerModel", "relaxedMany", "I", false)
  | 73 => ("RoutePlannerModel", "relaxedFrom", "[I", true)
  | 74 => ("RoutePlannerModel", "relaxedTo", "[I", true)
  | 75 => ("RoutePlannerModel", "relaxedUp", "[I", true)
  | 76 => ("RoutePlannerModel", "walked", "I", false)
  | 77 => ("RoutePlannerModel", "walk", "[I", true)
  | 78 => ("RoutePlannerModel", "wayFrom", "[I", true)
  | 79 => ("RoutePlannerModel", "wayTo", "[I", true)
  | _ => ("RoutePlannerModel", "waits", "[I", true)
def tyX10 : Nat → FieldType := fun k => match k with
  | 0 => .int
  | 1 => .int
  | 2 => .array .int
  | 3 => .array .int
  | 4 => .array .long
  | 5 => .int
  | 6 => .array .int
  | 7 => .array .int
  | 8 => .array .long
  | 9 => .array .int
  | 10 => .int
  | 11 => .array .int
  | 12 => .int
  | 13 => .array .int
  | 14 => .int
  | 15 => .array .byte
  | 16 => .int
  | 17 => .int
  | 18 => .int
  | 19 => .int
  | 20 => .int
  | 21 => .int
  | 22 => .int
  | 23 => .long
  | 24 => .array .boolean
  | 25 => .array .long
  | 26 => .array .int
  | 27 => .array .int
  | 28 => .array .int
  | 29 => .array .boolean
  | 30 => .array .boolean
  | 31 => .array .boolean
  | 32 => .array .long
  | 33 => .array .int
  | 34 => .int
  | 35 => .array .int
  | 36 => .array .long
  | 37 => .array .int
  | 38 => .array .long
  | 39 => .array .int
  | 40 => .array .long
  | 41 => .array .int
  | 42 => .array .long
  | 43 => .array .long
  | 44 => .array .long
  | 45 => .boolean
  | 46 => .array .int
  | 47 => .array .int
  | 48 => .array .int
  | 49 => .array .boolean
  | 50 => .array .long
  | 51 => .array .int
  | 52 => .array .int
  | 53 => .array .int
  | 54 => .array .boolean
  | 55 => .array .long
  | 56 => .array .int
  | 57 => .array .int
  | 58 => .array .int
  | 59 => .array .boolean
  | 60 => .boolean
  | 61 => .array .boolean
  | 62 => .array .long
  | 63 => .array .int
  | 64 => .array .boolean
  | 65 => .array .long
  | 66 => .array .int
  | 67 => .int
  | 68 => .long
  | 69 => .int
  | 70 => .int
  | 71 => .int
  | 72 => .int
  | 73 => .array .int
  | 74 => .array .int
  | 75 => .array .int
  | 76 => .int
  | 77 => .array .int
  | 78 => .array .int
  | 79 => .array .int
  | _ => .array .int
abbrev wsX100 : List Cond := u_ws RX10 TX10 81
theorem nmX10 : ∀ a, a < 81 → ∀ b, b < 81 → a ≠ b → (TX10 a).2.1 ≠ (TX10 b).2.1 := by decide +kernel
theorem tyX10_ok : ∀ k, k < 81 → parseFieldDescriptor (TX10 k).2.2.1 = some (tyX10 k) := by decide +kernel
abbrev cX10_thrown : ByteArray := prog_12_method_1_code
def yX10_thrown : MethodName := ⟨RX10, "thrown", "()I"⟩
abbrev cX10_throwsNow : ByteArray := prog_12_method_2_code
def yX10_throwsNow : MethodName := ⟨RX10, "throwsNow", "(I)I"⟩
abbrev cX10_init : ByteArray := prog_12_method_3_code
def yX10_init : MethodName := ⟨RX10, "<init>", "()V"⟩
abbrev cX10_isNode : ByteArray := prog_12_method_4_code
def yX10_isNode : MethodName := ⟨RX10, "isNode", "(I)Z"⟩
abbrev cX10_isArc : ByteArray := prog_12_method_5_code
def yX10_isArc : MethodName := ⟨RX10, "isArc", "(I)Z"⟩
abbrev cX10_size : ByteArray := prog_12_method_6_code
def yX10_size : MethodName := ⟨RX10, "size", "(J)J"⟩
abbrev cX10_together : ByteArray := prog_12_method_7_code
def yX10_together : MethodName := ⟨RX10, "together", "()J"⟩
abbrev cX10_changes : ByteArray := prog_12_method_8_code
def yX10_changes : MethodName := ⟨RX10, "changes", "()V"⟩
abbrev cX10_four : ByteArray := prog_12_method_9_code
def yX10_four : MethodName := ⟨RX10, "four", "(I)V"⟩
abbrev cX10_feed : ByteArray := prog_12_method_10_code
def yX10_feed : MethodName := ⟨RX10, "feed", "(IIIII)I"⟩
abbrev cX10_end : ByteArray := prog_12_method_11_code
def yX10_end : MethodName := ⟨RX10, "end", "(I)I"⟩
abbrev cX10_see : ByteArray := prog_12_method_12_code
def yX10_see : MethodName := ⟨RX10, "see", "(I)I"⟩
abbrev cX10_isSign : ByteArray := prog_12_method_13_code
def yX10_isSign : MethodName := ⟨RX10, "isSign", "(I)Z"⟩
abbrev cX10_fault : ByteArray := prog_12_method_14_code
def yX10_fault : MethodName := ⟨RX10, "fault", "(II)V"⟩
abbrev cX10_word : ByteArray := prog_12_method_15_code
def yX10_word : MethodName := ⟨RX10, "word", "()Z"⟩
abbrev cX10_isWord : ByteArray := prog_12_method_16_code
def yX10_isWord : MethodName := ⟨RX10, "isWord", "(IIII)Z"⟩
abbrev cX10_number : ByteArray := prog_12_method_17_code
def yX10_number : MethodName := ⟨RX10, "number", "(ZJJ)Z"⟩
abbrev cX10_nodeWord : ByteArray := prog_12_method_18_code
def yX10_nodeWord : MethodName := ⟨RX10, "nodeWord", "(I)Z"⟩
abbrev cX10_none : ByteArray := prog_12_method_19_code
def yX10_none : MethodName := ⟨RX10, "none", "()V"⟩
abbrev cX10_read : ByteArray := prog_12_method_20_code
def yX10_read : MethodName := ⟨RX10, "read", "()I"⟩
abbrev cX10_line : ByteArray := prog_12_method_21_code
def yX10_line : MethodName := ⟨RX10, "line", "(J)J"⟩
abbrev cX10_comes : ByteArray := prog_12_method_22_code
def yX10_comes : MethodName := ⟨RX10, "comes", "(II)V"⟩
abbrev cX10_goes : ByteArray := prog_12_method_23_code
def yX10_goes : MethodName := ⟨RX10, "goes", "(IIJ)V"⟩
abbrev cX10_place : ByteArray := prog_12_method_24_code
def yX10_place : MethodName := ⟨RX10, "place", "()I"⟩
abbrev cX10_node : ByteArray := prog_12_method_25_code
def yX10_node : MethodName := ⟨RX10, "node", "(II)I"⟩
abbrev cX10_isWeight : ByteArray := prog_12_method_26_code
def yX10_isWeight : MethodName := ⟨RX10, "isWeight", "(J)Z"⟩
abbrev cX10_arc : ByteArray := prog_12_method_27_code
def yX10_arc : MethodName := ⟨RX10, "arc", "(IIJ)I"⟩
abbrev cX10_weigh : ByteArray := prog_12_method_28_code
def yX10_weigh : MethodName := ⟨RX10, "weigh", "(IJ)J"⟩
abbrev cX10_about : ByteArray := prog_12_method_29_code
def yX10_about : MethodName := ⟨RX10, "about", "(II)I"⟩
abbrev cX10_weight : ByteArray := prog_12_method_30_code
def yX10_weight : MethodName := ⟨RX10, "weight", "(I)J"⟩
abbrev cX10_clear : ByteArray := prog_12_method_31_code
def yX10_clear : MethodName := ⟨RX10, "clear", "()I"⟩
abbrev cX10_edgesOfArcs : ByteArray := prog_12_method_32_code
def yX10_edgesOfArcs : MethodName := ⟨RX10, "edgesOfArcs", "()V"⟩
abbrev cX10_isBetter : ByteArray := prog_12_method_33_code
def yX10_isBetter : MethodName := ⟨RX10, "isBetter", "(JIJI)Z"⟩
abbrev cX10_waysFrom : ByteArray := prog_12_method_34_code
def yX10_waysFrom : MethodName := ⟨RX10, "waysFrom", "(IZ)V"⟩
abbrev cX10_distances : ByteArray := prog_12_method_35_code
def yX10_distances : MethodName := ⟨RX10, "distances", "(IZ)V"⟩
abbrev cX10_distance : ByteArray := prog_12_method_36_code
def yX10_distance : MethodName := ⟨RX10, "distance", "(II)J"⟩
abbrev cX10_arcs : ByteArray := prog_12_method_37_code
def yX10_arcs : MethodName := ⟨RX10, "arcs", "(II)I"⟩
abbrev cX10_reached : ByteArray := prog_12_method_38_code
def yX10_reached : MethodName := ⟨RX10, "reached", "(II)I"⟩
abbrev cX10_settles : ByteArray := prog_12_method_39_code
def yX10_settles : MethodName := ⟨RX10, "settles", "(I)V"⟩
abbrev cX10_inOrder : ByteArray := prog_12_method_40_code
def yX10_inOrder : MethodName := ⟨RX10, "inOrder", "()V"⟩
abbrev cX10_keys : ByteArray := prog_12_method_41_code
def yX10_keys : MethodName := ⟨RX10, "keys", "(Z)V"⟩
abbrev cX10_search : ByteArray := prog_12_method_42_code
def yX10_search : MethodName := ⟨RX10, "search", "(I)I"⟩
abbrev cX10_upTo : ByteArray := prog_12_method_43_code
def yX10_upTo : MethodName := ⟨RX10, "upTo", "(I)I"⟩
abbrev cX10_goal : ByteArray := prog_12_method_44_code
def yX10_goal : MethodName := ⟨RX10, "goal", "(II)I"⟩
abbrev cX10_both : ByteArray := prog_12_method_45_code
def yX10_both : MethodName := ⟨RX10, "both", "(II)I"⟩
abbrev cX10_marksFar : ByteArray := prog_12_method_46_code
def yX10_marksFar : MethodName := ⟨RX10, "marksFar", "()V"⟩
abbrev cX10_towards : ByteArray := prog_12_method_47_code
def yX10_towards : MethodName := ⟨RX10, "towards", "(II)J"⟩
abbrev cX10_landmarked : ByteArray := prog_12_method_48_code
def yX10_landmarked : MethodName := ⟨RX10, "landmarked", "(II)I"⟩
abbrev cX10_isSettled : ByteArray := prog_12_method_49_code
def yX10_isSettled : MethodName := ⟨RX10, "isSettled", "(I)Z"⟩
abbrev cX10_settled : ByteArray := prog_12_method_50_code
def yX10_settled : MethodName := ⟨RX10, "settled", "(I)I"⟩
abbrev cX10_length : ByteArray := prog_12_method_51_code
def yX10_length : MethodName := ⟨RX10, "length", "(I)J"⟩
abbrev cX10_count : ByteArray := prog_12_method_52_code
def yX10_count : MethodName := ⟨RX10, "count", "(I)I"⟩
abbrev cX10_potential : ByteArray := prog_12_method_53_code
def yX10_potential : MethodName := ⟨RX10, "potential", "(IJ)J"⟩
abbrev cX10_inconsistentArc : ByteArray := prog_12_method_54_code
def yX10_inconsistentArc : MethodName := ⟨RX10, "inconsistentArc", "()I"⟩
abbrev cX10_inconsistent : ByteArray := prog_12_method_55_code
def yX10_inconsistent : MethodName := ⟨RX10, "inconsistent", "()I"⟩
abbrev cX10_straight : ByteArray := prog_12_method_56_code
def yX10_straight : MethodName := ⟨RX10, "straight", "(II)I"⟩
abbrev cX10_landmark : ByteArray := prog_12_method_57_code
def yX10_landmark : MethodName := ⟨RX10, "landmark", "(I)I"⟩
abbrev cX10_bound : ByteArray := prog_12_method_58_code
def yX10_bound : MethodName := ⟨RX10, "bound", "(II)J"⟩
abbrev cX10_factors : ByteArray := prog_12_method_59_code
def yX10_factors : MethodName := ⟨RX10, "factors", "(III)I"⟩
abbrev cX10_shortcuts : ByteArray := prog_12_method_60_code
def yX10_shortcuts : MethodName := ⟨RX10, "shortcuts", "(I)I"⟩
abbrev cX10_value : ByteArray := prog_12_method_61_code
def yX10_value : MethodName := ⟨RX10, "value", "(I)I"⟩
abbrev cX10_contract : ByteArray := prog_12_method_62_code
def yX10_contract : MethodName := ⟨RX10, "contract", "(II)I"⟩
abbrev cX10_begins : ByteArray := prog_12_method_63_code
def yX10_begins : MethodName := ⟨RX10, "begins", "()V"⟩
abbrev cX10_ends : ByteArray := prog_12_method_64_code
def yX10_ends : MethodName := ⟨RX10, "ends", "(I)I"⟩
abbrev cX10_prepare : ByteArray := prog_12_method_65_code
def yX10_prepare : MethodName := ⟨RX10, "prepare", "()I"⟩
abbrev cX10_order : ByteArray := prog_12_method_66_code
def yX10_order : MethodName := ⟨RX10, "order", "(I)I"⟩
abbrev cX10_prepareTold : ByteArray := prog_12_method_67_code
def yX10_prepareTold : MethodName := ⟨RX10, "prepareTold", "()I"⟩
abbrev cX10_remake : ByteArray := prog_12_method_68_code
def yX10_remake : MethodName := ⟨RX10, "remake", "()I"⟩
abbrev cX10_ready : ByteArray := prog_12_method_69_code
def yX10_ready : MethodName := ⟨RX10, "ready", "()I"⟩
abbrev cX10_ranked : ByteArray := prog_12_method_70_code
def yX10_ranked : MethodName := ⟨RX10, "ranked", "(I)I"⟩
abbrev cX10_edgeAt : ByteArray := prog_12_method_71_code
def yX10_edgeAt : MethodName := ⟨RX10, "edgeAt", "(IZI)I"⟩
abbrev cX10_edge : ByteArray := prog_12_method_72_code
def yX10_edge : MethodName := ⟨RX10, "edge", "(IZII)I"⟩
abbrev cX10_edgeLength : ByteArray := prog_12_method_73_code
def yX10_edgeLength : MethodName := ⟨RX10, "edgeLength", "(IZI)J"⟩
abbrev cX10_relaxes : ByteArray := prog_12_method_74_code
def yX10_relaxes : MethodName := ⟨RX10, "relaxes", "(III)V"⟩
abbrev cX10_query : ByteArray := prog_12_method_75_code
def yX10_query : MethodName := ⟨RX10, "query", "(II)I"⟩
abbrev cX10_goesUp : ByteArray := prog_12_method_76_code
def yX10_goesUp : MethodName := ⟨RX10, "goesUp", "()V"⟩
abbrev cX10_goesDown : ByteArray := prog_12_method_77_code
def yX10_goesDown : MethodName := ⟨RX10, "goesDown", "()V"⟩
abbrev cX10_walks : ByteArray := prog_12_method_78_code
def yX10_walks : MethodName := ⟨RX10, "walks", "(II)V"⟩
abbrev cX10_unpacks : ByteArray := prog_12_method_79_code
def yX10_unpacks : MethodName := ⟨RX10, "unpacks", "(II)V"⟩
abbrev cX10_told : ByteArray := prog_12_method_80_code
def yX10_told : MethodName := ⟨RX10, "told", "(I)I"⟩
abbrev cX10_found : ByteArray := prog_12_method_81_code
def yX10_found : MethodName := ⟨RX10, "found", "()J"⟩
abbrev cX10_step : ByteArray := prog_12_method_82_code
def yX10_step : MethodName := ⟨RX10, "step", "(I)I"⟩
abbrev cX10_relaxed : ByteArray := prog_12_method_83_code
def yX10_relaxed : MethodName := ⟨RX10, "relaxed", "(II)I"⟩
abbrev cX10_total : ByteArray := prog_12_method_84_code
def yX10_total : MethodName := ⟨RX10, "total", "(I)I"⟩
def RJ9 : String := "java/lang/Math"
def TJ9 : u_T := fun k => match k with
  | _ => ("", "", "", false)
def tyJ9 : Nat → FieldType := fun k => match k with
  | _ => .int
abbrev wsJ90 : List Cond := u_ws RJ9 TJ9 0
theorem nmJ9 : ∀ a, a < 0 → ∀ b, b < 0 → a ≠ b → (TJ9 a).2.1 ≠ (TJ9 b).2.1 := by decide +kernel
theorem tyJ9_ok : ∀ k, k < 0 → parseFieldDescriptor (TJ9 k).2.2.1 = some (tyJ9 k) := by decide +kernel
abbrev cJ9_abs_0f7a4 : ByteArray := prog_18_method_59_code
def yJ9_abs_0f7a4 : MethodName := ⟨RJ9, "abs", "(I)I"⟩
abbrev cJ9_abs_067f4 : ByteArray := prog_18_method_61_code
def yJ9_abs_067f4 : MethodName := ⟨RJ9, "abs", "(J)J"⟩
abbrev cJ9_max_f86c9 : ByteArray := prog_18_method_66_code
def yJ9_max_f86c9 : MethodName := ⟨RJ9, "max", "(JJ)J"⟩
abbrev cJ9_min_f86c9 : ByteArray := prog_18_method_70_code
def yJ9_min_f86c9 : MethodName := ⟨RJ9, "min", "(JJ)J"⟩
def RJ0 : String := "java/lang/String"
def TJ0 : u_T := fun k => match k with
  | _ => ("", "", "", false)
def tyJ0 : Nat → FieldType := fun k => match k with
  | _ => .int
abbrev wsJ00 : List Cond := u_ws RJ0 TJ0 0
theorem nmJ0 : ∀ a, a < 0 → ∀ b, b < 0 → a ≠ b → (TJ0 a).2.1 ≠ (TJ0 b).2.1 := by decide +kernel
theorem tyJ0_ok : ∀ k, k < 0 → parseFieldDescriptor (TJ0 k).2.2.1 = some (tyJ0 k) := by decide +kernel
abbrev cJ0_length_8abf5 : ByteArray := prog_20_method_54_code
def yJ0_length_8abf5 : MethodName := ⟨RJ0, "length", "()I"⟩
abbrev cJ0_charAt_5068e : ByteArray := prog_20_method_56_code
def yJ0_charAt_5068e : MethodName := ⟨RJ0, "charAt", "(I)C"⟩
abbrev cJ0_coder_7d493 : ByteArray := prog_20_method_152_code
def yJ0_coder_7d493 : MethodName := ⟨RJ0, "coder", "()B"⟩
abbrev cJ0_isLatin1_aae02 : ByteArray := prog_20_method_154_code
def yJ0_isLatin1_aae02 : MethodName := ⟨RJ0, "isLatin1", "()Z"⟩
abbrev cJ0_checkIndex_df160 : ByteArray := prog_20_method_155_code
def yJ0_checkIndex_df160 : MethodName := ⟨RJ0, "checkIndex", "(II)V"⟩
def RJ1 : String := "java/lang/StringLatin1"
def TJ1 : u_T := fun k => match k with
  | _ => ("", "", "", false)
def tyJ1 : Nat → FieldType := fun k => match k with
  | _ => .int
abbrev wsJ10 : List Cond := u_ws RJ1 TJ1 0
theorem nmJ1 : ∀ a, a < 0 → ∀ b, b < 0 → a ≠ b → (TJ1 a).2.1 ≠ (TJ1 b).2.1 := by decide +kernel
theorem tyJ1_ok : ∀ k, k < 0 → parseFieldDescriptor (TJ1 k).2.2.1 = some (tyJ1 k) := by decide +kernel
abbrev cJ1_charAt_3b067 : ByteArray := prog_21_method_2_code
def yJ1_charAt_3b067 : MethodName := ⟨RJ1, "charAt", "([BI)C"⟩
def RJ2 : String := "java/lang/StringUTF16"
def TJ2 : u_T := fun k => match k with
  | _ => ("", "", "", false)
def tyJ2 : Nat → FieldType := fun k => match k with
  | _ => .int
abbrev wsJ20 : List Cond := u_ws RJ2 TJ2 0
theorem nmJ2 : ∀ a, a < 0 → ∀ b, b < 0 → a ≠ b → (TJ2 a).2.1 ≠ (TJ2 b).2.1 := by decide +kernel
theorem tyJ2_ok : ∀ k, k < 0 → parseFieldDescriptor (TJ2 k).2.2.1 = some (tyJ2 k) := by decide +kernel
abbrev cJ2_getChar_3b067 : ByteArray := prog_22_method_5_code
def yJ2_getChar_3b067 : MethodName := ⟨RJ2, "getChar", "([BI)C"⟩
abbrev cJ2_length_9d52b : ByteArray := prog_22_method_6_code
def yJ2_length_9d52b : MethodName := ⟨RJ2, "length", "([B)I"⟩
abbrev cJ2_charAt_3b067 : ByteArray := prog_22_method_83_code
def yJ2_charAt_3b067 : MethodName := ⟨RJ2, "charAt", "([BI)C"⟩
abbrev cJ2_checkIndex_2214a : ByteArray := prog_22_method_91_code
def yJ2_checkIndex_2214a : MethodName := ⟨RJ2, "checkIndex", "(I[B)V"⟩
def RJ10 : String := "java/lang/System"
def TJ10 : u_T := fun k => match k with
  | _ => ("", "", "", false)
def tyJ10 : Nat → FieldType := fun k => match k with
  | _ => .int
abbrev wsJ100 : List Cond := u_ws RJ10 TJ10 0
theorem nmJ10 : ∀ a, a < 0 → ∀ b, b < 0 → a ≠ b → (TJ10 a).2.1 ≠ (TJ10 b).2.1 := by decide +kernel
theorem tyJ10_ok : ∀ k, k < 0 → parseFieldDescriptor (TJ10 k).2.2.1 = some (tyJ10 k) := by decide +kernel
def RJ7 : String := "java/util/Arrays"
def TJ7 : u_T := fun k => match k with
  | _ => ("", "", "", false)
def tyJ7 : Nat → FieldType := fun k => match k with
  | _ => .int
abbrev wsJ70 : List Cond := u_ws RJ7 TJ7 0
theorem nmJ7 : ∀ a, a < 0 → ∀ b, b < 0 → a ≠ b → (TJ7 a).2.1 ≠ (TJ7 b).2.1 := by decide +kernel
theorem tyJ7_ok : ∀ k, k < 0 → parseFieldDescriptor (TJ7 k).2.2.1 = some (tyJ7 k) := by decide +kernel
abbrev cJ7_fill_d0a16 : ByteArray := prog_26_method_101_code
def yJ7_fill_d0a16 : MethodName := ⟨RJ7, "fill", "([JJ)V"⟩
abbrev cJ7_fill_53178 : ByteArray := prog_26_method_103_code
def yJ7_fill_53178 : MethodName := ⟨RJ7, "fill", "([II)V"⟩
def RJ3 : String := "jdk/internal/util/Preconditions"
def TJ3 : u_T := fun k => match k with
  | _ => ("", "", "", false)
def tyJ3 : Nat → FieldType := fun k => match k with
  | _ => .int
abbrev wsJ30 : List Cond := u_ws RJ3 TJ3 0
theorem nmJ3 : ∀ a, a < 0 → ∀ b, b < 0 → a ≠ b → (TJ3 a).2.1 ≠ (TJ3 b).2.1 := by decide +kernel
theorem tyJ3_ok : ∀ k, k < 0 → parseFieldDescriptor (TJ3 k).2.2.1 = some (tyJ3 k) := by decide +kernel
abbrev cJ3_checkIndex_8e157 : ByteArray := prog_27_method_11_code
def yJ3_checkIndex_8e157 : MethodName := ⟨RJ3, "checkIndex", "(IILjava/util/function/BiFunction;)I"⟩
def RL : String := "RoutePlannerLaw"
abbrev cL_feed : ByteArray := method_3_code
def yL_feed : MethodName := ⟨RL, "feed", "(LRoutePlanner;IIIII[J)I"⟩
abbrev cL_end : ByteArray := method_4_code
def yL_end : MethodName := ⟨RL, "end", "(LRoutePlanner;I[J)I"⟩
abbrev cL_node : ByteArray := method_5_code
def yL_node : MethodName := ⟨RL, "node", "(LRoutePlanner;II[J)I"⟩
abbrev cL_arc : ByteArray := method_6_code
def yL_arc : MethodName := ⟨RL, "arc", "(LRoutePlanner;IIJ[J)I"⟩
abbrev cL_weigh : ByteArray := method_7_code
def yL_weigh : MethodName := ⟨RL, "weigh", "(LRoutePlanner;IJ[J)I"⟩
abbrev cL_search : ByteArray := method_8_code
def yL_search : MethodName := ⟨RL, "search", "(LRoutePlanner;I[J)I"⟩
abbrev cL_goal : ByteArray := method_9_code
def yL_goal : MethodName := ⟨RL, "goal", "(LRoutePlanner;II[J)I"⟩
abbrev cL_both : ByteArray := method_10_code
def yL_both : MethodName := ⟨RL, "both", "(LRoutePlanner;II[J)I"⟩
abbrev cL_landmarked : ByteArray := method_11_code
def yL_landmarked : MethodName := ⟨RL, "landmarked", "(LRoutePlanner;II[J)I"⟩
abbrev cL_potential : ByteArray := method_12_code
def yL_potential : MethodName := ⟨RL, "potential", "(LRoutePlanner;IJ[J)I"⟩
abbrev cL_straight : ByteArray := method_13_code
def yL_straight : MethodName := ⟨RL, "straight", "(LRoutePlanner;II[J)I"⟩
abbrev cL_landmark : ByteArray := method_14_code
def yL_landmark : MethodName := ⟨RL, "landmark", "(LRoutePlanner;I[J)I"⟩
abbrev cL_prepare : ByteArray := method_15_code
def yL_prepare : MethodName := ⟨RL, "prepare", "(LRoutePlanner;[J)I"⟩
abbrev cL_order : ByteArray := method_16_code
def yL_order : MethodName := ⟨RL, "order", "(LRoutePlanner;I[J)I"⟩
abbrev cL_prepareTold : ByteArray := method_17_code
def yL_prepareTold : MethodName := ⟨RL, "prepareTold", "(LRoutePlanner;[J)I"⟩
abbrev cL_remake : ByteArray := method_18_code
def yL_remake : MethodName := ⟨RL, "remake", "(LRoutePlanner;[J)I"⟩
abbrev cL_query : ByteArray := method_19_code
def yL_query : MethodName := ⟨RL, "query", "(LRoutePlanner;II[J)I"⟩
abbrev cL_law : ByteArray := code
def yL_law : MethodName := ⟨RL, "law", "([I)Z"⟩
end
section
/-! ===== my own: an exception that the first row of the method's table takes; its class cold or warm ===== -/
section XC
/-- the search over a table whose first row covers the pc and names a class that can be linked, to which the thing's class can be assigned -/
theorem xc_go {Q : Handler → Pre} {E : CtlPost} {e : Env} {d : Bool} {acts : List Action} {u : State} {f : JFrame} {a : Addr} {x : ExceptionTableEntry} {t : List ExceptionTableEntry} {k : ClassId} {cell : Cell}
    (hx : covers x f.pc = true) (h0 : x.catchType ≠ 0) (hl : u.vm.ClassLinks e.platform f.method.cls x.catchType k) (hcell : u.heap[a]? = some cell) (hobj : ∀ z, cell.vm ≠ .statics z)
    (h1 : ∃ y, u.vm.classes[cell.cls]? = some y) (h2 : ∃ y, u.vm.classes[k]? = some y) (hfit : u.vm.assignable cell.cls k = true) :
    wp (findHandler.go f a (x :: t)) Q E e d acts u ↔ Q (.found x.handlerPc) d acts (u.setVm (u.vm.noted f.method.cls x.catchType (.cls k))) := by
  obtain ⟨y1, h1⟩ := h1
  obtain ⟨y2, h2⟩ := h2
  have hal : u.vm.Alike (u.vm.noted f.method.cls x.catchType (.cls k)) := (Vm.Alike.refl u.vm).noted _ _ _
  obtain ⟨z1, g1, -⟩ := hal.2.2 _ _ h1
  obtain ⟨z2, g2, -⟩ := hal.2.2 _ _ h2
  have g3 : (u.vm.noted f.method.cls x.catchType (.cls k)).assignable cell.cls k = true := by rw [hal.assignable]; exact hfit
  obtain ⟨q1, q2⟩ := (resolveClass_links e.toSetting hl).op (op := VmOp.resolveClass f.method.cls x.catchType) rfl
  simp only [covers] at hx
  simp [findHandler.go, hx, h0, q1, q2, hcell, hobj, g1, g2, g3, VmOp.dirties, VmOp.acts]
/-- from the note that a is thrown over the frame g to the handler of the first row -/
theorem xc_steps {tb : Tables} {e : Env} {u : State} {g : JFrame} {c : Code} {below : List Frame} {a : Addr} {meth : Method} {target : State} (h : At u g.method c below) (hm : u.vm.method? g.method = some meth) (hc : meth.code = some c)
    {x : ExceptionTableEntry} {t : List ExceptionTableEntry} (htab : c.exceptionTable.toList = x :: t) (hx : covers x g.pc = true) (h0 : x.catchType ≠ 0) {k : ClassId} {cell : Cell} (hl : u.vm.ClassLinks e.platform g.method.cls x.catchType k)
    (hcell : u.heap[a]? = some cell) (hobj : ∀ z, cell.vm ≠ .statics z) (h1 : ∃ y, u.vm.classes[cell.cls]? = some y) (h2 : ∃ y, u.vm.classes[k]? = some y) (hfit : u.vm.assignable cell.cls k = true)
    (hrest : Steps tb e below ((u.setVm (u.vm.noted g.method.cls x.catchType (.cls k))).setTop { g with pc := x.handlerPc, stack := [.ref a] }) target) :
    Steps tb e below ((u.setTop g).pushFrame (.throwing a)) target := by
  obtain ⟨hgo, hw⟩ := h.throwing a
  obtain ⟨g₀, hg⟩ := Option.isSome_iff_exists.mp h.top
  obtain ⟨r, hr⟩ := State.topJava?_eq_some.mp hg
  generalize hvm : u.vm.noted g.method.cls x.catchType (.cls k) = vm' at hrest
  have hfind : ∀ (Q : Handler → Pre) (E : CtlPost) (d : Bool) (acts : List Action), wp (findHandler g a) Q E e d acts ((u.setTop g).pushFrame (.throwing a)) ↔ Q (.found x.handlerPc) d acts (((u.setTop g).pushFrame (.throwing a)).setVm vm') := by
    intro Q E d acts
    rw [W.findHandler_eq (s := (u.setTop g).pushFrame (.throwing a)) (meth := meth) (code := c) hm hc, htab, ← hvm]
    exact xc_go hx h0 hl hcell hobj h1 h2 hfit
  have hstep : stepThrowing e ((u.setTop g).pushFrame (.throwing a)) a (.java g :: r) = stepThrowing e ((u.setTop g).pushFrame (.throwing a)) a (.java g :: r) := rfl
  have hres : (stepThrowing e ((u.setTop g).pushFrame (.throwing a)) a (.java g :: r)).1 = (((u.setTop g).pushFrame (.throwing a)).setVm vm').setFrames (.java { g with pc := x.handlerPc, stack := [.ref a] } :: r) := by
    simp only [stepThrowing, searchFrame, vmDo]
    generalize hq : Sem.go _ e false [] _ = res
    obtain ⟨as, rfl, -⟩ := Sem.eq_ok_of hq (a := Handler.found x.handlerPc) (s' := ((u.setTop g).pushFrame (.throwing a)).setVm vm') (acts' := []) (by simp [hfind _ _ _ _])
    rfl
  refine Steps.head hgo hw ?_
  rw [stepThread_throwing (frames_entered h.top _), hr, List.tail_cons, hres]
  have hr' : (u.setVm vm').frames = .java g₀ :: r := hr
  rw [State.setTop_of_frames _ hr'] at hrest
  have e1 : (((u.setTop g).pushFrame (.throwing a)).setVm vm').setFrames (.java { g with pc := x.handlerPc, stack := [.ref a] } :: r) = (u.setVm vm').setFrames (.java { g with pc := x.handlerPc, stack := [.ref a] } :: r) := by
    rw [State.pushFrame, State.setTop_of_frames _ hr, State.setFrames_setFrames]
    have e2 : ∀ (w : State) (F : List Frame), (w.setFrames F).setVm vm' = (w.setVm vm').setFrames F := fun _ _ => rfl
    rw [e2, State.setFrames_setFrames]
  rw [e1]
  exact hrest
variable {p : Program} {l : Launch} {e : Env} {R : Room} {s : State} {m : MethodId} {args : Array Value} {below : List Frame} {meth : Method} {c : Code} {H : Heap} {locs : List Loc} {cells slots : Nat} {Q : State → Prop}
/-- caught by the first row of this method's table -/
theorem xc_catch {own name E : String} {ce : Cell} {q : Addr} {pc : Nat} {ls : Array Slot} {rest : List Value} (hown : s.vm.findClass own = some m.cls) {x : ExceptionTableEntry} {t : List ExceptionTableEntry} (htab : c.exceptionTable.toList = x :: t)
    (hx : covers x pc = true) (h0 : x.catchType ≠ 0) (hlink : (Cond.classLink own x.catchType name).before args s = true) (hcast : (Cond.castable E name).before args s = true) (hcell : H[q]? = some ce) (hv : ce.vm = .none) (hcl : s.vm.findClass E = some ce.cls)
    (kk : W p l e R s m args below meth c H locs cells slots Q (F0 m x.handlerPc ls [.ref q])) : vx_W p l e R s m args below meth c H locs cells slots Q (F0 m pc ls rest) q := by
  intro T hT X
  have hpl : e.platform.magicAccessors = ({} : Platform).magicAccessors := by rw [X.admits.platform]
  obtain ⟨c3, c4, hc3, hc4, hasg⟩ := Cond.castable_spec hcast
  cases Option.some.inj (hc3.symm.trans hcl)
  obtain ⟨c5, hc5, hcl5⟩ := Cond.classLink_spec hown hlink e.platform hpl
  cases Option.some.inj (hc4.symm.trans hc5)
  obtain ⟨dk, _, _, kt, hd, _, _, _, _, hkt, _, hopen⟩ := hcl5.here
  have hW' : s.WarmedH (T.vm.noted m.cls x.catchType (.cls c4)) := X.warmed.noted hd hopen (State.rightAt_cls hcl5)
  have hal := X.warmed.alike
  obtain ⟨kt', hkt', -⟩ := hal.2.2 _ _ hkt
  have hfit : T.vm.assignable ce.cls c4 = true := by rw [hal.assignable]; exact hasg
  have X' := X.noted hW'
  obtain ⟨t2, a1, b1⟩ := kk (T.setVm (T.vm.noted m.cls x.catchType (.cls c4))) hT X'
  refine ⟨t2, ?_, b1⟩
  exact xc_steps (g := F0 m pc ls rest) (meth := meth) X.here X.method' X.code htab hx h0 (k := c4) (cell := ce) (X.warmed.classLinks hcl5) (by rw [hT]; exact hcell) (fun z h => by rw [hv] at h; cases h)
    (Vm.classAt_of_assignable hfit ⟨kt', hkt'⟩) ⟨kt', hkt'⟩ hfit a1
end XC
end
section
/-! ===== my own: one form of contract for every method, one list of words, one row a call ===== -/
section KL
/-- the words that every method of the claim takes: all good ones of the tables -/
def TB : List Cond := lw_tbl.filter goodWord
theorem tb_of {w : Cond} (i : Nat) (h : (decide (lw_tbl[i]? = some w) && goodWord w) = true) : w ∈ TB := by
  simp only [Bool.and_eq_true, decide_eq_true_eq] at h
  exact List.mem_filter.mpr ⟨List.mem_of_getElem? h.1, h.2⟩
theorem tb_all (ws : List Cond) (ps : List Nat) (h : (decide (ws = ps.filterMap (fun i => lw_tbl[i]?)) && ws.all goodWord) = true) : ∀ w ∈ ws, w ∈ TB := by
  simp only [Bool.and_eq_true, decide_eq_true_eq] at h
  intro w hw
  have h2 := List.all_eq_true.mp h.2 w hw
  rw [h.1] at hw
  obtain ⟨i, -, hi⟩ := List.mem_filterMap.mp hw
  exact List.mem_filter.mpr ⟨List.mem_of_getElem? hi, h2⟩
theorem tb_tbl {w : Cond} (h : w ∈ TB) : w ∈ lw_tbl := (List.mem_filter.mp h).1
theorem tb_good {w : Cond} (h : w ∈ TB) : (w.onTables && w.keeps) = true ∨ ∃ ty, w = .arrayClass ty := good_of_word (List.mem_filter.mp h).2
theorem tb_in {w : Cond} (h : w ∈ TB) : GoodIn TB (w :: TB) := fun v hv => (List.mem_cons.mp hv).elim (fun e => by rw [e]; exact ⟨h, tb_good h⟩) (fun h => ⟨h, tb_good h⟩)
abbrev k_cl : List vw_C := [(RX0, TX0, 10), (RX1, TX1, 14), (RX2, TX2, 5), (RX3, TX3, 6), (RX4, TX4, 9), (RX5, TX5, 17), (RX6, TX6, 2), (RX7, TX7, 5), (RX8, TX8, 5), (RX9, TX9, 13), (RX10, TX10, 81)]
abbrev k_tys (E : Nat → ClassId) : List (ClassId × FieldType) := [(E 0, .int), (E 1, .long), (E 2, .byte), (E 3, .boolean)]
/-- links to the private constructors of nest mates -/
def k_nw : List (String × Nat × MethodName) := [(RX9, 13, yX6_init), (RX9, 20, yX0_init), (RX0, 33, yX3_init), (RX9, 36, yX8_init), (RX9, 46, yX7_init), (RX9, 53, yX2_init), (RX2, 25, yX8_init), (RX9, 60, yX1_init), (RX1, 11, yX3_init), (RX1, 47, yX8_init), (RX9, 67, yX5_init)]
def k_N (U : State) : Prop := ∀ q ∈ k_nw, va_Nw (.methodLinkNest q.1 q.2.1 q.2.2 RX9) U
/-- the texts of the exceptions that a fresh object throws -/
def k_R (sa : Nat → Nat) (U : State) : Prop := vk_R RX9 388 "no such node" (sa 0) U ∧ vk_R RX9 168 "no such arc" (sa 1) U ∧ vk_R RX9 103 "the tape has not so many bytes" (sa 2) U ∧ vk_R RX9 137 "the place is beyond the plane" (sa 3) U
/-- what no cell of the world says: those links, those texts, Throwable's statics -/
def k_dc (C : String) : Cond := .declares ⟨C, "<init>", "(Ljava/lang/String;)V"⟩
def k_C (U : State) : Prop := va_Nw (.castable "java/lang/IndexOutOfBoundsException" "java/lang/IndexOutOfBoundsException") U ∧ va_Nw (.castable "java/lang/IllegalArgumentException" "java/lang/IllegalArgumentException") U ∧ va_Nw (k_dc "java/lang/RuntimeException") U ∧ va_Nw (k_dc "java/lang/Exception") U ∧ va_Nw (k_dc "java/lang/Throwable") U
theorem k_C.warm {s U : State} (hW : s.WarmedH U.vm) (h : k_C s) : k_C U := ⟨va_Nw.warmC hW h.1, va_Nw.warmC hW h.2.1, va_Nw.warmD hW h.2.2.1, va_Nw.warmD hW h.2.2.2.1, va_Nw.warmD hW h.2.2.2.2⟩
theorem k_C.same {s U : State} (hv : U.vm = s.vm) (h : k_C s) : k_C U := ⟨va_Nw.same rfl hv.symm h.1, va_Nw.same rfl hv.symm h.2.1, va_Nw.same rfl hv.symm h.2.2.1, va_Nw.same rfl hv.symm h.2.2.2.1, va_Nw.same rfl hv.symm h.2.2.2.2⟩
def k_Z (sa : Nat → Nat) (A : Nat → Prop) (U : State) (H : Heap) : Prop := k_N U ∧ k_R sa U ∧ vx_Zq Bundle.tN "UNASSIGNED_STACK" Bundle.steD A U H ∧ vx_Zq Bundle.tN "SUPPRESSED_SENTINEL" Bundle.listD A U H ∧ k_C U
theorem k_Z.warm {sa : Nat → Nat} {A : Nat → Prop} {s U : State} {H : Heap} (hW : s.WarmedH U.vm) (h : k_Z sa A s H) : k_Z sa A U H :=
  ⟨fun q hq => va_Nw.warmM hW (h.1 q hq), ⟨h.2.1.1.warm hW, h.2.1.2.1.warm hW, h.2.1.2.2.1.warm hW, h.2.1.2.2.2.warm hW⟩, h.2.2.1.moved hW.alike, h.2.2.2.1.moved hW.alike, h.2.2.2.2.warm hW⟩
theorem k_Z.same {sa : Nat → Nat} {A : Nat → Prop} {s U : State} {H : Heap} (hv : U.vm = s.vm) (h : k_Z sa A s H) : k_Z sa A U H :=
  ⟨fun q hq => va_Nw.same rfl hv.symm (h.1 q hq), ⟨h.2.1.1.same hv, h.2.1.2.1.same hv, h.2.1.2.2.1.same hv, h.2.1.2.2.2.same hv⟩, h.2.2.1.moved (by rw [hv]; exact Vm.Alike.refl _), h.2.2.2.1.moved (by rw [hv]; exact Vm.Alike.refl _), h.2.2.2.2.same hv⟩
theorem k_Z.kept {sa : Nat → Nat} {A : Nat → Prop} {s : State} {H H1 : Heap} (h : k_Z sa A s H) (hq : ∀ a : Nat, a < H.size → ¬ A a → H1[a]? = H[a]?) : k_Z sa A s H1 := ⟨h.1, h.2.1, h.2.2.1.kept hq, h.2.2.2.1.kept hq, h.2.2.2.2⟩
theorem k_Z.narrow {sa : Nat → Nat} {A B : Nat → Prop} {s : State} {H : Heap} (h : k_Z sa A s H) (hAB : ∀ q, B q → A q) : k_Z sa B s H := ⟨h.1, h.2.1, h.2.2.1.narrow hAB, h.2.2.2.1.narrow hAB, h.2.2.2.2⟩
/-! ### contracts -/
abbrev k_PR (D : va_G) (E : Nat → ClassId) (ws : va_W) (U : State) : Prop := va_P D k_cl ws U.heap ∧ va_K D k_cl (k_tys E) U
abbrev k_PM (D : va_G) (E : Nat → ClassId) (sa : Nat → Nat) (ws : va_W) (sz : Nat) (U : State) : Prop := U.heap.size = sz ∧ va_P D k_cl ws U.heap ∧ va_K D k_cl (k_tys E) U ∧ va_D (fun _ => True) ws ∧ k_Z sa (va_A ws sz) U U.heap
abbrev k_PT (D : va_G) (E : Nat → ClassId) (sa : Nat → Nat) (ws : va_W) (sz : Nat) (U : State) : Prop := U.heap.size = sz ∧ va_P D k_cl ws U.heap ∧ va_K D k_cl (k_tys E) U ∧ k_Z sa (fun q => sz ≤ q) U U.heap
def k_QR (v : Option Value) : Array Value → State → Outcome → State → Prop := fun _ st oc t => oc = .returned v ∧ t.heap = st.heap
def k_QM {S : Type} (D : va_G) (A : Nat → Prop) (val : S → Option Value) (post : S → Prop) (B : S → va_W) : Array Value → State → Outcome → State → Prop := fun _ st oc t => (∃ u : S, oc = .returned (val u) ∧ post u ∧ va_P D k_cl (B u) t.heap ∧ va_D A (B u)) ∧ va_F A st t
def k_XT (cls : String) (sz : Nat) : String → State → State → Prop := fun E st t => E = cls ∧ va_F (fun q => sz ≤ q) st t
def k_QF : Array Value → State → Outcome → State → Prop := fun _ _ _ _ => False
/-- reads, makes nothing, writes nothing, answers v -/
def KR (l : Launch) (y : MethodName) (b : ByteArray) (n : Nat) (ret : Option FieldType) (fr lo : Nat) (D : va_G) (E : Nat → ClassId) (av : List Value) (ws : va_W) (v : Option Value) : Prop :=
  Met l y (.code y b n ret :: TB) { frames := fr, cells := 0, slots := 0, locals := lo } (va_Pc av (k_PR D E ws)) (k_QR v) 0 0 (fun _ => False)
/-- writes its world alone -/
def KM (l : Launch) (y : MethodName) (hw : Cond) (fr lo mc ms : Nat) (D : va_G) (E : Nat → ClassId) (sa : Nat → Nat) (av : List Value) (ws : va_W) {S : Type} (val : S → Option Value) (post : S → Prop) (B : S → va_W) : Prop :=
  ∀ sz : Nat, Met l y (hw :: TB) { frames := fr, cells := mc, slots := ms, locals := lo } (va_Pc av (k_PM D E sa ws sz)) (k_QM D (va_A ws sz) val post B) mc ms (va_A ws sz)
/-- throws cls, writes nothing that was there -/
def KT (l : Launch) (y : MethodName) (b : ByteArray) (n : Nat) (ret : Option FieldType) (fr lo : Nat) (D : va_G) (E : Nat → ClassId) (sa : Nat → Nat) (av : List Value) (ws : va_W) (cls : String) : Prop :=
  ∀ sz : Nat, vx_Met l y (.code y b n ret :: TB) { frames := fr, cells := 1, slots := 6, locals := lo } (va_Pc av (k_PT D E sa ws sz)) k_QF (k_XT cls sz) 1 6 (fun q => sz ≤ q)
theorem KR.of {l : Launch} {y : MethodName} {b : ByteArray} {n : Nat} {ret : Option FieldType} {fr lo : Nat} {D : va_G} {E : Nat → ClassId} {av : List Value} {ws : va_W} {v : Option Value} (hy : plainName y.cls = true) (hn : (lg_sl av).length ≤ n)
    (body : ∀ (p : Program) (e : Env) (s : State) (m : MethodId) (below : List Frame) (meth : Method) (c : Code) (ls : Array Slot), p.tables.exec = Jvm.exec → c.code = b → meth.sig.returnType = ret → (∀ w ∈ TB, w.before av.toArray s = true) → c.maxLocals = n → s.vm.findClass y.cls = some m.cls → meth.locks = false →
      va_K D k_cl (k_tys E) s → va_P D k_cl ws s.heap → lv_has ls n (lv_args 0 av) →
      W p l e { frames := fr, cells := 0, slots := 0, locals := lo } s m av.toArray below meth c s.heap [] 0 0 (MQ below (k_QR v) av.toArray s 0 0 (fun _ => False)) (F0 m 0 ls [])) : KR l y b n ret fr lo D E av ws v := by
  refine Met.ofW (cc := b) (maxL := n) (ret := ret) hy rfl ?_
  intro p e s m args below meth c s₁ B hml hv
  obtain ⟨rfl, hP, hK⟩ := hv
  have hts := atoms_spec (ws := .code y b n ret :: TB) B.pre
  rw [lg_entry_eq]
  exact body p e s m below meth c _ B.exec B.bytes B.returns (fun w h => hts w (List.mem_cons_of_mem _ h)) hml (findClass_of_methodNamed B.named) B.notSynchronized hK hP (lv_entry av hn)
theorem KM.of {l : Launch} {y : MethodName} {b : ByteArray} {n : Nat} {ret : Option FieldType} {fr lo mc ms : Nat} {D : va_G} {E : Nat → ClassId} {sa : Nat → Nat} {av : List Value} {ws : va_W} {S : Type} {val : S → Option Value} {post : S → Prop} {B : S → va_W} (hy : plainName y.cls = true) (hn : (lg_sl av).length ≤ n)
    (body : ∀ (p : Program) (e : Env) (s : State) (m : MethodId) (below : List Frame) (meth : Method) (c : Code) (A : Nat → Prop) (ls : Array Slot), p.tables.exec = Jvm.exec → c.code = b → meth.sig.returnType = ret → (∀ w ∈ TB, w.before av.toArray s = true) → c.maxLocals = n → s.vm.findClass y.cls = some m.cls → meth.locks = false → meth.name = y.name →
      va_K D k_cl (k_tys E) s → va_P D k_cl ws s.heap → va_D A ws → (∀ q, s.heap.size ≤ q → A q) → va_S A s.heap s.heap [] → k_Z sa A s s.heap → lv_has ls n (lv_args 0 av) →
      W p l e { frames := fr, cells := mc, slots := ms, locals := lo } s m av.toArray below meth c s.heap [] 0 0 (MQ below (k_QM D A val post B) av.toArray s mc ms A) (F0 m 0 ls [])) : KM l y (.code y b n ret) fr lo mc ms D E sa av ws val post B := by
  intro sz
  refine Met.ofW (cc := b) (maxL := n) (ret := ret) hy rfl ?_
  intro p e s m args below meth c s₁ BB hml hv
  obtain ⟨rfl, hsz, hP, hK, hD0, hZ⟩ := hv
  subst hsz
  have hts := atoms_spec (ws := .code y b n ret :: TB) BB.pre
  rw [lg_entry_eq]
  exact body p e s m below meth c (va_A ws s.heap.size) _ BB.exec BB.bytes BB.returns (fun w h => hts w (List.mem_cons_of_mem _ h)) hml (findClass_of_methodNamed BB.named) BB.notSynchronized (name_of_methodNamed BB.named BB.method).1 hK hP hD0.self (fun q h => Or.inr h) va_S.rf hZ (lv_entry av hn)
/-- a method with a table of its own -/
theorem KM.ofH {l : Launch} {y : MethodName} {b : ByteArray} {n : Nat} {ret : Option FieldType} {hh : List (Nat × Nat × Nat × Nat)} {fr lo mc ms : Nat} {D : va_G} {E : Nat → ClassId} {sa : Nat → Nat} {av : List Value} {ws : va_W} {S : Type} {val : S → Option Value} {post : S → Prop} {B : S → va_W} (hy : plainName y.cls = true) (hn : (lg_sl av).length ≤ n)
    (body : ∀ (p : Program) (e : Env) (s : State) (m : MethodId) (below : List Frame) (meth : Method) (c : Code) (A : Nat → Prop) (ls : Array Slot), p.tables.exec = Jvm.exec → c.code = b → meth.sig.returnType = ret → (∀ w ∈ TB, w.before av.toArray s = true) → c.maxLocals = n → s.vm.findClass y.cls = some m.cls → meth.locks = false →
      c.exceptionTable.toList = tableOf hh →
      va_K D k_cl (k_tys E) s → va_P D k_cl ws s.heap → va_D A ws → (∀ q, s.heap.size ≤ q → A q) → va_S A s.heap s.heap [] → k_Z sa A s s.heap → lv_has ls n (lv_args 0 av) →
      W p l e { frames := fr, cells := mc, slots := ms, locals := lo } s m av.toArray below meth c s.heap [] 0 0 (MQ below (k_QM D A val post B) av.toArray s mc ms A) (F0 m 0 ls [])) : KM l y (.codeWith y b n ret hh) fr lo mc ms D E sa av ws val post B := by
  intro sz
  refine va_MetW (cc := b) (maxL := n) (ret := ret) (hh := hh) hy rfl ?_
  intro p e s m args below meth c s₁ BB hml hv
  obtain ⟨rfl, hsz, hP, hK, hD0, hZ⟩ := hv
  subst hsz
  have hts := atoms_spec (ws := .codeWith y b n ret hh :: TB) BB.pre
  rw [lg_entry_eq]
  refine body p e s m below meth c (va_A ws s.heap.size) _ BB.exec BB.bytes BB.returns (fun w h => hts w (List.mem_cons_of_mem _ h)) hml (findClass_of_methodNamed BB.named) BB.notSynchronized ?_ hK hP hD0.self (fun q h => Or.inr h) va_S.rf hZ (lv_entry av hn)
  exact vx_table (x := y) BB (hts _ List.mem_cons_self)
theorem KT.of {l : Launch} {y : MethodName} {b : ByteArray} {n : Nat} {ret : Option FieldType} {fr lo : Nat} {D : va_G} {E : Nat → ClassId} {sa : Nat → Nat} {av : List Value} {ws : va_W} {cls : String} (hy : plainName y.cls = true) (hn : (lg_sl av).length ≤ n)
    (body : ∀ (p : Program) (e : Env) (s : State) (m : MethodId) (below : List Frame) (meth : Method) (c : Code) (ls : Array Slot), p.tables.exec = Jvm.exec → c.code = b → meth.sig.returnType = ret → (∀ w ∈ TB, w.before av.toArray s = true) → c.maxLocals = n → s.vm.findClass y.cls = some m.cls → meth.locks = false →
      (∀ x ∈ c.exceptionTable.toList, False) → va_K D k_cl (k_tys E) s → va_P D k_cl ws s.heap → k_Z sa (fun q => s.heap.size ≤ q) s s.heap → lv_has ls n (lv_args 0 av) →
      W p l e { frames := fr, cells := 1, slots := 6, locals := lo } s m av.toArray below meth c s.heap [] 0 0 (vx_MQ below k_QF (k_XT cls s.heap.size) av.toArray s 1 6 (fun q => s.heap.size ≤ q)) (F0 m 0 ls [])) : KT l y b n ret fr lo D E sa av ws cls := by
  intro sz
  refine vx_ofW (cc := b) (maxL := n) (ret := ret) hy rfl ?_
  intro p e s m args below meth c s₁ BB hml htab hv
  obtain ⟨rfl, hsz, hP, hK, hZ⟩ := hv
  subst hsz
  have hts := atoms_spec (ws := .code y b n ret :: TB) BB.pre
  rw [lg_entry_eq]
  exact body p e s m below meth c _ BB.exec BB.bytes BB.returns (fun w h => hts w (List.mem_cons_of_mem _ h)) hml (findClass_of_methodNamed BB.named) BB.notSynchronized htab hK hP hZ (lv_entry av hn)
end KL
end
section
/-! ===== my own: ends and calls over the contracts of part 05 ===== -/
section KE
variable {p : Program} {l : Launch} {e : Env} {R : Room} {s : State} {m : MethodId} {args : Array Value} {below : List Frame} {meth : Method} {c : Code} {H : Heap} {locs : List Loc} {cells slots : Nat} {Q : State → Prop}
variable {D : va_G} {E : Nat → ClassId} {sa : Nat → Nat} {A : Nat → Prop} {ws : va_W} {H0 : Heap} {cc : ByteArray} {pc : Nat} {ls : Array Slot} {rest st0 : List Value}
/-! ends -/
theorem r_i {v : Int32} (hx : p.tables.exec = Jvm.exec) (hb : c.code = cc) (hr : meth.sig.returnType = some .int) (hlocks : meth.locks = false) (hH : H = s.heap) (hdg : decode cc pc = .ok (.ireturn, 1)) :
    W p l e R s m args below meth c H [] 0 0 (MQ below (k_QR (some (.int v))) args s 0 0 (fun _ => False)) (F0 m pc ls [.int v]) :=
  W.iret hx hb hr (fun t ht _ => ⟨rfl, by rw [ht, hH]⟩) (fun _ h => nomatch h) hdg
theorem r_z {v : Int32} (hx : p.tables.exec = Jvm.exec) (hb : c.code = cc) (hr : meth.sig.returnType = some .boolean) (hlocks : meth.locks = false) (hn : narrow .boolean (.int v) = .int v) (hH : H = s.heap) (hdg : decode cc pc = .ok (.ireturn, 1)) :
    W p l e R s m args below meth c H [] 0 0 (MQ below (k_QR (some (.int v))) args s 0 0 (fun _ => False)) (F0 m pc ls [.int v]) :=
  W.zret hx hb hr hn (fun t ht _ => ⟨rfl, by rw [ht, hH]⟩) (fun _ h => nomatch h) hdg
theorem r_l {v : Int64} (hx : p.tables.exec = Jvm.exec) (hb : c.code = cc) (hr : meth.sig.returnType = some .long) (hlocks : meth.locks = false) (hH : H = s.heap) (hdg : decode cc pc = .ok (.lreturn, 1)) :
    W p l e R s m args below meth c H [] 0 0 (MQ below (k_QR (some (.long v))) args s 0 0 (fun _ => False)) (F0 m pc ls [.long v]) :=
  W.lret hx hb hr (fun t ht _ => ⟨rfl, by rw [ht, hH]⟩) (fun _ h => nomatch h) hdg
section
variable {S : Type} {val : S → Option Value} {post : S → Prop} {B : S → va_W} {mc ms : Nat}
theorem m_i {v : Int32} (u : S) (hx : p.tables.exec = Jvm.exec) (hb : c.code = cc) (hr : meth.sig.returnType = some .int) (hlocks : meth.locks = false) (hv : val u = some (.int v)) (hpost : post u) (hP : va_P D k_cl (B u) H) (hD : va_D A (B u)) (hS : va_S A s.heap H locs) (hc : cells ≤ mc) (hs : slots ≤ ms) (hdg : decode cc pc = .ok (.ireturn, 1)) :
    W p l e R s m args below meth c H locs cells slots (MQ below (k_QM D A val post B) args s mc ms A) (F0 m pc ls [.int v]) :=
  W.widen hc hs (W.iret hx hb hr (fun t ht _ => ⟨⟨u, by rw [hv], hpost, by rw [ht]; exact hP, hD⟩, hS.F ht⟩) hS.2.2 hdg)
theorem m_z {v : Int32} (u : S) (hx : p.tables.exec = Jvm.exec) (hb : c.code = cc) (hr : meth.sig.returnType = some .boolean) (hlocks : meth.locks = false) (hn : narrow .boolean (.int v) = .int v) (hv : val u = some (.int v)) (hpost : post u) (hP : va_P D k_cl (B u) H) (hD : va_D A (B u)) (hS : va_S A s.heap H locs) (hc : cells ≤ mc) (hs : slots ≤ ms) (hdg : decode cc pc = .ok (.ireturn, 1)) :
    W p l e R s m args below meth c H locs cells slots (MQ below (k_QM D A val post B) args s mc ms A) (F0 m pc ls [.int v]) :=
  W.widen hc hs (W.zret hx hb hr hn (fun t ht _ => ⟨⟨u, by rw [hv], hpost, by rw [ht]; exact hP, hD⟩, hS.F ht⟩) hS.2.2 hdg)
theorem m_l {v : Int64} (u : S) (hx : p.tables.exec = Jvm.exec) (hb : c.code = cc) (hr : meth.sig.returnType = some .long) (hlocks : meth.locks = false) (hv : val u = some (.long v)) (hpost : post u) (hP : va_P D k_cl (B u) H) (hD : va_D A (B u)) (hS : va_S A s.heap H locs) (hc : cells ≤ mc) (hs : slots ≤ ms) (hdg : decode cc pc = .ok (.lreturn, 1)) :
    W p l e R s m args below meth c H locs cells slots (MQ below (k_QM D A val post B) args s mc ms A) (F0 m pc ls [.long v]) :=
  W.widen hc hs (W.lret hx hb hr (fun t ht _ => ⟨⟨u, by rw [hv], hpost, by rw [ht]; exact hP, hD⟩, hS.F ht⟩) hS.2.2 hdg)
theorem m_v (u : S) (hx : p.tables.exec = Jvm.exec) (hb : c.code = cc) (hr : meth.sig.returnType = none) (hlocks : meth.locks = false) (hv : val u = none) (hpost : post u) (hP : va_P D k_cl (B u) H) (hD : va_D A (B u)) (hS : va_S A s.heap H locs) (hc : cells ≤ mc) (hs : slots ≤ ms) (hdg : decode cc pc = .ok (.return_, 1)) :
    W p l e R s m args below meth c H locs cells slots (MQ below (k_QM D A val post B) args s mc ms A) (F0 m pc ls []) :=
  W.widen hc hs (W.vret hx hb hr (fun t ht _ => ⟨⟨u, by rw [hv], hpost, by rw [ht]; exact hP, hD⟩, hS.F ht⟩) hS.2.2 hdg)
end
/-! calls -/
variable {nL n index fr lo mc ms : Nat} {own C : String} {y : MethodName} {b : ByteArray} {ret : Option FieldType} {a : Nat} {As : List Value} {wc wr : va_W}
theorem k_gV (h1 : Cond.methodLink own index y ∈ TB) (h2 : Cond.instanceMethod y ∈ TB) (h3 : Cond.selects C y y ∈ TB) (h4 : Cond.initialized C ∈ TB) {hw : Cond} (h5 : hw ∈ TB) : GoodIn TB (wsV own index C y (hw :: TB)) := by
  intro w hw'
  have hm : w ∈ TB := by
    simp only [wsV, List.cons_append, List.nil_append, List.mem_cons] at hw'
    rcases hw' with rfl | rfl | rfl | rfl | rfl | h
    · exact h1
    · exact h2
    · exact h3
    · exact h4
    · exact h5
    · exact h
  exact ⟨hm, tb_good hm⟩
theorem k_blindR {av : List Value} : FrameBlind (va_Pc av (k_PR D E wc)) := fun a U g mk q => ⟨q.1, q.2.1, va_K.moved (u := U) (U := U.calling g mk a) (Vm.Alike.refl U.vm) q.2.2⟩
theorem k_blindM {av : List Value} {sz : Nat} : FrameBlind (va_Pc av (k_PM D E sa wc sz)) := fun a U g mk q => ⟨q.1, q.2.1, q.2.2.1, va_K.moved (u := U) (U := U.calling g mk a) (Vm.Alike.refl U.vm) q.2.2.2.1, q.2.2.2.2.1, q.2.2.2.2.2.same rfl⟩
theorem k_blindT {av : List Value} {sz : Nat} : FrameBlind (va_Pc av (k_PT D E sa wc sz)) := fun a U g mk q => ⟨q.1, q.2.1, q.2.2.1, va_K.moved (u := U) (U := U.calling g mk a) (Vm.Alike.refl U.vm) q.2.2.2.1, q.2.2.2.2.same rfl⟩
/-- behind a call that only reads -/
theorem k_rd {v : Option Value} {a9 : Array Value} (hr : va_Run p l e R s m args below meth c H locs cells slots 0 0 (F0 m pc ls st0) rest (k_QR v a9) (fun _ => False))
    (kk : W p l e R s m args below meth c H locs cells slots Q (F0 m (pc + 3) ls (v.toList ++ rest))) : W p l e R s m args below meth c H locs cells slots Q (F0 m pc ls st0) := by
  intro T hT X
  obtain ⟨v', st₀, t, T', L, h0, X', hL, e1, e2, ⟨hv, hh⟩, st⟩ := hr T hT X
  cases hv
  have hl : L = [] := by
    cases L with
    | nil => rfl
    | cons z L => exact (hL z List.mem_cons_self).elim
  subst hl
  rw [List.append_nil] at X'
  obtain ⟨t2, a1, b1⟩ := kk T' (by rw [e1, hh, h0]) X'
  exact ⟨t2, st t2 a1, b1⟩
/-- behind a call that writes its world -/
theorem k_wr {S : Type} {val : S → Option Value} {post : S → Prop} {B : S → va_W} {a9 : Array Value} (hr : va_Run p l e R s m args below meth c H locs cells slots mc ms (F0 m pc ls st0) rest (k_QM D (va_A wc H.size) val post B a9) (va_A wc H.size))
    (hP : va_P D k_cl ws H) (hD : va_D A ws) (hS : va_S A H0 H locs) (hA : ∀ q, H0.size ≤ q → A q)
    (isC isR : List Nat) (hC : isC.map (fun i => ws[i]?) = wc.map some) (hR : isR.map (fun i => ws[i]?) = wr.map some) (hn : va_nd isR = true) (hdis : ∀ i ∈ isR, i ∉ isC)
    (kk : ∀ (u : S) (H1 : Heap) (locs1 : List Loc), post u → va_P D k_cl (wr ++ B u) H1 → va_D A (wr ++ B u) → va_S A H0 H1 locs1 → H.size ≤ H1.size → W p l e R s m args below meth c H1 locs1 (cells + mc) (slots + ms) Q (F0 m (pc + 3) ls ((val u).toList ++ rest))) :
    W p l e R s m args below meth c H locs cells slots Q (F0 m pc ls st0) := by
  have hF := va_free (wc := wc) hD hS hA isC hC
  intro T hT X
  obtain ⟨v', st₀, t, T', L, h0, X', hL, e1, e2, ⟨⟨u, hv, hp, hP1, hD1⟩, hz, hk⟩, st⟩ := hr T hT X
  cases hv
  rw [h0] at hz hk
  have hk' : ∀ q : Nat, q < H.size → ¬ va_A wc H.size q → T'.heap[q]? = H[q]? := fun q h1 h2 => by rw [e1]; exact hk q h1 h2
  obtain ⟨j1, j2⟩ := va_join (wr := wr) (w1 := B u) hP hD isC isR hC hR hn hdis hk' hF (by rw [e1]; exact hP1) hD1
  obtain ⟨t2, a1, b1⟩ := kk u T'.heap (locs ++ L) hp j1 j2
    ⟨Nat.le_trans hS.1 (by rw [e1]; exact hz), fun q h1 h2 => by rw [hk' q (Nat.lt_of_lt_of_le h1 hS.1) (fun z => h2 (hF q z))]; exact hS.2.1 q h1 h2, fun q hq => by
      rcases List.mem_append.mp hq with h | h
      · exact hS.2.2 q h
      · exact hF _ (hL q h)⟩ (by rw [e1]; exact hz) T' rfl X'
  exact ⟨t2, st t2 a1, b1⟩
abbrev k_hd (y : MethodName) (n : Nat) : Prop := y.cls ≠ "java/lang/invoke/MethodHandle" ∧ y.cls ≠ "java/lang/invoke/VarHandle" ∧ (parseMethodDescriptor y.desc).map (fun d => d.parameters.length) = some n
/-- invokevirtual of a method that only reads -/
theorem k_RV {v : Option Value} {T : u_T} {N ci q0 : Nat} {fs : List Value} (F : CallFix p m c cc nL s args TB own) (hM : KR l y b n ret fr lo D E (.ref a :: As) wc v)
    (h1 : Cond.methodLink own index y ∈ TB) (h2 : Cond.instanceMethod y ∈ TB) (h3 : Cond.selects C y y ∈ TB) (h4 : Cond.initialized C ∈ TB) (h5 : Cond.code y b n ret ∈ TB) (hd : y.cls = C ∧ k_hd y As.length)
    (hRm : (fr + 1 ≤ R.frames ∧ 8 + (n + 11) + lo ≤ R.locals) ∧ cells ≤ R.cells ∧ slots ≤ R.slots) (hK : va_K D k_cl (k_tys E) s) (hP : va_P D k_cl ws H) (isC : List Nat) (hC : isC.filterMap (fun i => ws[i]?) = wc)
    (hc : k_cl[ci]? = some (C, T, N)) (he : ws[q0]? = some (a, .inr (ci, fs))) (hst : st0 = As.reverse ++ .ref a :: rest) (hsz : ls.size = nL) (hW : (rest.map fun v => v.category).sum ≤ 8) (hdg : decode cc pc = .ok (.invokevirtual index, 3))
    (kk : W p l e R s m args below meth c H locs cells slots Q (F0 m (pc + 3) ls (v.toList ++ rest))) : W p l e R s m args below meth c H locs cells slots Q (F0 m pc ls st0) := by
  have hPc := hP.sub isC hC
  refine k_rd (va_runV (As := As) (rest := rest) F hM (cwV As.length F.2.2.2.2 (k_gV h1 h2 h3 h4 h5) rfl rfl rfl ⟨hd.1, hd.2⟩ hRm.1) ⟨k_blindR, va_recv hK hP hc he, fun U hU hW9 => ⟨rfl, by rw [hU]; exact hPc, va_K.moved hW9.alike hK⟩⟩ rfl rfl hsz hst (lv_room hW) hdg hRm.2) kk
/-- invokestatic of a method that only reads -/
theorem k_RS {v : Option Value} (F : CallFix p m c cc nL s args TB own) (hM : KR l y b n ret fr lo D E As wc v)
    (h1 : Cond.methodLink own index y ∈ TB) (h2 : Cond.static y ∈ TB) (h4 : Cond.initialized y.cls ∈ TB) (h5 : Cond.code y b n ret ∈ TB) (hd : k_hd y As.length)
    (hRm : (fr + 1 ≤ R.frames ∧ 8 + (n + 11) + lo ≤ R.locals) ∧ cells ≤ R.cells ∧ slots ≤ R.slots) (hK : va_K D k_cl (k_tys E) s) (hP : va_P D k_cl ws H) (isC : List Nat) (hC : isC.filterMap (fun i => ws[i]?) = wc)
    (hst : st0 = As.reverse ++ rest) (hsz : ls.size = nL) (hW : (rest.map fun v => v.category).sum ≤ 8) (hdg : decode cc pc = .ok (.invokestatic index, 3))
    (kk : W p l e R s m args below meth c H locs cells slots Q (F0 m (pc + 3) ls (v.toList ++ rest))) : W p l e R s m args below meth c H locs cells slots Q (F0 m pc ls st0) := by
  have hPc := hP.sub isC hC
  refine k_rd (va_runS (As := As) (rest := rest) F hM ⟨callB_of As.length F.2.2.2.2 (tb_in h5) rfl rfl rfl (F.2.2.2.2 _ h4) (F.2.2.2.2 _ h1) hd hRm.1, F.2.2.2.2 _ h2⟩ ⟨k_blindR, fun U hU hW9 => ⟨rfl, by rw [hU]; exact hPc, va_K.moved hW9.alike hK⟩⟩ rfl rfl hsz hst (lv_room hW) hdg hRm.2) kk
section
variable {S : Type} {val : S → Option Value} {post : S → Prop} {B : S → va_W}
theorem k_pre {av : List Value} (hK : va_K D k_cl (k_tys E) s) (hP : va_P D k_cl ws H) (hD : va_D A ws) (hS : va_S A s.heap H locs) (hA : ∀ q, s.heap.size ≤ q → A q) (hZ : k_Z sa A s s.heap)
    (isC : List Nat) (hnc : va_nd isC = true) (hC : isC.map (fun i => ws[i]?) = wc.map some) (U : State) (hU : U.heap = H) (hW9 : s.WarmedH U.vm) : va_Pc av (k_PM D E sa wc H.size) av.toArray U := by
  have hF := va_free (wc := wc) hD hS hA isC hC
  have hf : isC.filterMap (fun i => ws[i]?) = wc := by
    have h9 : (isC.map (fun i => ws[i]?)).filterMap id = (wc.map some).filterMap id := by rw [hC]
    simpa [List.filterMap_map, Function.comp_def] using h9
  refine ⟨rfl, by rw [hU], by rw [hU]; exact hP.sub isC hf, va_K.moved hW9.alike hK, (hD.sub isC hnc hC).weaken (fun _ _ _ _ => trivial), ?_⟩
  rw [hU]
  exact ((hZ.kept hS.2.1).narrow hF).warm hW9
/-- invokevirtual of a method that writes -/
theorem k_MV {T : u_T} {N ci q0 : Nat} {fs : List Value} (F : CallFix p m c cc nL s args TB own) (hM : KM l y (.code y b n ret) fr lo mc ms D E sa (.ref a :: As) wc val post B)
    (h1 : Cond.methodLink own index y ∈ TB) (h2 : Cond.instanceMethod y ∈ TB) (h3 : Cond.selects C y y ∈ TB) (h4 : Cond.initialized C ∈ TB) (h5 : Cond.code y b n ret ∈ TB) (hd : y.cls = C ∧ k_hd y As.length)
    (hRm : (fr + 1 ≤ R.frames ∧ 8 + (n + 11) + lo ≤ R.locals) ∧ cells + mc ≤ R.cells ∧ slots + ms ≤ R.slots) (hK : va_K D k_cl (k_tys E) s) (hP : va_P D k_cl ws H) (hD : va_D A ws) (hS : va_S A s.heap H locs) (hA : ∀ q, s.heap.size ≤ q → A q) (hZ : k_Z sa A s s.heap)
    (isC isR : List Nat) (hC : isC.map (fun i => ws[i]?) = wc.map some) (hR : isR.map (fun i => ws[i]?) = wr.map some) (hnd : va_nd isC = true ∧ va_nd isR = true ∧ ∀ i ∈ isR, i ∉ isC)
    (hc : k_cl[ci]? = some (C, T, N)) (he : ws[q0]? = some (a, .inr (ci, fs))) (hst : st0 = As.reverse ++ .ref a :: rest) (hsz : ls.size = nL) (hW : (rest.map fun v => v.category).sum ≤ 8) (hdg : decode cc pc = .ok (.invokevirtual index, 3))
    (kk : ∀ (u : S) (H1 : Heap) (locs1 : List Loc), post u → va_P D k_cl (wr ++ B u) H1 → va_D A (wr ++ B u) → va_S A s.heap H1 locs1 → H.size ≤ H1.size → W p l e R s m args below meth c H1 locs1 (cells + mc) (slots + ms) Q (F0 m (pc + 3) ls ((val u).toList ++ rest))) :
    W p l e R s m args below meth c H locs cells slots Q (F0 m pc ls st0) :=
  k_wr (va_runV (As := As) (rest := rest) F (hM H.size) (cwV As.length F.2.2.2.2 (k_gV h1 h2 h3 h4 h5) rfl rfl rfl ⟨hd.1, hd.2⟩ hRm.1) ⟨k_blindM, va_recv hK hP hc he, k_pre hK hP hD hS hA hZ isC hnd.1 hC⟩ rfl rfl hsz hst (lv_room hW) hdg hRm.2) hP hD hS hA isC isR hC hR hnd.2.1 hnd.2.2 kk
/-- invokestatic of a method that writes -/
theorem k_MS (F : CallFix p m c cc nL s args TB own) (hM : KM l y (.code y b n ret) fr lo mc ms D E sa As wc val post B)
    (h1 : Cond.methodLink own index y ∈ TB) (h2 : Cond.static y ∈ TB) (h4 : Cond.initialized y.cls ∈ TB) (h5 : Cond.code y b n ret ∈ TB) (hd : k_hd y As.length)
    (hRm : (fr + 1 ≤ R.frames ∧ 8 + (n + 11) + lo ≤ R.locals) ∧ cells + mc ≤ R.cells ∧ slots + ms ≤ R.slots) (hK : va_K D k_cl (k_tys E) s) (hP : va_P D k_cl ws H) (hD : va_D A ws) (hS : va_S A s.heap H locs) (hA : ∀ q, s.heap.size ≤ q → A q) (hZ : k_Z sa A s s.heap)
    (isC isR : List Nat) (hC : isC.map (fun i => ws[i]?) = wc.map some) (hR : isR.map (fun i => ws[i]?) = wr.map some) (hnd : va_nd isC = true ∧ va_nd isR = true ∧ ∀ i ∈ isR, i ∉ isC)
    (hst : st0 = As.reverse ++ rest) (hsz : ls.size = nL) (hW : (rest.map fun v => v.category).sum ≤ 8) (hdg : decode cc pc = .ok (.invokestatic index, 3))
    (kk : ∀ (u : S) (H1 : Heap) (locs1 : List Loc), post u → va_P D k_cl (wr ++ B u) H1 → va_D A (wr ++ B u) → va_S A s.heap H1 locs1 → H.size ≤ H1.size → W p l e R s m args below meth c H1 locs1 (cells + mc) (slots + ms) Q (F0 m (pc + 3) ls ((val u).toList ++ rest))) :
    W p l e R s m args below meth c H locs cells slots Q (F0 m pc ls st0) :=
  k_wr (va_runS (As := As) (rest := rest) F (hM H.size) ⟨callB_of As.length F.2.2.2.2 (tb_in h5) rfl rfl rfl (F.2.2.2.2 _ h4) (F.2.2.2.2 _ h1) hd hRm.1, F.2.2.2.2 _ h2⟩ ⟨k_blindM, k_pre hK hP hD hS hA hZ isC hnd.1 hC⟩ rfl rfl hsz hst (lv_room hW) hdg hRm.2) hP hD hS hA isC isR hC hR hnd.2.1 hnd.2.2 kk
/-- invokestatic of a method with a table -/
theorem k_MW {hh : List (Nat × Nat × Nat × Nat)} (F : CallFix p m c cc nL s args TB own) (hM : KM l y (.codeWith y b n ret hh) fr lo mc ms D E sa As wc val post B)
    (h1 : Cond.methodLink own index y ∈ TB) (h2 : Cond.static y ∈ TB) (h4 : Cond.initialized y.cls ∈ TB) (h5 : Cond.codeWith y b n ret hh ∈ TB) (hd : k_hd y As.length)
    (hRm : (fr + 1 ≤ R.frames ∧ 8 + (n + 11) + lo ≤ R.locals) ∧ cells + mc ≤ R.cells ∧ slots + ms ≤ R.slots) (hK : va_K D k_cl (k_tys E) s) (hP : va_P D k_cl ws H) (hD : va_D A ws) (hS : va_S A s.heap H locs) (hA : ∀ q, s.heap.size ≤ q → A q) (hZ : k_Z sa A s s.heap)
    (isC isR : List Nat) (hC : isC.map (fun i => ws[i]?) = wc.map some) (hR : isR.map (fun i => ws[i]?) = wr.map some) (hnd : va_nd isC = true ∧ va_nd isR = true ∧ ∀ i ∈ isR, i ∉ isC)
    (hst : st0 = As.reverse ++ rest) (hsz : ls.size = nL) (hW : (rest.map fun v => v.category).sum ≤ 8) (hdg : decode cc pc = .ok (.invokestatic index, 3))
    (kk : ∀ (u : S) (H1 : Heap) (locs1 : List Loc), post u → va_P D k_cl (wr ++ B u) H1 → va_D A (wr ++ B u) → va_S A s.heap H1 locs1 → H.size ≤ H1.size → W p l e R s m args below meth c H1 locs1 (cells + mc) (slots + ms) Q (F0 m (pc + 3) ls ((val u).toList ++ rest))) :
    W p l e R s m args below meth c H locs cells slots Q (F0 m pc ls st0) :=
  k_wr (vx_runSW (As := As) (rest := rest) F (hM H.size) ⟨⟨rfl, rfl, hRm.1.1, hRm.1.2, pay_in F.2.2.2.2 (tb_in h5), List.mem_cons_self⟩, F.2.2.2.2 _ h5, F.2.2.2.2 _ h4, ⟨hd.1, hd.2.1⟩, fun sig h => by have h2 := hd.2.2; rw [h] at h2; exact (Option.some.inj h2).symm, F.2.2.2.2 _ h1, F.2.2.2.2 _ h2⟩ ⟨k_blindM, k_pre hK hP hD hS hA hZ isC hnd.1 hC⟩ rfl rfl hsz hst (lv_room hW) hdg hRm.2) hP hD hS hA isC isR hC hR hnd.2.1 hnd.2.2 kk
/-- a constructor -/
theorem k_MI (F : CallFix p m c cc nL s args TB own) (hM : KM l y (.code y b n none) fr lo mc ms D E sa (.ref a :: As) wc val post B)
    (h1 : Cond.methodLink own index y ∈ TB) (h2 : Cond.instanceMethod y ∈ TB) (h4 : Cond.initialized y.cls ∈ TB) (h5 : Cond.code y b n none ∈ TB) (hd : y.name = "<init>" ∧ k_hd y As.length)
    (hRm : (fr + 1 ≤ R.frames ∧ 8 + (n + 11) + lo ≤ R.locals) ∧ cells + mc ≤ R.cells ∧ slots + ms ≤ R.slots) (hK : va_K D k_cl (k_tys E) s) (hP : va_P D k_cl ws H) (hD : va_D A ws) (hS : va_S A s.heap H locs) (hA : ∀ q, s.heap.size ≤ q → A q) (hZ : k_Z sa A s s.heap)
    (isC isR : List Nat) (hC : isC.map (fun i => ws[i]?) = wc.map some) (hR : isR.map (fun i => ws[i]?) = wr.map some) (hnd : va_nd isC = true ∧ va_nd isR = true ∧ ∀ i ∈ isR, i ∉ isC)
    (hst : st0 = As.reverse ++ .ref a :: rest) (hsz : ls.size = nL) (hW : (rest.map fun v => v.category).sum ≤ 8) (hdg : decode cc pc = .ok (.invokespecial index, 3))
    (kk : ∀ (u : S) (H1 : Heap) (locs1 : List Loc), post u → va_P D k_cl (wr ++ B u) H1 → va_D A (wr ++ B u) → va_S A s.heap H1 locs1 → H.size ≤ H1.size → W p l e R s m args below meth c H1 locs1 (cells + mc) (slots + ms) Q (F0 m (pc + 3) ls ((val u).toList ++ rest))) :
    W p l e R s m args below meth c H locs cells slots Q (F0 m pc ls st0) :=
  k_wr (va_runI (As := As) (rest := rest) F (hM H.size) (cwI As.length F.2.2.2.2 (tb_in h5) rfl rfl rfl (F.2.2.2.2 _ h4) (F.2.2.2.2 _ h1) (F.2.2.2.2 _ h2) hd.1 hd.2 hRm.1) ⟨k_blindM, k_pre hK hP hD hS hA hZ isC hnd.1 hC⟩ rfl rfl hsz hst (lv_room hW) hdg hRm.2) hP hD hS hA isC isR hC hR hnd.2.1 hnd.2.2 kk
/-- a nest mate's private constructor -/
theorem k_MN (F : CallFix p m c cc nL s args TB own) (hM : KM l y (.code y b n none) fr lo mc ms D E sa (.ref a :: As) wc val post B)
    (h1 : (own, index, y) ∈ k_nw) (h2 : Cond.instanceMethod y ∈ TB) (h4 : Cond.initialized y.cls ∈ TB) (h5 : Cond.code y b n none ∈ TB) (hd : y.name = "<init>" ∧ k_hd y As.length)
    (hRm : (fr + 1 ≤ R.frames ∧ 8 + (n + 11) + lo ≤ R.locals) ∧ cells + mc ≤ R.cells ∧ slots + ms ≤ R.slots) (hK : va_K D k_cl (k_tys E) s) (hP : va_P D k_cl ws H) (hD : va_D A ws) (hS : va_S A s.heap H locs) (hA : ∀ q, s.heap.size ≤ q → A q) (hZ : k_Z sa A s s.heap)
    (isC isR : List Nat) (hC : isC.map (fun i => ws[i]?) = wc.map some) (hR : isR.map (fun i => ws[i]?) = wr.map some) (hnd : va_nd isC = true ∧ va_nd isR = true ∧ ∀ i ∈ isR, i ∉ isC)
    (hst : st0 = As.reverse ++ .ref a :: rest) (hsz : ls.size = nL) (hW : (rest.map fun v => v.category).sum ≤ 8) (hdg : decode cc pc = .ok (.invokespecial index, 3))
    (kk : ∀ (u : S) (H1 : Heap) (locs1 : List Loc), post u → va_P D k_cl (wr ++ B u) H1 → va_D A (wr ++ B u) → va_S A s.heap H1 locs1 → H.size ≤ H1.size → W p l e R s m args below meth c H1 locs1 (cells + mc) (slots + ms) Q (F0 m (pc + 3) ls ((val u).toList ++ rest))) :
    W p l e R s m args below meth c H locs cells slots Q (F0 m pc ls st0) :=
  k_wr (va_runIN (As := As) (rest := rest) F (hM H.size) ⟨va_cnB (host := RX9) As.length F.2.2.2.2 (tb_in h5) rfl rfl rfl (hZ.1 (own, index, y) h1) (F.2.2.2.2 _ h4) hd.2 hRm.1, hd.1, F.2.2.2.2 _ h2⟩ ⟨k_blindM, k_pre hK hP hD hS hA hZ isC hnd.1 hC⟩ rfl rfl hsz hst (lv_room hW) hdg hRm.2) hP hD hS hA isC isR hC hR hnd.2.1 hnd.2.2 kk
end
end KE
end
section
/-! ===== my own: throwing, passing on and catching over the contracts of part 05 ===== -/
section KX
variable {p : Program} {l : Launch} {e : Env} {R : Room} {s : State} {m : MethodId} {args : Array Value} {below : List Frame} {meth : Method} {c : Code} {H : Heap} {locs : List Loc} {cells slots : Nat} {Q : State → Prop}
variable {D : va_G} {E : Nat → ClassId} {sa : Nat → Nat} {A : Nat → Prop} {ws : va_W} {cc : ByteArray} {pc : Nat} {ls : Array Slot} {rest st0 : List Value}
abbrev x_nm : List String := ["java/lang/RuntimeException", "java/lang/Exception"]
/-- what a throw of cls wants of the tables -/
def x_ok (own : String) (ik ic : Nat) (cls : String) : Prop :=
  Cond.classLink own ik cls ∈ TB ∧ Cond.initialized cls ∈ TB ∧ (∀ w ∈ (vx_atS own ic cls x_nm).filter goodWord, w ∈ lw_tbl) ∧ (∀ w ∈ (vx_atS own ic cls x_nm).filter (fun w => !goodWord w), w ∈ [Cond.castable cls cls, k_dc "java/lang/RuntimeException", k_dc "java/lang/Exception", k_dc "java/lang/Throwable"]) ∧
  (∀ w ∈ Cond.classLink own ik cls :: Cond.initialized cls :: vx_atS own ic cls x_nm, vx_ot w = true) ∧ Bundle.fit cls = true
theorem x_hat {own cls : String} {ik ic : Nat} (hw : x_ok own ik ic cls) (hts : ∀ w ∈ TB, w.before args s = true) (hcast : va_Nw (.castable cls cls) s) (hC : k_C s) : ∀ w ∈ vx_atS own ic cls x_nm, w.before args s = true :=
  vx_hat (B := [Cond.castable cls cls, k_dc "java/lang/RuntimeException", k_dc "java/lang/Exception", k_dc "java/lang/Throwable"]) (fun w h => hts w (List.mem_filter.mpr ⟨hw.2.2.1 w h, (List.mem_filter.mp h).2⟩)) hw.2.2.2.1
    (vx_c (va_Nw.use rfl hcast) (vx_c (va_Nw.use rfl hC.2.2.1) (vx_c (va_Nw.use rfl hC.2.2.2.1) (vx_c (va_Nw.use rfl hC.2.2.2.2) vx_n))))
theorem x_fit : ∀ n ∈ x_nm, Bundle.fit n = true := by decide +kernel
/-- throw new cls(text), the text by a small index -/
theorem x_thS {own cls text : String} {ik is ic sx : Nat} (hl : l.stackTraces = false) (hx : p.tables.exec = Jvm.exec) (hb : c.code = cc) (hown : s.vm.findClass own = some m.cls) (hts : ∀ w ∈ TB, w.before args s = true) (hw : x_ok own ik ic cls) (hstr : vk_R own is text sx s) (hcast : va_Nw (.castable cls cls) s)
    (hZ : k_Z sa (fun q => s.heap.size ≤ q) s s.heap) (hsize : ls.size = c.maxLocals) (htab : ∀ x ∈ c.exceptionTable.toList, False) (hlocks : meth.locks = false)
    (hRm : 5 < R.frames ∧ (rest.map fun v => v.category).sum + 82 ≤ R.locals ∧ 1 ≤ R.cells ∧ 6 ≤ R.slots)
    (d0 : decode cc pc = .ok (.new ik, 3)) (d3 : decode cc (pc + 3) = .ok (.dup, 1)) (d4 : decode cc (pc + 4) = .ok (.ldc is, 2)) (d6 : decode cc (pc + 6) = .ok (.invokespecial ic, 3)) (d9 : decode cc (pc + 9) = .ok (.athrow, 1)) :
    W p l e R s m args below meth c s.heap [] 0 0 (vx_MQ below k_QF (k_XT cls s.heap.size) args s 1 6 (fun q => s.heap.size ≤ q)) (F0 m pc ls rest) :=
  vx_throwS (names := x_nm) (A := fun q => s.heap.size ≤ q) hx hb hl hown hw.2.2.2.2.2 x_fit (hts _ hw.1) (hts _ hw.2.1) hstr (x_hat hw hts hcast hZ.2.2.2.2) hw.2.2.2.2.1 hZ.2.2.1 hZ.2.2.2.1 va_S.rf hsize d0 d3 d4 d6 d9 (fun x h => (htab x h).elim) hRm.1 hRm.2.1 (by have := hRm.2.2.1; omega) (by have := hRm.2.2.2; omega) hlocks
    (fun t _ h1 h2 => ⟨rfl, h1, fun q h _ => h2 q h⟩) (fun _ h => nomatch h) (Nat.le_refl _) (Nat.le_refl _)
/-- throw new cls(text), the text by a wide index -/
theorem x_thW {own cls text : String} {ik is ic sx : Nat} (hl : l.stackTraces = false) (hx : p.tables.exec = Jvm.exec) (hb : c.code = cc) (hown : s.vm.findClass own = some m.cls) (hts : ∀ w ∈ TB, w.before args s = true) (hw : x_ok own ik ic cls) (hstr : vk_R own is text sx s) (hcast : va_Nw (.castable cls cls) s)
    (hZ : k_Z sa (fun q => s.heap.size ≤ q) s s.heap) (hsize : ls.size = c.maxLocals) (htab : ∀ x ∈ c.exceptionTable.toList, False) (hlocks : meth.locks = false)
    (hRm : 5 < R.frames ∧ (rest.map fun v => v.category).sum + 82 ≤ R.locals ∧ 1 ≤ R.cells ∧ 6 ≤ R.slots)
    (d0 : decode cc pc = .ok (.new ik, 3)) (d3 : decode cc (pc + 3) = .ok (.dup, 1)) (d4 : decode cc (pc + 4) = .ok (.ldc_w is, 3)) (d7 : decode cc (pc + 7) = .ok (.invokespecial ic, 3)) (d10 : decode cc (pc + 10) = .ok (.athrow, 1)) :
    W p l e R s m args below meth c s.heap [] 0 0 (vx_MQ below k_QF (k_XT cls s.heap.size) args s 1 6 (fun q => s.heap.size ≤ q)) (F0 m pc ls rest) :=
  vx_throwSW (names := x_nm) (A := fun q => s.heap.size ≤ q) hx hb hl hown hw.2.2.2.2.2 x_fit (hts _ hw.1) (hts _ hw.2.1) hstr (x_hat hw hts hcast hZ.2.2.2.2) hw.2.2.2.2.1 hZ.2.2.1 hZ.2.2.2.1 va_S.rf hsize d0 d3 d4 d7 d10 (fun x h => (htab x h).elim) hRm.1 hRm.2.1 (by have := hRm.2.2.1; omega) (by have := hRm.2.2.2; omega) hlocks
    (fun t _ h1 h2 => ⟨rfl, h1, fun q h _ => h2 q h⟩) (fun _ h => nomatch h) (Nat.le_refl _) (Nat.le_refl _)
variable {nL n index fr lo : Nat} {own C cls : String} {y : MethodName} {b : ByteArray} {ret : Option FieldType} {a : Nat} {As : List Value} {wc : va_W}
theorem x_run {T : u_T} {N ci q0 : Nat} {fs : List Value} (F : CallFix p m c cc nL s args TB own) (hM : KT l y b n ret fr lo D E sa (.ref a :: As) wc cls)
    (h1 : Cond.methodLink own index y ∈ TB) (h2 : Cond.instanceMethod y ∈ TB) (h3 : Cond.selects C y y ∈ TB) (h4 : Cond.initialized C ∈ TB) (h5 : Cond.code y b n ret ∈ TB) (hd : y.cls = C ∧ k_hd y As.length)
    (hRm : (fr + 1 ≤ R.frames ∧ 8 + (n + 11) + lo ≤ R.locals) ∧ 1 ≤ R.cells ∧ 6 ≤ R.slots) (hK : va_K D k_cl (k_tys E) s) (hP : va_P D k_cl ws s.heap) (hZ : k_Z sa (fun q => s.heap.size ≤ q) s s.heap) (isC : List Nat) (hC : isC.filterMap (fun i => ws[i]?) = wc)
    (hc : k_cl[ci]? = some (C, T, N)) (he : ws[q0]? = some (a, .inr (ci, fs))) (hst : st0 = As.reverse ++ .ref a :: rest) (hsz : ls.size = nL) (hW : (rest.map fun v => v.category).sum ≤ 8) (hdg : decode cc pc = .ok (.invokevirtual index, 3)) :
    vx_Run p l e R s m args below meth c s.heap [] 0 0 1 6 (F0 m pc ls st0) rest (k_QF (Value.ref a :: As).toArray) (k_XT cls s.heap.size) (fun q => s.heap.size ≤ q) := by
  have hPc := hP.sub isC hC
  exact vx_runV (As := As) (rest := rest) F (hM s.heap.size) (cwV As.length F.2.2.2.2 (k_gV h1 h2 h3 h4 h5) rfl rfl rfl ⟨hd.1, hd.2⟩ hRm.1) ⟨k_blindT, va_recv hK hP hc he, fun U hU hW9 => ⟨rfl, by rw [hU], by rw [hU]; exact hPc, va_K.moved hW9.alike hK, by rw [hU]; exact hZ.warm hW9⟩⟩ rfl rfl hsz hst (lv_room hW) hdg ⟨by have := hRm.2.1; omega, by have := hRm.2.2; omega⟩
/-- a call that throws, in a method without a table: it throws too -/
theorem x_pass (hr : vx_Run p l e R s m args below meth c s.heap [] 0 0 1 6 (F0 m pc ls st0) rest (k_QF (Value.ref a :: As).toArray) (k_XT cls s.heap.size) (fun q => s.heap.size ≤ q)) (htab : ∀ x ∈ c.exceptionTable.toList, False) (hlocks : meth.locks = false) :
    W p l e R s m args below meth c s.heap [] 0 0 (vx_MQ below k_QF (k_XT cls s.heap.size) args s 1 6 (fun q => s.heap.size ≤ q)) (F0 m pc ls st0) := by
  intro T hT X
  rcases hr T hT X with ⟨v, st₀, t, T', L, h0, X', hL, e1, e2, hq, st⟩ | ⟨q, st₀, t, T', L, E9, ce, h0, X', hL, e1, e2, ⟨hE, hF⟩, hce, hcv, hcl, st⟩
  · exact hq.elim
  · subst hE
    have k := vx_out (p := p) (l := l) (e := e) (R := R) (s := s) (m := m) (args := args) (below := below) (meth := meth) (c := c) (H := T'.heap) (locs := [] ++ L) (cells := 0 + 1) (slots := 0 + 6) (ls := ls) (rest := rest) (Qc := k_QF) (XC := k_XT E9 s.heap.size) (pc := pc) (free := fun q => s.heap.size ≤ q) (mc := 1) (ms := 6)
      (fun x h => (htab x h).elim) hlocks (by rw [e1]; exact hce) hcv hcl (fun t9 ht9 _ => ⟨rfl, by rw [ht9, e1, ← h0]; exact hF.1, fun q h1 h2 => by rw [ht9, e1]; rw [hF.2 q (by rw [h0]; exact h1) h2, h0]⟩) (fun z hz => hL z (by simpa using hz)) (Nat.le_refl _) (Nat.le_refl _)
    obtain ⟨t2, a1, b1⟩ := k T' rfl X'
    exact ⟨t2, st.trans a1, b1⟩
/-- a call that throws, caught by the first row of the method's table -/
theorem x_caught {name : String} {x : ExceptionTableEntry} {tl : List ExceptionTableEntry} (hr : vx_Run p l e R s m args below meth c s.heap [] 0 0 1 6 (F0 m pc ls st0) rest (k_QF (Value.ref a :: As).toArray) (k_XT cls s.heap.size) (fun q => s.heap.size ≤ q)) (hown : s.vm.findClass own = some m.cls)
    (htab : c.exceptionTable.toList = x :: tl) (hx : covers x pc = true) (h0 : x.catchType ≠ 0) (hts : ∀ w ∈ TB, w.before args s = true) (hlink : Cond.classLink own x.catchType name ∈ TB) (hcast : va_Nw (.castable cls name) s) (hP : va_P D k_cl ws s.heap) (hA : ∀ q, s.heap.size ≤ q → A q)
    (kk : ∀ (q : Nat) (H1 : Heap) (locs1 : List Loc), va_P D k_cl ws H1 → va_S A s.heap H1 locs1 → W p l e R s m args below meth c H1 locs1 1 6 Q (F0 m x.handlerPc ls [.ref q])) :
    W p l e R s m args below meth c s.heap [] 0 0 Q (F0 m pc ls st0) := by
  intro T hT X
  rcases hr T hT X with ⟨v, st₀, t, T', L, h9, X', hL, e1, e2, hq, st⟩ | ⟨q, st₀, t, T', L, E9, ce, h9, X', hL, e1, e2, ⟨hE, hF⟩, hce, hcv, hcl, st⟩
  · exact hq.elim
  · subst hE
    have hk : ∀ z : Nat, z < s.heap.size → T'.heap[z]? = s.heap[z]? := fun z hz => by rw [e1, hF.2 z (by rw [h9]; exact hz) (Nat.not_le.mpr hz), h9]
    have hP1 : va_P D k_cl ws T'.heap := fun k z hz => (hP k z hz).kept (hk _ (hP k z hz).lt)
    have hS1 : va_S A s.heap T'.heap L := ⟨by rw [e1, ← h9]; exact hF.1, fun z h1 _ => hk z h1, fun z hz => hA _ (hL z hz)⟩
    have k := xc_catch (rest := rest) (cells := 1) (slots := 6) hown htab hx h0 (hts _ hlink) (va_Nw.use rfl hcast) (by rw [e1]; exact hce) hcv hcl (kk q T'.heap L hP1 hS1)
    rw [List.nil_append] at X'
    have X2 : Stand p l e R s m args below meth c T' L 1 6 := stand_widen X' (by omega) (by omega)
    obtain ⟨t2, a1, b1⟩ := k T' rfl X2
    exact ⟨t2, st.trans a1, b1⟩
end KX
end
section
/-! ===== my own: small rows ===== -/
section KS
variable {p : Program} {l : Launch} {e : Env} {R : Room} {s : State} {m : MethodId} {args : Array Value} {below : List Frame} {meth : Method} {c : Code} {H : Heap} {locs : List Loc} {cells slots : Nat} {Q : State → Prop}
variable {D : va_G} {E : Nat → ClassId} {A : Nat → Prop} {ws : va_W} {H0 : Heap} {cc : ByteArray} {pc : Nat} {ls : Array Slot} {rest : List Value}
theorem k_ti {x y : Int32} (h : x = y) (k : W p l e R s m args below meth c H locs cells slots Q (F0 m pc ls (.int y :: rest))) : W p l e R s m args below meth c H locs cells slots Q (F0 m pc ls (.int x :: rest)) := h ▸ k
theorem k_tl {x y : Int64} (h : x = y) (k : W p l e R s m args below meth c H locs cells slots Q (F0 m pc ls (.long y :: rest))) : W p l e R s m args below meth c H locs cells slots Q (F0 m pc ls (.long x :: rest)) := h ▸ k
theorem k_RAeq {cA cB : ClassId} {ty : FieldType} (hp : refKind ty = false) (h1 : va_RA s cA ty) (h2 : va_RA s cB ty) : cA = cB := by
  cases ty with
  | object _ => cases hp
  | array _ => cases hp
  | _ => exact Option.some.inj (h1.symm.trans h2)
theorem k_newa {atype : ArrayType} {ty : FieldType} (ti : Nat) {N9 : Nat} {n : Int32} {a0 : vp_A} (hx : p.tables.exec = Jvm.exec) (hb : c.code = cc) (harr : (Cond.arrayClass ty).before args s = true) (hty : newarray.typeOf atype = ty) (ht : (k_tys E)[ti]? = some (E ti, ty)) (hpr : refKind ty = false)
    (hK : va_K D k_cl (k_tys E) s) (hP : va_P D k_cl ws H) (hD : va_D A ws) (hS : va_S A H0 H locs) (hA : ∀ q, H0.size ≤ q → A q) (ha : ∀ cA : ClassId, vp_cell cA a0 = arrV cA N9 (fun _ => defaultValue ty)) (hn : ¬ n < 0) (hN : n.toNatClampNeg = N9) (hbytes : N9 * componentBytes ty ≤ 536870912) (hcells : cells + 1 ≤ R.cells) (hslots : slots + N9 ≤ R.slots)
    (hdg : decode cc pc = .ok (.newarray atype, 2))
    (kk : ∀ (q : Nat) (H1 : Heap), va_P D k_cl (ws ++ [(q, .inl (E ti, a0))]) H1 → va_D A (ws ++ [(q, .inl (E ti, a0))]) → va_S A H0 H1 locs → W p l e R s m args below meth c H1 locs (cells + 1) (slots + N9) Q (F0 m (pc + 2) ls (.ref q :: rest))) :
    W p l e R s m args below meth c H locs cells slots Q (F0 m pc ls (.int n :: rest)) := by
  refine va_newa hx hb (by rw [hty]; exact harr) hty hK hP hD hS hA ha hn hN hbytes hcells hslots hdg (fun q cA H1 hK1 hP1 hD1 hS1 => ?_)
  have h1 := (hK1.2 4 (cA, ty) rfl).2
  have h2 := (hK.2 ti _ ht).2
  have e9 : cA = E ti := k_RAeq hpr h1 h2
  subst e9
  exact kk q H1 hP1 hD1 hS1
end KS
end
section
theorem b_oi : Cond.instanceMethod objectInit ∈ TB := tb_of 110 (by decide +kernel)
theorem b_oc : Cond.code objectInit ⟨#[0xb1]⟩ 1 none ∈ TB := tb_of 111 (by decide +kernel)
theorem b_an : Cond.native arraycopyName ∈ TB := tb_of 1126 (by decide +kernel)
theorem b_as : Cond.static arraycopyName ∈ TB := tb_of 1125 (by decide +kernel)
set_option maxRecDepth 20000 in
theorem inX0 : ∀ w ∈ u_ws RX0 TX0 10, w ∈ TB := tb_all _ [204, 206, 208, 210, 212, 214, 216, 218, 220, 222] (by decide +kernel)
def df0X0 : List Value := [.null, .null, .null, .null, .null, .null, .null, .int 0, .int 0, .long 0]
theorem dfX0 : ∀ j, j < 10 → defaultValue (tyX0 j) = vp_V df0X0 j := by decide +kernel
set_option maxRecDepth 20000 in
theorem inX1 : ∀ w ∈ u_ws RX1 TX1 14, w ∈ TB := tb_all _ [382, 384, 386, 388, 390, 392, 394, 396, 398, 400, 402, 404, 406, 408] (by decide +kernel)
def df0X1 : List Value := [.null, .null, .null, .int 0, .int 0, .int 0, .int 0, .int 0, .int 0, .null, .null, .null, .null, .int 0]
theorem dfX1 : ∀ j, j < 14 → defaultValue (tyX1 j) = vp_V df0X1 j := by decide +kernel
set_option maxRecDepth 20000 in
theorem inX2 : ∀ w ∈ u_ws RX2 TX2 5, w ∈ TB := tb_all _ [335, 337, 339, 341, 343] (by decide +kernel)
def df0X2 : List Value := [.null, .null, .int 0, .null, .null]
theorem dfX2 : ∀ j, j < 5 → defaultValue (tyX2 j) = vp_V df0X2 j := by decide +kernel
set_option maxRecDepth 20000 in
theorem inX3 : ∀ w ∈ u_ws RX3 TX3 6, w ∈ TB := tb_all _ [165, 167, 169, 171, 173, 175] (by decide +kernel)
def df0X3 : List Value := [.null, .null, .null, .null, .null, .int 0]
theorem dfX3 : ∀ j, j < 6 → defaultValue (tyX3 j) = vp_V df0X3 j := by decide +kernel
set_option maxRecDepth 20000 in
theorem inX4 : ∀ w ∈ u_ws RX4 TX4 9, w ∈ TB := tb_all _ [244, 246, 248, 250, 252, 254, 256, 258, 260] (by decide +kernel)
def df0X4 : List Value := [.null, .null, .int 0, .int 0, .int 0, .int 0, .int 0, .int 0, .long 0]
theorem dfX4 : ∀ j, j < 9 → defaultValue (tyX4 j) = vp_V df0X4 j := by decide +kernel
set_option maxRecDepth 20000 in
theorem inX5 : ∀ w ∈ u_ws RX5 TX5 17, w ∈ TB := tb_all _ [446, 448, 450, 452, 454, 456, 458, 460, 462, 464, 466, 468, 470, 472, 474, 476, 478] (by decide +kernel)
def df0X5 : List Value := [.null, .null, .null, .int 0, .int 0, .int 0, .int 0, .int 0, .int 0, .int 0, .int 0, .long 0, .null, .null, .null, .null, .null]
theorem dfX5 : ∀ j, j < 17 → defaultValue (tyX5 j) = vp_V df0X5 j := by decide +kernel
set_option maxRecDepth 20000 in
theorem inX6 : ∀ w ∈ u_ws RX6 TX6 2, w ∈ TB := tb_all _ [123, 125] (by decide +kernel)
def df0X6 : List Value := [.null, .int 0]
theorem dfX6 : ∀ j, j < 2 → defaultValue (tyX6 j) = vp_V df0X6 j := by decide +kernel
set_option maxRecDepth 20000 in
theorem inX7 : ∀ w ∈ u_ws RX7 TX7 5, w ∈ TB := tb_all _ [308, 310, 312, 314, 316] (by decide +kernel)
def df0X7 : List Value := [.null, .null, .null, .int 0, .null]
theorem dfX7 : ∀ j, j < 5 → defaultValue (tyX7 j) = vp_V df0X7 j := by decide +kernel
set_option maxRecDepth 20000 in
theorem inX8 : ∀ w ∈ u_ws RX8 TX8 5, w ∈ TB := tb_all _ [282, 284, 286, 288, 290] (by decide +kernel)
def df0X8 : List Value := [.null, .null, .null, .int 0, .null]
theorem dfX8 : ∀ j, j < 5 → defaultValue (tyX8 j) = vp_V df0X8 j := by decide +kernel
set_option maxRecDepth 20000 in
theorem inX9 : ∀ w ∈ u_ws RX9 TX9 13, w ∈ TB := tb_all _ [494, 496, 498, 500, 502, 504, 506, 508, 510, 512, 514, 516, 518] (by decide +kernel)
def df0X9 : List Value := [.null, .null, .null, .null, .null, .null, .null, .null, .null, .null, .null, .int 0, .int 0]
theorem dfX9 : ∀ j, j < 13 → defaultValue (tyX9 j) = vp_V df0X9 j := by decide +kernel
set_option maxRecDepth 20000 in
theorem inX10 : ∀ w ∈ u_ws RX10 TX10 81, w ∈ TB := tb_all _ [1395, 1397, 1399, 1401, 1403, 1405, 1407, 1409, 1411, 1413, 1415, 1417, 1419, 1421, 1423, 1425, 1427, 1429, 1431, 1433, 1435, 1437, 1439, 1441, 1443, 1445, 1447, 1449, 1451, 1453, 1455, 1457, 1459, 1461, 1463, 1465, 1467, 1469, 1471, 1473, 1475, 1477, 1479, 1481, 1483, 1485, 1487, 1489, 1491, 1493, 1495, 1497, 1499, 1501, 1503, 1505, 1507, 1509, 1511, 1513, 1515, 1517, 1519, 1521, 1523, 1525, 1527, 1529, 1531, 1533, 1535, 1537, 1539, 1541, 1543, 1545, 1547, 1549, 1551, 1553, 1555] (by decide +kernel)
def df0X10 : List Value := [.int 0, .int 0, .null, .null, .null, .int 0, .null, .null, .null, .null, .int 0, .null, .int 0, .null, .int 0, .null, .int 0, .int 0, .int 0, .int 0, .int 0, .int 0, .int 0, .long 0, .null, .null, .null, .null, .null, .null, .null, .null, .null, .null, .int 0, .null, .null, .null, .null, .null, .null, .null, .null, .null, .null, .int 0, .null, .null, .null, .null, .null, .null, .null, .null, .null, .null, .null, .null, .null, .null, .int 0, .null, .null, .null, .null, .null, .null, .int 0, .long 0, .int 0, .int 0, .int 0, .int 0, .null, .null, .null, .int 0, .null, .null, .null, .null]
theorem dfX10 : ∀ j, j < 81 → defaultValue (tyX10 j) = vp_V df0X10 j := by decide +kernel
theorem b_983 : Cond.classLink RX9 166 "java/lang/IndexOutOfBoundsException" ∈ TB := tb_of 983 (by decide +kernel)
theorem b_99 : Cond.initialized "java/lang/IndexOutOfBoundsException" ∈ TB := tb_of 99 (by decide +kernel)
set_option maxRecDepth 20000 in
theorem x_ok_io : x_ok RX9 166 170 "java/lang/IndexOutOfBoundsException" := ⟨b_983, b_99, by decide +kernel, by decide +kernel, by decide +kernel, by decide +kernel⟩
theorem b_940 : Cond.classLink RX9 101 "java/lang/IllegalArgumentException" ∈ TB := tb_of 940 (by decide +kernel)
theorem b_93 : Cond.initialized "java/lang/IllegalArgumentException" ∈ TB := tb_of 93 (by decide +kernel)
set_option maxRecDepth 20000 in
theorem x_ok_ia : x_ok RX9 101 105 "java/lang/IllegalArgumentException" := ⟨b_940, b_93, by decide +kernel, by decide +kernel, by decide +kernel, by decide +kernel⟩
end
section
/-! the words and decode rows that the rows of the next part take -/
theorem b_19 : Cond.selects RX9 yX9_needNode yX9_needNode ∈ TB := tb_of 19 (by decide +kernel)
theorem b_78 : Cond.initialized RX9 ∈ TB := tb_of 78 (by decide +kernel)
theorem b_80 : Cond.initialized RX0 ∈ TB := tb_of 80 (by decide +kernel)
theorem b_195 : Cond.fieldLink RX0 38 "RoutePlanner$Graph" "nodes" "I" ∈ TB := tb_of 195 (by decide +kernel)
theorem b_198 : Cond.fieldLink RX0 42 "RoutePlanner$Graph" "arcs" "I" ∈ TB := tb_of 198 (by decide +kernel)
theorem b_482 : Cond.fieldLink RX9 21 "RoutePlanner" "graph" "LRoutePlanner$Graph;" ∈ TB := tb_of 482 (by decide +kernel)
theorem b_678 : Cond.methodLink RX9 162 yX0_hasArc ∈ TB := tb_of 678 (by decide +kernel)
theorem b_679 : Cond.instanceMethod yX0_hasArc ∈ TB := tb_of 679 (by decide +kernel)
theorem b_680 : Cond.selects RX0 yX0_hasArc yX0_hasArc ∈ TB := tb_of 680 (by decide +kernel)
theorem b_681 : Cond.code yX0_hasArc cX0_hasArc 2 (some .boolean) ∈ TB := tb_of 681 (by decide +kernel)
theorem b_682 : Cond.methodLink RX9 180 yX0_hasNode ∈ TB := tb_of 682 (by decide +kernel)
theorem b_683 : Cond.instanceMethod yX0_hasNode ∈ TB := tb_of 683 (by decide +kernel)
theorem b_684 : Cond.selects RX0 yX0_hasNode yX0_hasNode ∈ TB := tb_of 684 (by decide +kernel)
theorem b_685 : Cond.code yX0_hasNode cX0_hasNode 2 (some .boolean) ∈ TB := tb_of 685 (by decide +kernel)
theorem b_979 : Cond.methodLink RX9 146 yX9_needNode ∈ TB := tb_of 979 (by decide +kernel)
theorem b_981 : Cond.instanceMethod yX9_needNode ∈ TB := tb_of 981 (by decide +kernel)
theorem b_982 : Cond.code yX9_needNode cX9_needNode 2 none ∈ TB := tb_of 982 (by decide +kernel)
theorem hd_X0_hasNode : k_hd yX0_hasNode 1 := by decide +kernel
theorem hd_X9_needNode : k_hd yX9_needNode 1 := by decide +kernel
theorem hd_X0_hasArc : k_hd yX0_hasArc 1 := by decide +kernel
theorem dX0_hasNode_0 : decode cX0_hasNode 0 = .ok (.iload_n 1, 1) := by decide +kernel
theorem dX0_hasNode_1 : decode cX0_hasNode 1 = .ok (.ifCond .lt 15, 3) := by decide +kernel
theorem dX0_hasNode_4 : decode cX0_hasNode 4 = .ok (.iload_n 1, 1) := by decide +kernel
theorem dX0_hasNode_5 : decode cX0_hasNode 5 = .ok (.aload_n 0, 1) := by decide +kernel
theorem dX0_hasNode_6 : decode cX0_hasNode 6 = .ok (.getfield 38, 3) := by decide +kernel
theorem dX0_hasNode_9 : decode cX0_hasNode 9 = .ok (.if_icmp .ge 7, 3) := by decide +kernel
theorem dX0_hasNode_16 : decode cX0_hasNode 16 = .ok (.iconst 0, 1) := by decide +kernel
theorem dX0_hasNode_17 : decode cX0_hasNode 17 = .ok (.ireturn, 1) := by decide +kernel
theorem dX0_hasArc_0 : decode cX0_hasArc 0 = .ok (.iload_n 1, 1) := by decide +kernel
theorem dX0_hasArc_1 : decode cX0_hasArc 1 = .ok (.ifCond .lt 15, 3) := by decide +kernel
theorem dX0_hasArc_4 : decode cX0_hasArc 4 = .ok (.iload_n 1, 1) := by decide +kernel
theorem dX0_hasArc_5 : decode cX0_hasArc 5 = .ok (.aload_n 0, 1) := by decide +kernel
theorem dX0_hasArc_6 : decode cX0_hasArc 6 = .ok (.getfield 42, 3) := by decide +kernel
theorem dX0_hasArc_9 : decode cX0_hasArc 9 = .ok (.if_icmp .ge 7, 3) := by decide +kernel
theorem dX0_hasArc_16 : decode cX0_hasArc 16 = .ok (.iconst 0, 1) := by decide +kernel
theorem dX0_hasArc_17 : decode cX0_hasArc 17 = .ok (.ireturn, 1) := by decide +kernel
theorem dX9_needNode_0 : decode cX9_needNode 0 = .ok (.aload_n 0, 1) := by decide +kernel
theorem dX9_needNode_1 : decode cX9_needNode 1 = .ok (.getfield 21, 3) := by decide +kernel
theorem dX9_needNode_4 : decode cX9_needNode 4 = .ok (.iload_n 1, 1) := by decide +kernel
theorem dX9_needNode_5 : decode cX9_needNode 5 = .ok (.invokevirtual 180, 3) := by decide +kernel
theorem dX9_needNode_8 : decode cX9_needNode 8 = .ok (.ifCond .ne 14, 3) := by decide +kernel
theorem dX9_needNode_11 : decode cX9_needNode 11 = .ok (.new 166, 3) := by decide +kernel
theorem dX9_needNode_14 : decode cX9_needNode 14 = .ok (.dup, 1) := by decide +kernel
theorem dX9_needNode_15 : decode cX9_needNode 15 = .ok (.ldc_w 388, 3) := by decide +kernel
theorem dX9_needNode_18 : decode cX9_needNode 18 = .ok (.invokespecial 170, 3) := by decide +kernel
theorem dX9_needNode_21 : decode cX9_needNode 21 = .ok (.athrow, 1) := by decide +kernel
theorem dX9_search_0 : decode cX9_search 0 = .ok (.aload_n 0, 1) := by decide +kernel
theorem dX9_search_1 : decode cX9_search 1 = .ok (.iload_n 1, 1) := by decide +kernel
theorem dX9_search_2 : decode cX9_search 2 = .ok (.invokevirtual 146, 3) := by decide +kernel
theorem dX9_goal_0 : decode cX9_goal 0 = .ok (.aload_n 0, 1) := by decide +kernel
theorem dX9_goal_1 : decode cX9_goal 1 = .ok (.iload_n 1, 1) := by decide +kernel
theorem dX9_goal_2 : decode cX9_goal 2 = .ok (.invokevirtual 146, 3) := by decide +kernel
theorem dX9_both_0 : decode cX9_both 0 = .ok (.aload_n 0, 1) := by decide +kernel
theorem dX9_both_1 : decode cX9_both 1 = .ok (.iload_n 1, 1) := by decide +kernel
theorem dX9_both_2 : decode cX9_both 2 = .ok (.invokevirtual 146, 3) := by decide +kernel
theorem dX9_landmarked_0 : decode cX9_landmarked 0 = .ok (.aload_n 0, 1) := by decide +kernel
theorem dX9_landmarked_1 : decode cX9_landmarked 1 = .ok (.iload_n 1, 1) := by decide +kernel
theorem dX9_landmarked_2 : decode cX9_landmarked 2 = .ok (.invokevirtual 146, 3) := by decide +kernel
theorem dX9_straight_0 : decode cX9_straight 0 = .ok (.aload_n 0, 1) := by decide +kernel
theorem dX9_straight_1 : decode cX9_straight 1 = .ok (.iload_n 1, 1) := by decide +kernel
theorem dX9_straight_2 : decode cX9_straight 2 = .ok (.invokevirtual 146, 3) := by decide +kernel
theorem dX9_landmark_0 : decode cX9_landmark 0 = .ok (.aload_n 0, 1) := by decide +kernel
theorem dX9_landmark_1 : decode cX9_landmark 1 = .ok (.iload_n 1, 1) := by decide +kernel
theorem dX9_landmark_2 : decode cX9_landmark 2 = .ok (.invokevirtual 146, 3) := by decide +kernel
theorem dX9_order_0 : decode cX9_order 0 = .ok (.aload_n 0, 1) := by decide +kernel
theorem dX9_order_1 : decode cX9_order 1 = .ok (.iload_n 1, 1) := by decide +kernel
theorem dX9_order_2 : decode cX9_order 2 = .ok (.invokevirtual 146, 3) := by decide +kernel
theorem dX9_query_0 : decode cX9_query 0 = .ok (.aload_n 0, 1) := by decide +kernel
theorem dX9_query_1 : decode cX9_query 1 = .ok (.iload_n 1, 1) := by decide +kernel
theorem dX9_query_2 : decode cX9_query 2 = .ok (.invokevirtual 146, 3) := by decide +kernel
theorem dX9_arc_0 : decode cX9_arc 0 = .ok (.aload_n 0, 1) := by decide +kernel
theorem dX9_arc_1 : decode cX9_arc 1 = .ok (.iload_n 1, 1) := by decide +kernel
theorem dX9_arc_2 : decode cX9_arc 2 = .ok (.invokevirtual 146, 3) := by decide +kernel
theorem dX9_potential_0 : decode cX9_potential 0 = .ok (.aload_n 0, 1) := by decide +kernel
theorem dX9_potential_1 : decode cX9_potential 1 = .ok (.iload_n 1, 1) := by decide +kernel
theorem dX9_potential_2 : decode cX9_potential 2 = .ok (.invokevirtual 146, 3) := by decide +kernel
theorem dX9_weigh_0 : decode cX9_weigh 0 = .ok (.aload_n 0, 1) := by decide +kernel
theorem dX9_weigh_1 : decode cX9_weigh 1 = .ok (.getfield 21, 3) := by decide +kernel
theorem dX9_weigh_4 : decode cX9_weigh 4 = .ok (.iload_n 1, 1) := by decide +kernel
theorem dX9_weigh_5 : decode cX9_weigh 5 = .ok (.invokevirtual 162, 3) := by decide +kernel
theorem dX9_weigh_8 : decode cX9_weigh 8 = .ok (.ifCond .ne 13, 3) := by decide +kernel
theorem dX9_weigh_11 : decode cX9_weigh 11 = .ok (.new 166, 3) := by decide +kernel
theorem dX9_weigh_14 : decode cX9_weigh 14 = .ok (.dup, 1) := by decide +kernel
theorem dX9_weigh_15 : decode cX9_weigh 15 = .ok (.ldc 168, 2) := by decide +kernel
theorem dX9_weigh_17 : decode cX9_weigh 17 = .ok (.invokespecial 170, 3) := by decide +kernel
theorem dX9_weigh_20 : decode cX9_weigh 20 = .ok (.athrow, 1) := by decide +kernel
end
section
-- no node is there
set_option maxRecDepth 20000 in
set_option maxHeartbeats 2000000 in
theorem c_hasNode (l : Launch) (D : va_G) (E : Nat → ClassId) (g : Nat) (x0 : Nat) (x1 : Nat) (x2 : Nat) (x3 : Nat) (x4 : Nat) (x5 : Nat) (x6 : Nat) (v : Int32) : KR l yX0_hasNode cX0_hasNode 2 (some .boolean) 12 400 D E [.ref g, .int v] [(g, .inr (0, [.ref x0, .ref x1, .ref x2, .ref x3, .ref x4, .ref x5, .ref x6, .int 0, .int 0, .long 0]))] (some (.int 0)) := by
  refine KR.of (by decide) (Nat.le_of_ble_eq_true rfl) ?_
  intro p e s m below meth c ls hx hb hr hts hml hown hlocks hK hP hl
  have hown : s.vm.findClass RX0 = some m.cls := hown
  have hl : lv_has ls 2 [(0, .ref g), (1, .int v)] := hl
  refine lv_iload_n hx hb dX0_hasNode_0 rfl (lv_at hl 1 rfl) ?_
  refine lv_if_lt (tgt := 16) hx hb dX0_hasNode_1 (by decide) (fun c1 => ?_) (fun c1 => ?_)
  · refine lv_iconst (v := 0) hx hb dX0_hasNode_16 (by decide) ?_
    exact r_z hx hb hr hlocks rfl rfl dX0_hasNode_17
  · refine lv_iload_n hx hb dX0_hasNode_4 rfl (lv_at hl 1 rfl) ?_
    refine lv_aload_n hx hb dX0_hasNode_5 rfl (lv_at hl 0 rfl) ?_
    refine va_get (D := D) (ci := 0) (v := .int 0) (C := RX0) (T := TX0) (N := 10) hx hb hts inX0 hown hK hP 0 rfl rfl 7 (by decide) (hts _ b_195) (fun _ h9 => h9) rfl dX0_hasNode_6 ?_
    refine lv_icmp_ge (tgt := 16) hx hb dX0_hasNode_9 (by decide) (fun _ => ?_) (fun h9 => absurd (Int32.not_lt.mp c1) h9)
    refine lv_iconst (v := 0) hx hb dX0_hasNode_16 (by decide) ?_
    exact r_z hx hb hr hlocks rfl rfl dX0_hasNode_17
-- no arc is there
set_option maxRecDepth 20000 in
set_option maxHeartbeats 2000000 in
theorem c_hasArc (l : Launch) (D : va_G) (E : Nat → ClassId) (g : Nat) (x0 : Nat) (x1 : Nat) (x2 : Nat) (x3 : Nat) (x4 : Nat) (x5 : Nat) (x6 : Nat) (v : Int32) : KR l yX0_hasArc cX0_hasArc 2 (some .boolean) 12 400 D E [.ref g, .int v] [(g, .inr (0, [.ref x0, .ref x1, .ref x2, .ref x3, .ref x4, .ref x5, .ref x6, .int 0, .int 0, .long 0]))] (some (.int 0)) := by
  refine KR.of (by decide) (Nat.le_of_ble_eq_true rfl) ?_
  intro p e s m below meth c ls hx hb hr hts hml hown hlocks hK hP hl
  have hown : s.vm.findClass RX0 = some m.cls := hown
  have hl : lv_has ls 2 [(0, .ref g), (1, .int v)] := hl
  refine lv_iload_n hx hb dX0_hasArc_0 rfl (lv_at hl 1 rfl) ?_
  refine lv_if_lt (tgt := 16) hx hb dX0_hasArc_1 (by decide) (fun c1 => ?_) (fun c1 => ?_)
  · refine lv_iconst (v := 0) hx hb dX0_hasArc_16 (by decide) ?_
    exact r_z hx hb hr hlocks rfl rfl dX0_hasArc_17
  · refine lv_iload_n hx hb dX0_hasArc_4 rfl (lv_at hl 1 rfl) ?_
    refine lv_aload_n hx hb dX0_hasArc_5 rfl (lv_at hl 0 rfl) ?_
    refine va_get (D := D) (ci := 0) (v := .int 0) (C := RX0) (T := TX0) (N := 10) hx hb hts inX0 hown hK hP 0 rfl rfl 8 (by decide) (hts _ b_198) (fun _ h9 => h9) rfl dX0_hasArc_6 ?_
    refine lv_icmp_ge (tgt := 16) hx hb dX0_hasArc_9 (by decide) (fun _ => ?_) (fun h9 => absurd (Int32.not_lt.mp c1) h9)
    refine lv_iconst (v := 0) hx hb dX0_hasArc_16 (by decide) ?_
    exact r_z hx hb hr hlocks rfl rfl dX0_hasArc_17
-- throws: no node is there
set_option maxRecDepth 20000 in
set_option maxHeartbeats 2000000 in
theorem t_needNode (l : Launch) (D : va_G) (E : Nat → ClassId) (sa : Nat → Nat) (hl9 : l.stackTraces = false) (a : Nat) (tp : Nat) (gr : Nat) (rd : Nat) (ah : Nat) (bk : Nat) (tr : Nat) (lm : Nat) (hi : Nat) (ro : Nat) (sc : Nat) (to : Nat) (x0 : Nat) (x1 : Nat) (x2 : Nat) (x3 : Nat) (x4 : Nat) (x5 : Nat) (x6 : Nat) (v : Int32) : KT l yX9_needNode cX9_needNode 2 none 25 821 D E sa [.ref a, .int v] [(a, .inr (9, [.ref tp, .ref gr, .ref rd, .ref ah, .ref bk, .ref tr, .ref lm, .ref hi, .ref ro, .ref sc, .ref to, .int 0, .int 0])), (gr, .inr (0, [.ref x0, .ref x1, .ref x2, .ref x3, .ref x4, .ref x5, .ref x6, .int 0, .int 0, .long 0]))] "java/lang/IndexOutOfBoundsException" := by
  refine KT.of (by decide) (Nat.le_of_ble_eq_true rfl) ?_
  intro p e s m below meth c ls hx hb hr hts hml hown hlocks htab hK hP hZ hl
  have hown : s.vm.findClass RX9 = some m.cls := hown
  have hl : lv_has ls 2 [(0, .ref a), (1, .int v)] := hl
  refine lv_aload_n hx hb dX9_needNode_0 rfl (lv_at hl 0 rfl) ?_
  refine va_get (D := D) (ci := 9) (v := .ref gr) (C := RX9) (T := TX9) (N := 13) hx hb hts inX9 hown hK hP 0 rfl rfl 1 (by decide) (hts _ b_482) (fun _ h9 => h9) rfl dX9_needNode_1 ?_
  refine lv_iload_n hx hb dX9_needNode_4 rfl (lv_at hl 1 rfl) ?_
  refine k_RV (As := [.int v]) (rest := []) (ci := 0) (q0 := 1) ⟨hx, hb, hml, hown, hts⟩ (c_hasNode l D E gr x0 x1 x2 x3 x4 x5 x6 v) b_682 b_683 b_684 b_80 b_685 ⟨rfl, hd_X0_hasNode⟩ ⟨⟨by decide, by decide⟩, by decide, by decide⟩ hK hP [1] rfl rfl rfl rfl hl.1 (Nat.le_of_ble_eq_true rfl) dX9_needNode_5 ?_
  refine lv_if_ne (tgt := 22) hx hb dX9_needNode_8 (by decide) (fun h9 => absurd h9 (by decide)) (fun _ => ?_)
  exact x_thW hl9 hx hb hown hts x_ok_io hZ.2.1.1 hZ.2.2.2.2.1 hZ (by rw [hml]; exact hl.1) htab hlocks ⟨by decide, Nat.le_of_ble_eq_true rfl, by decide, by decide⟩ dX9_needNode_11 dX9_needNode_14 dX9_needNode_15 dX9_needNode_18 dX9_needNode_21
-- search throws
set_option maxRecDepth 20000 in
set_option maxHeartbeats 2000000 in
theorem t_search (l : Launch) (D : va_G) (E : Nat → ClassId) (sa : Nat → Nat) (hl9 : l.stackTraces = false) (a : Nat) (tp : Nat) (gr : Nat) (rd : Nat) (ah : Nat) (bk : Nat) (tr : Nat) (lm : Nat) (hi : Nat) (ro : Nat) (sc : Nat) (to : Nat) (x0 : Nat) (x1 : Nat) (x2 : Nat) (x3 : Nat) (x4 : Nat) (x5 : Nat) (x6 : Nat) (v0 : Int32) : KT l yX9_search cX9_search 2 (some .int) 38 1242 D E sa [.ref a, .int v0] [(a, .inr (9, [.ref tp, .ref gr, .ref rd, .ref ah, .ref bk, .ref tr, .ref lm, .ref hi, .ref ro, .ref sc, .ref to, .int 0, .int 0])), (gr, .inr (0, [.ref x0, .ref x1, .ref x2, .ref x3, .ref x4, .ref x5, .ref x6, .int 0, .int 0, .long 0]))] "java/lang/IndexOutOfBoundsException" := by
  refine KT.of (by decide) (Nat.le_of_ble_eq_true rfl) ?_
  intro p e s m below meth c ls hx hb hr hts hml hown hlocks htab hK hP hZ hl
  have hown : s.vm.findClass RX9 = some m.cls := hown
  have hl : lv_has ls 2 [(0, .ref a), (1, .int v0)] := hl
  refine lv_aload_n hx hb dX9_search_0 rfl (lv_at hl 0 rfl) ?_
  refine lv_iload_n hx hb dX9_search_1 rfl (lv_at hl 1 rfl) ?_
  exact x_pass (x_run (As := [.int v0]) (rest := []) (ci := 9) (q0 := 0) ⟨hx, hb, hml, hown, hts⟩ (t_needNode l D E sa hl9 a tp gr rd ah bk tr lm hi ro sc to x0 x1 x2 x3 x4 x5 x6 v0) b_979 b_981 b_19 b_78 b_982 ⟨rfl, hd_X9_needNode⟩ ⟨⟨by decide, by decide⟩, by decide, by decide⟩ hK hP hZ [0, 1] rfl rfl rfl rfl hl.1 (Nat.le_of_ble_eq_true rfl) dX9_search_2) htab hlocks
-- goal throws
set_option maxRecDepth 20000 in
set_option maxHeartbeats 2000000 in
theorem t_goal (l : Launch) (D : va_G) (E : Nat → ClassId) (sa : Nat → Nat) (hl9 : l.stackTraces = false) (a : Nat) (tp : Nat) (gr : Nat) (rd : Nat) (ah : Nat) (bk : Nat) (tr : Nat) (lm : Nat) (hi : Nat) (ro : Nat) (sc : Nat) (to : Nat) (x0 : Nat) (x1 : Nat) (x2 : Nat) (x3 : Nat) (x4 : Nat) (x5 : Nat) (x6 : Nat) (v0 : Int32) (v1 : Int32) : KT l yX9_goal cX9_goal 3 (some .int) 38 1242 D E sa [.ref a, .int v0, .int v1] [(a, .inr (9, [.ref tp, .ref gr, .ref rd, .ref ah, .ref bk, .ref tr, .ref lm, .ref hi, .ref ro, .ref sc, .ref to, .int 0, .int 0])), (gr, .inr (0, [.ref x0, .ref x1, .ref x2, .ref x3, .ref x4, .ref x5, .ref x6, .int 0, .int 0, .long 0]))] "java/lang/IndexOutOfBoundsException" := by
  refine KT.of (by decide) (Nat.le_of_ble_eq_true rfl) ?_
  intro p e s m below meth c ls hx hb hr hts hml hown hlocks htab hK hP hZ hl
  have hown : s.vm.findClass RX9 = some m.cls := hown
  have hl : lv_has ls 3 [(0, .ref a), (1, .int v0), (2, .int v1)] := hl
  refine lv_aload_n hx hb dX9_goal_0 rfl (lv_at hl 0 rfl) ?_
  refine lv_iload_n hx hb dX9_goal_1 rfl (lv_at hl 1 rfl) ?_
  exact x_pass (x_run (As := [.int v0]) (rest := []) (ci := 9) (q0 := 0) ⟨hx, hb, hml, hown, hts⟩ (t_needNode l D E sa hl9 a tp gr rd ah bk tr lm hi ro sc to x0 x1 x2 x3 x4 x5 x6 v0) b_979 b_981 b_19 b_78 b_982 ⟨rfl, hd_X9_needNode⟩ ⟨⟨by decide, by decide⟩, by decide, by decide⟩ hK hP hZ [0, 1] rfl rfl rfl rfl hl.1 (Nat.le_of_ble_eq_true rfl) dX9_goal_2) htab hlocks
-- both throws
set_option maxRecDepth 20000 in
set_option maxHeartbeats 2000000 in
theorem t_both (l : Launch) (D : va_G) (E : Nat → ClassId) (sa : Nat → Nat) (hl9 : l.stackTraces = false) (a : Nat) (tp : Nat) (gr : Nat) (rd : Nat) (ah : Nat) (bk : Nat) (tr : Nat) (lm : Nat) (hi : Nat) (ro : Nat) (sc : Nat) (to : Nat) (x0 : Nat) (x1 : Nat) (x2 : Nat) (x3 : Nat) (x4 : Nat) (x5 : Nat) (x6 : Nat) (v0 : Int32) (v1 : Int32) : KT l yX9_both cX9_both 3 (some .int) 38 1242 D E sa [.ref a, .int v0, .int v1] [(a, .inr (9, [.ref tp, .ref gr, .ref rd, .ref ah, .ref bk, .ref tr, .ref lm, .ref hi, .ref ro, .ref sc, .ref to, .int 0, .int 0])), (gr, .inr (0, [.ref x0, .ref x1, .ref x2, .ref x3, .ref x4, .ref x5, .ref x6, .int 0, .int 0, .long 0]))] "java/lang/IndexOutOfBoundsException" := by
  refine KT.of (by decide) (Nat.le_of_ble_eq_true rfl) ?_
  intro p e s m below meth c ls hx hb hr hts hml hown hlocks htab hK hP hZ hl
  have hown : s.vm.findClass RX9 = some m.cls := hown
  have hl : lv_has ls 3 [(0, .ref a), (1, .int v0), (2, .int v1)] := hl
  refine lv_aload_n hx hb dX9_both_0 rfl (lv_at hl 0 rfl) ?_
  refine lv_iload_n hx hb dX9_both_1 rfl (lv_at hl 1 rfl) ?_
  exact x_pass (x_run (As := [.int v0]) (rest := []) (ci := 9) (q0 := 0) ⟨hx, hb, hml, hown, hts⟩ (t_needNode l D E sa hl9 a tp gr rd ah bk tr lm hi ro sc to x0 x1 x2 x3 x4 x5 x6 v0) b_979 b_981 b_19 b_78 b_982 ⟨rfl, hd_X9_needNode⟩ ⟨⟨by decide, by decide⟩, by decide, by decide⟩ hK hP hZ [0, 1] rfl rfl rfl rfl hl.1 (Nat.le_of_ble_eq_true rfl) dX9_both_2) htab hlocks
-- landmarked throws
set_option maxRecDepth 20000 in
set_option maxHeartbeats 2000000 in
theorem t_landmarked (l : Launch) (D : va_G) (E : Nat → ClassId) (sa : Nat → Nat) (hl9 : l.stackTraces = false) (a : Nat) (tp : Nat) (gr : Nat) (rd : Nat) (ah : Nat) (bk : Nat) (tr : Nat) (lm : Nat) (hi : Nat) (ro : Nat) (sc : Nat) (to : Nat) (x0 : Nat) (x1 : Nat) (x2 : Nat) (x3 : Nat) (x4 : Nat) (x5 : Nat) (x6 : Nat) (v0 : Int32) (v1 : Int32) : KT l yX9_landmarked cX9_landmarked 3 (some .int) 38 1242 D E sa [.ref a, .int v0, .int v1] [(a, .inr (9, [.ref tp, .ref gr, .ref rd, .ref ah, .ref bk, .ref tr, .ref lm, .ref hi, .ref ro, .ref sc, .ref to, .int 0, .int 0])), (gr, .inr (0, [.ref x0, .ref x1, .ref x2, .ref x3, .ref x4, .ref x5, .ref x6, .int 0, .int 0, .long 0]))] "java/lang/IndexOutOfBoundsException" := by
  refine KT.of (by decide) (Nat.le_of_ble_eq_true rfl) ?_
  intro p e s m below meth c ls hx hb hr hts hml hown hlocks htab hK hP hZ hl
  have hown : s.vm.findClass RX9 = some m.cls := hown
  have hl : lv_has ls 3 [(0, .ref a), (1, .int v0), (2, .int v1)] := hl
  refine lv_aload_n hx hb dX9_landmarked_0 rfl (lv_at hl 0 rfl) ?_
  refine lv_iload_n hx hb dX9_landmarked_1 rfl (lv_at hl 1 rfl) ?_
  exact x_pass (x_run (As := [.int v0]) (rest := []) (ci := 9) (q0 := 0) ⟨hx, hb, hml, hown, hts⟩ (t_needNode l D E sa hl9 a tp gr rd ah bk tr lm hi ro sc to x0 x1 x2 x3 x4 x5 x6 v0) b_979 b_981 b_19 b_78 b_982 ⟨rfl, hd_X9_needNode⟩ ⟨⟨by decide, by decide⟩, by decide, by decide⟩ hK hP hZ [0, 1] rfl rfl rfl rfl hl.1 (Nat.le_of_ble_eq_true rfl) dX9_landmarked_2) htab hlocks
-- straight throws
set_option maxRecDepth 20000 in
set_option maxHeartbeats 2000000 in
theorem t_straight (l : Launch) (D : va_G) (E : Nat → ClassId) (sa : Nat → Nat) (hl9 : l.stackTraces = false) (a : Nat) (tp : Nat) (gr : Nat) (rd : Nat) (ah : Nat) (bk : Nat) (tr : Nat) (lm : Nat) (hi : Nat) (ro : Nat) (sc : Nat) (to : Nat) (x0 : Nat) (x1 : Nat) (x2 : Nat) (x3 : Nat) (x4 : Nat) (x5 : Nat) (x6 : Nat) (v0 : Int32) (v1 : Int32) : KT l yX9_straight cX9_straight 6 (some .int) 38 1242 D E sa [.ref a, .int v0, .int v1] [(a, .inr (9, [.ref tp, .ref gr, .ref rd, .ref ah, .ref bk, .ref tr, .ref lm, .ref hi, .ref ro, .ref sc, .ref to, .int 0, .int 0])), (gr, .inr (0, [.ref x0, .ref x1, .ref x2, .ref x3, .ref x4, .ref x5, .ref x6, .int 0, .int 0, .long 0]))] "java/lang/IndexOutOfBoundsException" := by
  refine KT.of (by decide) (Nat.le_of_ble_eq_true rfl) ?_
  intro p e s m below meth c ls hx hb hr hts hml hown hlocks htab hK hP hZ hl
  have hown : s.vm.findClass RX9 = some m.cls := hown
  have hl : lv_has ls 6 [(0, .ref a), (1, .int v0), (2, .int v1)] := hl
  refine lv_aload_n hx hb dX9_straight_0 rfl (lv_at hl 0 rfl) ?_
  refine lv_iload_n hx hb dX9_straight_1 rfl (lv_at hl 1 rfl) ?_
  exact x_pass (x_run (As := [.int v0]) (rest := []) (ci := 9) (q0 := 0) ⟨hx, hb, hml, hown, hts⟩ (t_needNode l D E sa hl9 a tp gr rd ah bk tr lm hi ro sc to x0 x1 x2 x3 x4 x5 x6 v0) b_979 b_981 b_19 b_78 b_982 ⟨rfl, hd_X9_needNode⟩ ⟨⟨by decide, by decide⟩, by decide, by decide⟩ hK hP hZ [0, 1] rfl rfl rfl rfl hl.1 (Nat.le_of_ble_eq_true rfl) dX9_straight_2) htab hlocks
-- landmark throws
set_option maxRecDepth 20000 in
set_option maxHeartbeats 2000000 in
theorem t_landmark (l : Launch) (D : va_G) (E : Nat → ClassId) (sa : Nat → Nat) (hl9 : l.stackTraces = false) (a : Nat) (tp : Nat) (gr : Nat) (rd : Nat) (ah : Nat) (bk : Nat) (tr : Nat) (lm : Nat) (hi : Nat) (ro : Nat) (sc : Nat) (to : Nat) (x0 : Nat) (x1 : Nat) (x2 : Nat) (x3 : Nat) (x4 : Nat) (x5 : Nat) (x6 : Nat) (v0 : Int32) : KT l yX9_landmark cX9_landmark 2 (some .int) 38 1242 D E sa [.ref a, .int v0] [(a, .inr (9, [.ref tp, .ref gr, .ref rd, .ref ah, .ref bk, .ref tr, .ref lm, .ref hi, .ref ro, .ref sc, .ref to, .int 0, .int 0])), (gr, .inr (0, [.ref x0, .ref x1, .ref x2, .ref x3, .ref x4, .ref x5, .ref x6, .int 0, .int 0, .long 0]))] "java/lang/IndexOutOfBoundsException" := by
  refine KT.of (by decide) (Nat.le_of_ble_eq_true rfl) ?_
  intro p e s m below meth c ls hx hb hr hts hml hown hlocks htab hK hP hZ hl
  have hown : s.vm.findClass RX9 = some m.cls := hown
  have hl : lv_has ls 2 [(0, .ref a), (1, .int v0)] := hl
  refine lv_aload_n hx hb dX9_landmark_0 rfl (lv_at hl 0 rfl) ?_
  refine lv_iload_n hx hb dX9_landmark_1 rfl (lv_at hl 1 rfl) ?_
  exact x_pass (x_run (As := [.int v0]) (rest := []) (ci := 9) (q0 := 0) ⟨hx, hb, hml, hown, hts⟩ (t_needNode l D E sa hl9 a tp gr rd ah bk tr lm hi ro sc to x0 x1 x2 x3 x4 x5 x6 v0) b_979 b_981 b_19 b_78 b_982 ⟨rfl, hd_X9_needNode⟩ ⟨⟨by decide, by decide⟩, by decide, by decide⟩ hK hP hZ [0, 1] rfl rfl rfl rfl hl.1 (Nat.le_of_ble_eq_true rfl) dX9_landmark_2) htab hlocks
-- order throws
set_option maxRecDepth 20000 in
set_option maxHeartbeats 2000000 in
theorem t_order (l : Launch) (D : va_G) (E : Nat → ClassId) (sa : Nat → Nat) (hl9 : l.stackTraces = false) (a : Nat) (tp : Nat) (gr : Nat) (rd : Nat) (ah : Nat) (bk : Nat) (tr : Nat) (lm : Nat) (hi : Nat) (ro : Nat) (sc : Nat) (to : Nat) (x0 : Nat) (x1 : Nat) (x2 : Nat) (x3 : Nat) (x4 : Nat) (x5 : Nat) (x6 : Nat) (v0 : Int32) : KT l yX9_order cX9_order 2 (some .int) 38 1242 D E sa [.ref a, .int v0] [(a, .inr (9, [.ref tp, .ref gr, .ref rd, .ref ah, .ref bk, .ref tr, .ref lm, .ref hi, .ref ro, .ref sc, .ref to, .int 0, .int 0])), (gr, .inr (0, [.ref x0, .ref x1, .ref x2, .ref x3, .ref x4, .ref x5, .ref x6, .int 0, .int 0, .long 0]))] "java/lang/IndexOutOfBoundsException" := by
  refine KT.of (by decide) (Nat.le_of_ble_eq_true rfl) ?_
  intro p e s m below meth c ls hx hb hr hts hml hown hlocks htab hK hP hZ hl
  have hown : s.vm.findClass RX9 = some m.cls := hown
  have hl : lv_has ls 2 [(0, .ref a), (1, .int v0)] := hl
  refine lv_aload_n hx hb dX9_order_0 rfl (lv_at hl 0 rfl) ?_
  refine lv_iload_n hx hb dX9_order_1 rfl (lv_at hl 1 rfl) ?_
  exact x_pass (x_run (As := [.int v0]) (rest := []) (ci := 9) (q0 := 0) ⟨hx, hb, hml, hown, hts⟩ (t_needNode l D E sa hl9 a tp gr rd ah bk tr lm hi ro sc to x0 x1 x2 x3 x4 x5 x6 v0) b_979 b_981 b_19 b_78 b_982 ⟨rfl, hd_X9_needNode⟩ ⟨⟨by decide, by decide⟩, by decide, by decide⟩ hK hP hZ [0, 1] rfl rfl rfl rfl hl.1 (Nat.le_of_ble_eq_true rfl) dX9_order_2) htab hlocks
-- query throws
set_option maxRecDepth 20000 in
set_option maxHeartbeats 2000000 in
theorem t_query (l : Launch) (D : va_G) (E : Nat → ClassId) (sa : Nat → Nat) (hl9 : l.stackTraces = false) (a : Nat) (tp : Nat) (gr : Nat) (rd : Nat) (ah : Nat) (bk : Nat) (tr : Nat) (lm : Nat) (hi : Nat) (ro : Nat) (sc : Nat) (to : Nat) (x0 : Nat) (x1 : Nat) (x2 : Nat) (x3 : Nat) (x4 : Nat) (x5 : Nat) (x6 : Nat) (v0 : Int32) (v1 : Int32) : KT l yX9_query cX9_query 3 (some .int) 38 1242 D E sa [.ref a, .int v0, .int v1] [(a, .inr (9, [.ref tp, .ref gr, .ref rd, .ref ah, .ref bk, .ref tr, .ref lm, .ref hi, .ref ro, .ref sc, .ref to, .int 0, .int 0])), (gr, .inr (0, [.ref x0, .ref x1, .ref x2, .ref x3, .ref x4, .ref x5, .ref x6, .int 0, .int 0, .long 0]))] "java/lang/IndexOutOfBoundsException" := by
  refine KT.of (by decide) (Nat.le_of_ble_eq_true rfl) ?_
  intro p e s m below meth c ls hx hb hr hts hml hown hlocks htab hK hP hZ hl
  have hown : s.vm.findClass RX9 = some m.cls := hown
  have hl : lv_has ls 3 [(0, .ref a), (1, .int v0), (2, .int v1)] := hl
  refine lv_aload_n hx hb dX9_query_0 rfl (lv_at hl 0 rfl) ?_
  refine lv_iload_n hx hb dX9_query_1 rfl (lv_at hl 1 rfl) ?_
  exact x_pass (x_run (As := [.int v0]) (rest := []) (ci := 9) (q0 := 0) ⟨hx, hb, hml, hown, hts⟩ (t_needNode l D E sa hl9 a tp gr rd ah bk tr lm hi ro sc to x0 x1 x2 x3 x4 x5 x6 v0) b_979 b_981 b_19 b_78 b_982 ⟨rfl, hd_X9_needNode⟩ ⟨⟨by decide, by decide⟩, by decide, by decide⟩ hK hP hZ [0, 1] rfl rfl rfl rfl hl.1 (Nat.le_of_ble_eq_true rfl) dX9_query_2) htab hlocks
-- arc throws
set_option maxRecDepth 20000 in
set_option maxHeartbeats 2000000 in
theorem t_arc (l : Launch) (D : va_G) (E : Nat → ClassId) (sa : Nat → Nat) (hl9 : l.stackTraces = false) (a : Nat) (tp : Nat) (gr : Nat) (rd : Nat) (ah : Nat) (bk : Nat) (tr : Nat) (lm : Nat) (hi : Nat) (ro : Nat) (sc : Nat) (to : Nat) (x0 : Nat) (x1 : Nat) (x2 : Nat) (x3 : Nat) (x4 : Nat) (x5 : Nat) (x6 : Nat) (v0 : Int32) (v1 : Int32) (w : Int64) : KT l yX9_arc cX9_arc 8 (some .int) 38 1242 D E sa [.ref a, .int v0, .int v1, .long w] [(a, .inr (9, [.ref tp, .ref gr, .ref rd, .ref ah, .ref bk, .ref tr, .ref lm, .ref hi, .ref ro, .ref sc, .ref to, .int 0, .int 0])), (gr, .inr (0, [.ref x0, .ref x1, .ref x2, .ref x3, .ref x4, .ref x5, .ref x6, .int 0, .int 0, .long 0]))] "java/lang/IndexOutOfBoundsException" := by
  refine KT.of (by decide) (Nat.le_of_ble_eq_true rfl) ?_
  intro p e s m below meth c ls hx hb hr hts hml hown hlocks htab hK hP hZ hl
  have hown : s.vm.findClass RX9 = some m.cls := hown
  have hl : lv_has ls 8 [(0, .ref a), (1, .int v0), (2, .int v1), (3, .long w)] := hl
  refine lv_aload_n hx hb dX9_arc_0 rfl (lv_at hl 0 rfl) ?_
  refine lv_iload_n hx hb dX9_arc_1 rfl (lv_at hl 1 rfl) ?_
  exact x_pass (x_run (As := [.int v0]) (rest := []) (ci := 9) (q0 := 0) ⟨hx, hb, hml, hown, hts⟩ (t_needNode l D E sa hl9 a tp gr rd ah bk tr lm hi ro sc to x0 x1 x2 x3 x4 x5 x6 v0) b_979 b_981 b_19 b_78 b_982 ⟨rfl, hd_X9_needNode⟩ ⟨⟨by decide, by decide⟩, by decide, by decide⟩ hK hP hZ [0, 1] rfl rfl rfl rfl hl.1 (Nat.le_of_ble_eq_true rfl) dX9_arc_2) htab hlocks
-- potential throws
set_option maxRecDepth 20000 in
set_option maxHeartbeats 2000000 in
theorem t_potential (l : Launch) (D : va_G) (E : Nat → ClassId) (sa : Nat → Nat) (hl9 : l.stackTraces = false) (a : Nat) (tp : Nat) (gr : Nat) (rd : Nat) (ah : Nat) (bk : Nat) (tr : Nat) (lm : Nat) (hi : Nat) (ro : Nat) (sc : Nat) (to : Nat) (x0 : Nat) (x1 : Nat) (x2 : Nat) (x3 : Nat) (x4 : Nat) (x5 : Nat) (x6 : Nat) (v0 : Int32) (w : Int64) : KT l yX9_potential cX9_potential 8 (some .long) 38 1242 D E sa [.ref a, .int v0, .long w] [(a, .inr (9, [.ref tp, .ref gr, .ref rd, .ref ah, .ref bk, .ref tr, .ref lm, .ref hi, .ref ro, .ref sc, .ref to, .int 0, .int 0])), (gr, .inr (0, [.ref x0, .ref x1, .ref x2, .ref x3, .ref x4, .ref x5, .ref x6, .int 0, .int 0, .long 0]))] "java/lang/IndexOutOfBoundsException" := by
  refine KT.of (by decide) (Nat.le_of_ble_eq_true rfl) ?_
  intro p e s m below meth c ls hx hb hr hts hml hown hlocks htab hK hP hZ hl
  have hown : s.vm.findClass RX9 = some m.cls := hown
  have hl : lv_has ls 8 [(0, .ref a), (1, .int v0), (2, .long w)] := hl
  refine lv_aload_n hx hb dX9_potential_0 rfl (lv_at hl 0 rfl) ?_
  refine lv_iload_n hx hb dX9_potential_1 rfl (lv_at hl 1 rfl) ?_
  exact x_pass (x_run (As := [.int v0]) (rest := []) (ci := 9) (q0 := 0) ⟨hx, hb, hml, hown, hts⟩ (t_needNode l D E sa hl9 a tp gr rd ah bk tr lm hi ro sc to x0 x1 x2 x3 x4 x5 x6 v0) b_979 b_981 b_19 b_78 b_982 ⟨rfl, hd_X9_needNode⟩ ⟨⟨by decide, by decide⟩, by decide, by decide⟩ hK hP hZ [0, 1] rfl rfl rfl rfl hl.1 (Nat.le_of_ble_eq_true rfl) dX9_potential_2) htab hlocks
-- weigh throws
set_option maxRecDepth 20000 in
set_option maxHeartbeats 2000000 in
theorem t_weigh (l : Launch) (D : va_G) (E : Nat → ClassId) (sa : Nat → Nat) (hl9 : l.stackTraces = false) (a : Nat) (tp : Nat) (gr : Nat) (rd : Nat) (ah : Nat) (bk : Nat) (tr : Nat) (lm : Nat) (hi : Nat) (ro : Nat) (sc : Nat) (to : Nat) (x0 : Nat) (x1 : Nat) (x2 : Nat) (x3 : Nat) (x4 : Nat) (x5 : Nat) (x6 : Nat) (v0 : Int32) (w : Int64) : KT l yX9_weigh cX9_weigh 8 (some .long) 25 821 D E sa [.ref a, .int v0, .long w] [(a, .inr (9, [.ref tp, .ref gr, .ref rd, .ref ah, .ref bk, .ref tr, .ref lm, .ref hi, .ref ro, .ref sc, .ref to, .int 0, .int 0])), (gr, .inr (0, [.ref x0, .ref x1, .ref x2, .ref x3, .ref x4, .ref x5, .ref x6, .int 0, .int 0, .long 0]))] "java/lang/IndexOutOfBoundsException" := by
  refine KT.of (by decide) (Nat.le_of_ble_eq_true rfl) ?_
  intro p e s m below meth c ls hx hb hr hts hml hown hlocks htab hK hP hZ hl
  have hown : s.vm.findClass RX9 = some m.cls := hown
  have hl : lv_has ls 8 [(0, .ref a), (1, .int v0), (2, .long w)] := hl
  refine lv_aload_n hx hb dX9_weigh_0 rfl (lv_at hl 0 rfl) ?_
  refine va_get (D := D) (ci := 9) (v := .ref gr) (C := RX9) (T := TX9) (N := 13) hx hb hts inX9 hown hK hP 0 rfl rfl 1 (by decide) (hts _ b_482) (fun _ h9 => h9) rfl dX9_weigh_1 ?_
  refine lv_iload_n hx hb dX9_weigh_4 rfl (lv_at hl 1 rfl) ?_
  refine k_RV (As := [.int v0]) (rest := []) (ci := 0) (q0 := 1) ⟨hx, hb, hml, hown, hts⟩ (c_hasArc l D E gr x0 x1 x2 x3 x4 x5 x6 v0) b_678 b_679 b_680 b_80 b_681 ⟨rfl, hd_X0_hasArc⟩ ⟨⟨by decide, by decide⟩, by decide, by decide⟩ hK hP [1] rfl rfl rfl rfl hl.1 (Nat.le_of_ble_eq_true rfl) dX9_weigh_5 ?_
  refine lv_if_ne (tgt := 21) hx hb dX9_weigh_8 (by decide) (fun h9 => absurd h9 (by decide)) (fun _ => ?_)
  exact x_thS hl9 hx hb hown hts x_ok_io hZ.2.1.2.1 hZ.2.2.2.2.1 hZ (by rw [hml]; exact hl.1) htab hlocks ⟨by decide, Nat.le_of_ble_eq_true rfl, by decide, by decide⟩ dX9_weigh_11 dX9_weigh_14 dX9_weigh_15 dX9_weigh_17 dX9_weigh_20
end
section
/-! the words and decode rows that the rows of the next part take -/
theorem b_79 : Cond.initialized RX6 ∈ TB := tb_of 79 (by decide +kernel)
theorem b_81 : Cond.initialized RX3 ∈ TB := tb_of 81 (by decide +kernel)
theorem b_82 : Cond.initialized RX4 ∈ TB := tb_of 82 (by decide +kernel)
theorem b_83 : Cond.initialized RX8 ∈ TB := tb_of 83 (by decide +kernel)
theorem b_84 : Cond.initialized RX7 ∈ TB := tb_of 84 (by decide +kernel)
theorem b_85 : Cond.initialized RX2 ∈ TB := tb_of 85 (by decide +kernel)
theorem b_86 : Cond.initialized RX1 ∈ TB := tb_of 86 (by decide +kernel)
theorem b_87 : Cond.initialized RX5 ∈ TB := tb_of 87 (by decide +kernel)
theorem b_109 : Cond.methodLink RX9 5 (⟨"java/lang/Object", "<init>", "()V"⟩ : MethodName) ∈ TB := tb_of 109 (by decide +kernel)
theorem b_112 : Cond.classLink RX9 11 RX6 ∈ TB := tb_of 112 (by decide +kernel)
theorem b_113 : Cond.instantiable RX6 2 ∈ TB := tb_of 113 (by decide +kernel)
theorem b_115 : Cond.instanceMethod yX6_init ∈ TB := tb_of 115 (by decide +kernel)
theorem b_116 : Cond.code yX6_init cX6_init 1 none ∈ TB := tb_of 116 (by decide +kernel)
theorem b_117 : Cond.methodLink RX6 3 (⟨"java/lang/Object", "<init>", "()V"⟩ : MethodName) ∈ TB := tb_of 117 (by decide +kernel)
theorem b_118 : Cond.fieldLink RX6 9 "RoutePlanner$Tape" "bytes" "[B" ∈ TB := tb_of 118 (by decide +kernel)
theorem b_120 : Cond.fieldLink RX6 15 "RoutePlanner$Tape" "size" "I" ∈ TB := tb_of 120 (by decide +kernel)
theorem b_128 : Cond.arrayClass .byte ∈ TB := tb_of 128 (by decide +kernel)
theorem b_129 : Cond.classLink RX9 18 RX0 ∈ TB := tb_of 129 (by decide +kernel)
theorem b_130 : Cond.instantiable RX0 10 ∈ TB := tb_of 130 (by decide +kernel)
theorem b_132 : Cond.instanceMethod yX0_init ∈ TB := tb_of 132 (by decide +kernel)
theorem b_133 : Cond.code yX0_init cX0_init 1 none ∈ TB := tb_of 133 (by decide +kernel)
theorem b_134 : Cond.methodLink RX0 3 (⟨"java/lang/Object", "<init>", "()V"⟩ : MethodName) ∈ TB := tb_of 134 (by decide +kernel)
theorem b_135 : Cond.classLink RX0 31 RX3 ∈ TB := tb_of 135 (by decide +kernel)
theorem b_136 : Cond.instantiable RX3 6 ∈ TB := tb_of 136 (by decide +kernel)
theorem b_138 : Cond.instanceMethod yX3_init ∈ TB := tb_of 138 (by decide +kernel)
theorem b_139 : Cond.code yX3_init cX3_init 1 none ∈ TB := tb_of 139 (by decide +kernel)
theorem b_140 : Cond.methodLink RX3 3 (⟨"java/lang/Object", "<init>", "()V"⟩ : MethodName) ∈ TB := tb_of 140 (by decide +kernel)
theorem b_141 : Cond.fieldLink RX3 9 "RoutePlanner$Net" "lengths" "[J" ∈ TB := tb_of 141 (by decide +kernel)
theorem b_146 : Cond.fieldLink RX3 15 "RoutePlanner$Net" "counts" "[I" ∈ TB := tb_of 146 (by decide +kernel)
theorem b_151 : Cond.fieldLink RX3 19 "RoutePlanner$Net" "overs" "[I" ∈ TB := tb_of 151 (by decide +kernel)
theorem b_154 : Cond.fieldLink RX3 22 "RoutePlanner$Net" "arcNumbers" "[I" ∈ TB := tb_of 154 (by decide +kernel)
theorem b_157 : Cond.fieldLink RX3 25 "RoutePlanner$Net" "left" "[Z" ∈ TB := tb_of 157 (by decide +kernel)
theorem b_160 : Cond.fieldLink RX3 29 "RoutePlanner$Net" "nodes" "I" ∈ TB := tb_of 160 (by decide +kernel)
theorem b_178 : Cond.arrayClass .int ∈ TB := tb_of 178 (by decide +kernel)
theorem b_179 : Cond.arrayClass .long ∈ TB := tb_of 179 (by decide +kernel)
theorem b_180 : Cond.arrayClass .boolean ∈ TB := tb_of 180 (by decide +kernel)
theorem b_181 : Cond.fieldLink RX0 9 "RoutePlanner$Graph" "xs" "[I" ∈ TB := tb_of 181 (by decide +kernel)
theorem b_183 : Cond.fieldLink RX0 15 "RoutePlanner$Graph" "ys" "[I" ∈ TB := tb_of 183 (by decide +kernel)
theorem b_185 : Cond.fieldLink RX0 18 "RoutePlanner$Graph" "potentials" "[J" ∈ TB := tb_of 185 (by decide +kernel)
theorem b_187 : Cond.fieldLink RX0 22 "RoutePlanner$Graph" "tails" "[I" ∈ TB := tb_of 187 (by decide +kernel)
theorem b_189 : Cond.fieldLink RX0 25 "RoutePlanner$Graph" "heads" "[I" ∈ TB := tb_of 189 (by decide +kernel)
theorem b_191 : Cond.fieldLink RX0 28 "RoutePlanner$Graph" "weights" "[J" ∈ TB := tb_of 191 (by decide +kernel)
theorem b_193 : Cond.fieldLink RX0 34 "RoutePlanner$Graph" "net" "LRoutePlanner$Net;" ∈ TB := tb_of 193 (by decide +kernel)
theorem b_201 : Cond.fieldLink RX0 45 "RoutePlanner$Graph" "sum" "J" ∈ TB := tb_of 201 (by decide +kernel)
theorem b_225 : Cond.classLink RX9 25 RX4 ∈ TB := tb_of 225 (by decide +kernel)
theorem b_226 : Cond.instantiable RX4 9 ∈ TB := tb_of 226 (by decide +kernel)
theorem b_227 : Cond.methodLink RX9 27 yX4_init ∈ TB := tb_of 227 (by decide +kernel)
theorem b_228 : Cond.instanceMethod yX4_init ∈ TB := tb_of 228 (by decide +kernel)
theorem b_229 : Cond.code yX4_init cX4_init 3 none ∈ TB := tb_of 229 (by decide +kernel)
theorem b_230 : Cond.methodLink RX4 5 (⟨"java/lang/Object", "<init>", "()V"⟩ : MethodName) ∈ TB := tb_of 230 (by decide +kernel)
theorem b_231 : Cond.fieldLink RX4 11 "RoutePlanner$Reader" "tape" "LRoutePlanner$Tape;" ∈ TB := tb_of 231 (by decide +kernel)
theorem b_232 : Cond.fieldLink RX4 17 "RoutePlanner$Reader" "graph" "LRoutePlanner$Graph;" ∈ TB := tb_of 232 (by decide +kernel)
theorem b_236 : Cond.fieldLink RX4 21 "RoutePlanner$Reader" "faultPlace" "I" ∈ TB := tb_of 236 (by decide +kernel)
theorem b_263 : Cond.classLink RX9 34 RX8 ∈ TB := tb_of 263 (by decide +kernel)
theorem b_264 : Cond.instantiable RX8 5 ∈ TB := tb_of 264 (by decide +kernel)
theorem b_266 : Cond.instanceMethod yX8_init ∈ TB := tb_of 266 (by decide +kernel)
theorem b_267 : Cond.code yX8_init cX8_init 1 none ∈ TB := tb_of 267 (by decide +kernel)
theorem b_268 : Cond.methodLink RX8 3 (⟨"java/lang/Object", "<init>", "()V"⟩ : MethodName) ∈ TB := tb_of 268 (by decide +kernel)
theorem b_269 : Cond.fieldLink RX8 9 "RoutePlanner$Ways" "lengths" "[J" ∈ TB := tb_of 269 (by decide +kernel)
theorem b_273 : Cond.fieldLink RX8 15 "RoutePlanner$Ways" "counts" "[I" ∈ TB := tb_of 273 (by decide +kernel)
theorem b_277 : Cond.fieldLink RX8 19 "RoutePlanner$Ways" "row" "[I" ∈ TB := tb_of 277 (by decide +kernel)
theorem b_279 : Cond.fieldLink RX8 22 "RoutePlanner$Ways" "size" "I" ∈ TB := tb_of 279 (by decide +kernel)
theorem b_281 : Cond.fieldLink RX8 26 "RoutePlanner$Ways" "done" "[Z" ∈ TB := tb_of 281 (by decide +kernel)
theorem b_293 : Cond.classLink RX9 44 RX7 ∈ TB := tb_of 293 (by decide +kernel)
theorem b_294 : Cond.instantiable RX7 5 ∈ TB := tb_of 294 (by decide +kernel)
theorem b_296 : Cond.instanceMethod yX7_init ∈ TB := tb_of 296 (by decide +kernel)
theorem b_297 : Cond.code yX7_init cX7_init 1 none ∈ TB := tb_of 297 (by decide +kernel)
theorem b_298 : Cond.methodLink RX7 3 (⟨"java/lang/Object", "<init>", "()V"⟩ : MethodName) ∈ TB := tb_of 298 (by decide +kernel)
theorem b_299 : Cond.fieldLink RX7 9 "RoutePlanner$Trail" "nodes" "[I" ∈ TB := tb_of 299 (by decide +kernel)
theorem b_301 : Cond.fieldLink RX7 15 "RoutePlanner$Trail" "lengths" "[J" ∈ TB := tb_of 301 (by decide +kernel)
theorem b_303 : Cond.fieldLink RX7 19 "RoutePlanner$Trail" "counts" "[I" ∈ TB := tb_of 303 (by decide +kernel)
theorem b_305 : Cond.fieldLink RX7 22 "RoutePlanner$Trail" "size" "I" ∈ TB := tb_of 305 (by decide +kernel)
theorem b_307 : Cond.fieldLink RX7 26 "RoutePlanner$Trail" "seen" "[I" ∈ TB := tb_of 307 (by decide +kernel)
theorem b_319 : Cond.classLink RX9 51 RX2 ∈ TB := tb_of 319 (by decide +kernel)
theorem b_320 : Cond.instantiable RX2 5 ∈ TB := tb_of 320 (by decide +kernel)
theorem b_322 : Cond.instanceMethod yX2_init ∈ TB := tb_of 322 (by decide +kernel)
theorem b_323 : Cond.code yX2_init cX2_init 1 none ∈ TB := tb_of 323 (by decide +kernel)
theorem b_324 : Cond.methodLink RX2 3 (⟨"java/lang/Object", "<init>", "()V"⟩ : MethodName) ∈ TB := tb_of 324 (by decide +kernel)
theorem b_325 : Cond.classLink RX2 23 RX8 ∈ TB := tb_of 325 (by decide +kernel)
theorem b_327 : Cond.fieldLink RX2 9 "RoutePlanner$Landmarks" "nodes" "[I" ∈ TB := tb_of 327 (by decide +kernel)
theorem b_329 : Cond.fieldLink RX2 15 "RoutePlanner$Landmarks" "potentials" "[J" ∈ TB := tb_of 329 (by decide +kernel)
theorem b_331 : Cond.fieldLink RX2 19 "RoutePlanner$Landmarks" "size" "I" ∈ TB := tb_of 331 (by decide +kernel)
theorem b_333 : Cond.fieldLink RX2 26 "RoutePlanner$Landmarks" "from" "LRoutePlanner$Ways;" ∈ TB := tb_of 333 (by decide +kernel)
theorem b_334 : Cond.fieldLink RX2 30 "RoutePlanner$Landmarks" "into" "LRoutePlanner$Ways;" ∈ TB := tb_of 334 (by decide +kernel)
theorem b_346 : Cond.classLink RX9 58 RX1 ∈ TB := tb_of 346 (by decide +kernel)
theorem b_347 : Cond.instantiable RX1 14 ∈ TB := tb_of 347 (by decide +kernel)
theorem b_349 : Cond.instanceMethod yX1_init ∈ TB := tb_of 349 (by decide +kernel)
theorem b_350 : Cond.code yX1_init cX1_init 1 none ∈ TB := tb_of 350 (by decide +kernel)
theorem b_351 : Cond.methodLink RX1 3 (⟨"java/lang/Object", "<init>", "()V"⟩ : MethodName) ∈ TB := tb_of 351 (by decide +kernel)
theorem b_352 : Cond.classLink RX1 9 RX3 ∈ TB := tb_of 352 (by decide +kernel)
theorem b_354 : Cond.classLink RX1 45 RX8 ∈ TB := tb_of 354 (by decide +kernel)
theorem b_356 : Cond.fieldLink RX1 12 "RoutePlanner$Hierarchy" "net" "LRoutePlanner$Net;" ∈ TB := tb_of 356 (by decide +kernel)
theorem b_359 : Cond.fieldLink RX1 18 "RoutePlanner$Hierarchy" "ranks" "[I" ∈ TB := tb_of 359 (by decide +kernel)
theorem b_361 : Cond.fieldLink RX1 22 "RoutePlanner$Hierarchy" "row" "[I" ∈ TB := tb_of 361 (by decide +kernel)
theorem b_364 : Cond.fieldLink RX1 25 "RoutePlanner$Hierarchy" "made" "Z" ∈ TB := tb_of 364 (by decide +kernel)
theorem b_366 : Cond.fieldLink RX1 29 "RoutePlanner$Hierarchy" "placed" "I" ∈ TB := tb_of 366 (by decide +kernel)
theorem b_369 : Cond.fieldLink RX1 33 "RoutePlanner$Hierarchy" "shortcuts" "I" ∈ TB := tb_of 369 (by decide +kernel)
theorem b_371 : Cond.fieldLink RX1 36 "RoutePlanner$Hierarchy" "perShortcut" "I" ∈ TB := tb_of 371 (by decide +kernel)
theorem b_373 : Cond.fieldLink RX1 39 "RoutePlanner$Hierarchy" "perEdge" "I" ∈ TB := tb_of 373 (by decide +kernel)
theorem b_375 : Cond.fieldLink RX1 42 "RoutePlanner$Hierarchy" "perContracted" "I" ∈ TB := tb_of 375 (by decide +kernel)
theorem b_377 : Cond.fieldLink RX1 48 "RoutePlanner$Hierarchy" "witnesses" "LRoutePlanner$Ways;" ∈ TB := tb_of 377 (by decide +kernel)
theorem b_378 : Cond.fieldLink RX1 52 "RoutePlanner$Hierarchy" "contractedBeside" "[I" ∈ TB := tb_of 378 (by decide +kernel)
theorem b_379 : Cond.fieldLink RX1 55 "RoutePlanner$Hierarchy" "wantedFrom" "[I" ∈ TB := tb_of 379 (by decide +kernel)
theorem b_380 : Cond.fieldLink RX1 58 "RoutePlanner$Hierarchy" "wantedTo" "[I" ∈ TB := tb_of 380 (by decide +kernel)
theorem b_381 : Cond.fieldLink RX1 61 "RoutePlanner$Hierarchy" "wanted" "I" ∈ TB := tb_of 381 (by decide +kernel)
theorem b_411 : Cond.classLink RX9 65 RX5 ∈ TB := tb_of 411 (by decide +kernel)
theorem b_412 : Cond.instantiable RX5 17 ∈ TB := tb_of 412 (by decide +kernel)
theorem b_414 : Cond.instanceMethod yX5_init ∈ TB := tb_of 414 (by decide +kernel)
theorem b_415 : Cond.code yX5_init cX5_init 1 none ∈ TB := tb_of 415 (by decide +kernel)
theorem b_416 : Cond.methodLink RX5 3 (⟨"java/lang/Object", "<init>", "()V"⟩ : MethodName) ∈ TB := tb_of 416 (by decide +kernel)
theorem b_417 : Cond.fieldLink RX5 9 "RoutePlanner$Route" "relaxedFrom" "[I" ∈ TB := tb_of 417 (by decide +kernel)
theorem b_419 : Cond.fieldLink RX5 15 "RoutePlanner$Route" "relaxedTo" "[I" ∈ TB := tb_of 419 (by decide +kernel)
theorem b_421 : Cond.fieldLink RX5 18 "RoutePlanner$Route" "walk" "[I" ∈ TB := tb_of 421 (by decide +kernel)
theorem b_423 : Cond.fieldLink RX5 21 "RoutePlanner$Route" "asked" "Z" ∈ TB := tb_of 423 (by decide +kernel)
theorem b_425 : Cond.fieldLink RX5 25 "RoutePlanner$Route" "relaxedSize" "I" ∈ TB := tb_of 425 (by decide +kernel)
theorem b_427 : Cond.fieldLink RX5 29 "RoutePlanner$Route" "relaxedUp" "I" ∈ TB := tb_of 427 (by decide +kernel)
theorem b_429 : Cond.fieldLink RX5 32 "RoutePlanner$Route" "upSize" "I" ∈ TB := tb_of 429 (by decide +kernel)
theorem b_431 : Cond.fieldLink RX5 35 "RoutePlanner$Route" "downSize" "I" ∈ TB := tb_of 431 (by decide +kernel)
theorem b_433 : Cond.fieldLink RX5 38 "RoutePlanner$Route" "walkSize" "I" ∈ TB := tb_of 433 (by decide +kernel)
theorem b_435 : Cond.fieldLink RX5 41 "RoutePlanner$Route" "shortcuts" "I" ∈ TB := tb_of 435 (by decide +kernel)
theorem b_437 : Cond.fieldLink RX5 44 "RoutePlanner$Route" "top" "I" ∈ TB := tb_of 437 (by decide +kernel)
theorem b_439 : Cond.fieldLink RX5 47 "RoutePlanner$Route" "bestLength" "J" ∈ TB := tb_of 439 (by decide +kernel)
theorem b_441 : Cond.fieldLink RX5 51 "RoutePlanner$Route" "upLengths" "[J" ∈ TB := tb_of 441 (by decide +kernel)
theorem b_442 : Cond.fieldLink RX5 55 "RoutePlanner$Route" "upCounts" "[I" ∈ TB := tb_of 442 (by decide +kernel)
theorem b_443 : Cond.fieldLink RX5 58 "RoutePlanner$Route" "downLengths" "[J" ∈ TB := tb_of 443 (by decide +kernel)
theorem b_444 : Cond.fieldLink RX5 61 "RoutePlanner$Route" "downCounts" "[I" ∈ TB := tb_of 444 (by decide +kernel)
theorem b_445 : Cond.fieldLink RX5 64 "RoutePlanner$Route" "chain" "[I" ∈ TB := tb_of 445 (by decide +kernel)
theorem b_481 : Cond.fieldLink RX9 14 "RoutePlanner" "tape" "LRoutePlanner$Tape;" ∈ TB := tb_of 481 (by decide +kernel)
theorem b_483 : Cond.fieldLink RX9 30 "RoutePlanner" "reader" "LRoutePlanner$Reader;" ∈ TB := tb_of 483 (by decide +kernel)
theorem b_484 : Cond.fieldLink RX9 37 "RoutePlanner" "ahead" "LRoutePlanner$Ways;" ∈ TB := tb_of 484 (by decide +kernel)
theorem b_485 : Cond.fieldLink RX9 41 "RoutePlanner" "back" "LRoutePlanner$Ways;" ∈ TB := tb_of 485 (by decide +kernel)
theorem b_486 : Cond.fieldLink RX9 47 "RoutePlanner" "trail" "LRoutePlanner$Trail;" ∈ TB := tb_of 486 (by decide +kernel)
theorem b_487 : Cond.fieldLink RX9 54 "RoutePlanner" "landmarks" "LRoutePlanner$Landmarks;" ∈ TB := tb_of 487 (by decide +kernel)
theorem b_488 : Cond.fieldLink RX9 61 "RoutePlanner" "hierarchy" "LRoutePlanner$Hierarchy;" ∈ TB := tb_of 488 (by decide +kernel)
theorem b_489 : Cond.fieldLink RX9 68 "RoutePlanner" "route" "LRoutePlanner$Route;" ∈ TB := tb_of 489 (by decide +kernel)
theorem b_490 : Cond.fieldLink RX9 72 "RoutePlanner" "scratch" "[J" ∈ TB := tb_of 490 (by decide +kernel)
theorem b_491 : Cond.fieldLink RX9 76 "RoutePlanner" "toldRow" "[I" ∈ TB := tb_of 491 (by decide +kernel)
theorem b_492 : Cond.fieldLink RX9 80 "RoutePlanner" "toldSize" "I" ∈ TB := tb_of 492 (by decide +kernel)
theorem b_493 : Cond.fieldLink RX9 84 "RoutePlanner" "prepares" "I" ∈ TB := tb_of 493 (by decide +kernel)
theorem hd_X3_init : k_hd yX3_init 0 := by decide +kernel
theorem hd_X8_init : k_hd yX8_init 0 := by decide +kernel
theorem hd_X6_init : k_hd yX6_init 0 := by decide +kernel
theorem hd_X0_init : k_hd yX0_init 0 := by decide +kernel
theorem hd_X4_init : k_hd yX4_init 2 := by decide +kernel
theorem hd_X7_init : k_hd yX7_init 0 := by decide +kernel
theorem hd_X2_init : k_hd yX2_init 0 := by decide +kernel
theorem hd_X1_init : k_hd yX1_init 0 := by decide +kernel
theorem hd_X5_init : k_hd yX5_init 0 := by decide +kernel
theorem dX6_init_0 : decode cX6_init 0 = .ok (.aload_n 0, 1) := by decide +kernel
theorem dX6_init_1 : decode cX6_init 1 = .ok (.invokespecial 3, 3) := by decide +kernel
theorem dX6_init_4 : decode cX6_init 4 = .ok (.aload_n 0, 1) := by decide +kernel
theorem dX6_init_5 : decode cX6_init 5 = .ok (.sipush 2000, 3) := by decide +kernel
theorem dX6_init_8 : decode cX6_init 8 = .ok (.newarray .byte, 2) := by decide +kernel
theorem dX6_init_10 : decode cX6_init 10 = .ok (.putfield 9, 3) := by decide +kernel
theorem dX6_init_13 : decode cX6_init 13 = .ok (.aload_n 0, 1) := by decide +kernel
theorem dX6_init_14 : decode cX6_init 14 = .ok (.iconst 0, 1) := by decide +kernel
theorem dX6_init_15 : decode cX6_init 15 = .ok (.putfield 15, 3) := by decide +kernel
theorem dX6_init_18 : decode cX6_init 18 = .ok (.return_, 1) := by decide +kernel
theorem dX3_init_0 : decode cX3_init 0 = .ok (.aload_n 0, 1) := by decide +kernel
theorem dX3_init_1 : decode cX3_init 1 = .ok (.invokespecial 3, 3) := by decide +kernel
theorem dX3_init_4 : decode cX3_init 4 = .ok (.aload_n 0, 1) := by decide +kernel
theorem dX3_init_5 : decode cX3_init 5 = .ok (.sipush 576, 3) := by decide +kernel
theorem dX3_init_8 : decode cX3_init 8 = .ok (.newarray .long, 2) := by decide +kernel
theorem dX3_init_10 : decode cX3_init 10 = .ok (.putfield 9, 3) := by decide +kernel
theorem dX3_init_13 : decode cX3_init 13 = .ok (.aload_n 0, 1) := by decide +kernel
theorem dX3_init_14 : decode cX3_init 14 = .ok (.sipush 576, 3) := by decide +kernel
theorem dX3_init_17 : decode cX3_init 17 = .ok (.newarray .int, 2) := by decide +kernel
theorem dX3_init_19 : decode cX3_init 19 = .ok (.putfield 15, 3) := by decide +kernel
theorem dX3_init_22 : decode cX3_init 22 = .ok (.aload_n 0, 1) := by decide +kernel
theorem dX3_init_23 : decode cX3_init 23 = .ok (.sipush 576, 3) := by decide +kernel
theorem dX3_init_26 : decode cX3_init 26 = .ok (.newarray .int, 2) := by decide +kernel
theorem dX3_init_28 : decode cX3_init 28 = .ok (.putfield 19, 3) := by decide +kernel
theorem dX3_init_31 : decode cX3_init 31 = .ok (.aload_n 0, 1) := by decide +kernel
theorem dX3_init_32 : decode cX3_init 32 = .ok (.sipush 576, 3) := by decide +kernel
theorem dX3_init_35 : decode cX3_init 35 = .ok (.newarray .int, 2) := by decide +kernel
theorem dX3_init_37 : decode cX3_init 37 = .ok (.putfield 22, 3) := by decide +kernel
theorem dX3_init_40 : decode cX3_init 40 = .ok (.aload_n 0, 1) := by decide +kernel
theorem dX3_init_41 : decode cX3_init 41 = .ok (.bipush 24, 2) := by decide +kernel
theorem dX3_init_43 : decode cX3_init 43 = .ok (.newarray .boolean, 2) := by decide +kernel
theorem dX3_init_45 : decode cX3_init 45 = .ok (.putfield 25, 3) := by decide +kernel
theorem dX3_init_48 : decode cX3_init 48 = .ok (.aload_n 0, 1) := by decide +kernel
theorem dX3_init_49 : decode cX3_init 49 = .ok (.iconst 0, 1) := by decide +kernel
theorem dX3_init_50 : decode cX3_init 50 = .ok (.putfield 29, 3) := by decide +kernel
theorem dX3_init_53 : decode cX3_init 53 = .ok (.return_, 1) := by decide +kernel
theorem dX8_init_0 : decode cX8_init 0 = .ok (.aload_n 0, 1) := by decide +kernel
theorem dX8_init_1 : decode cX8_init 1 = .ok (.invokespecial 3, 3) := by decide +kernel
theorem dX8_init_4 : decode cX8_init 4 = .ok (.aload_n 0, 1) := by decide +kernel
theorem dX8_init_5 : decode cX8_init 5 = .ok (.bipush 24, 2) := by decide +kernel
theorem dX8_init_7 : decode cX8_init 7 = .ok (.newarray .long, 2) := by decide +kernel
theorem dX8_init_9 : decode cX8_init 9 = .ok (.putfield 9, 3) := by decide +kernel
theorem dX8_init_12 : decode cX8_init 12 = .ok (.aload_n 0, 1) := by decide +kernel
theorem dX8_init_13 : decode cX8_init 13 = .ok (.bipush 24, 2) := by decide +kernel
theorem dX8_init_15 : decode cX8_init 15 = .ok (.newarray .int, 2) := by decide +kernel
theorem dX8_init_17 : decode cX8_init 17 = .ok (.putfield 15, 3) := by decide +kernel
theorem dX8_init_20 : decode cX8_init 20 = .ok (.aload_n 0, 1) := by decide +kernel
theorem dX8_init_21 : decode cX8_init 21 = .ok (.bipush 24, 2) := by decide +kernel
theorem dX8_init_23 : decode cX8_init 23 = .ok (.newarray .int, 2) := by decide +kernel
theorem dX8_init_25 : decode cX8_init 25 = .ok (.putfield 19, 3) := by decide +kernel
theorem dX8_init_28 : decode cX8_init 28 = .ok (.aload_n 0, 1) := by decide +kernel
theorem dX8_init_29 : decode cX8_init 29 = .ok (.iconst 0, 1) := by decide +kernel
theorem dX8_init_30 : decode cX8_init 30 = .ok (.putfield 22, 3) := by decide +kernel
theorem dX8_init_33 : decode cX8_init 33 = .ok (.aload_n 0, 1) := by decide +kernel
theorem dX8_init_34 : decode cX8_init 34 = .ok (.bipush 24, 2) := by decide +kernel
theorem dX8_init_36 : decode cX8_init 36 = .ok (.newarray .boolean, 2) := by decide +kernel
theorem dX8_init_38 : decode cX8_init 38 = .ok (.putfield 26, 3) := by decide +kernel
theorem dX8_init_41 : decode cX8_init 41 = .ok (.return_, 1) := by decide +kernel
theorem dX7_init_0 : decode cX7_init 0 = .ok (.aload_n 0, 1) := by decide +kernel
theorem dX7_init_1 : decode cX7_init 1 = .ok (.invokespecial 3, 3) := by decide +kernel
theorem dX7_init_4 : decode cX7_init 4 = .ok (.aload_n 0, 1) := by decide +kernel
theorem dX7_init_5 : decode cX7_init 5 = .ok (.bipush 48, 2) := by decide +kernel
theorem dX7_init_7 : decode cX7_init 7 = .ok (.newarray .int, 2) := by decide +kernel
theorem dX7_init_9 : decode cX7_init 9 = .ok (.putfield 9, 3) := by decide +kernel
theorem dX7_init_12 : decode cX7_init 12 = .ok (.aload_n 0, 1) := by decide +kernel
theorem dX7_init_13 : decode cX7_init 13 = .ok (.bipush 48, 2) := by decide +kernel
theorem dX7_init_15 : decode cX7_init 15 = .ok (.newarray .long, 2) := by decide +kernel
theorem dX7_init_17 : decode cX7_init 17 = .ok (.putfield 15, 3) := by decide +kernel
theorem dX7_init_20 : decode cX7_init 20 = .ok (.aload_n 0, 1) := by decide +kernel
theorem dX7_init_21 : decode cX7_init 21 = .ok (.bipush 48, 2) := by decide +kernel
theorem dX7_init_23 : decode cX7_init 23 = .ok (.newarray .int, 2) := by decide +kernel
theorem dX7_init_25 : decode cX7_init 25 = .ok (.putfield 19, 3) := by decide +kernel
theorem dX7_init_28 : decode cX7_init 28 = .ok (.aload_n 0, 1) := by decide +kernel
theorem dX7_init_29 : decode cX7_init 29 = .ok (.iconst 0, 1) := by decide +kernel
theorem dX7_init_30 : decode cX7_init 30 = .ok (.putfield 22, 3) := by decide +kernel
theorem dX7_init_33 : decode cX7_init 33 = .ok (.aload_n 0, 1) := by decide +kernel
theorem dX7_init_34 : decode cX7_init 34 = .ok (.bipush 24, 2) := by decide +kernel
theorem dX7_init_36 : decode cX7_init 36 = .ok (.newarray .int, 2) := by decide +kernel
theorem dX7_init_38 : decode cX7_init 38 = .ok (.putfield 26, 3) := by decide +kernel
theorem dX7_init_41 : decode cX7_init 41 = .ok (.return_, 1) := by decide +kernel
theorem dX4_init_0 : decode cX4_init 0 = .ok (.aload_n 0, 1) := by decide +kernel
theorem dX4_init_1 : decode cX4_init 1 = .ok (.invokespecial 5, 3) := by decide +kernel
theorem dX4_init_4 : decode cX4_init 4 = .ok (.aload_n 0, 1) := by decide +kernel
theorem dX4_init_5 : decode cX4_init 5 = .ok (.aload_n 1, 1) := by decide +kernel
theorem dX4_init_6 : decode cX4_init 6 = .ok (.putfield 11, 3) := by decide +kernel
theorem dX4_init_9 : decode cX4_init 9 = .ok (.aload_n 0, 1) := by decide +kernel
theorem dX4_init_10 : decode cX4_init 10 = .ok (.aload_n 2, 1) := by decide +kernel
theorem dX4_init_11 : decode cX4_init 11 = .ok (.putfield 17, 3) := by decide +kernel
theorem dX4_init_14 : decode cX4_init 14 = .ok (.aload_n 0, 1) := by decide +kernel
theorem dX4_init_15 : decode cX4_init 15 = .ok (.iconst (-1), 1) := by decide +kernel
theorem dX4_init_16 : decode cX4_init 16 = .ok (.putfield 21, 3) := by decide +kernel
theorem dX4_init_19 : decode cX4_init 19 = .ok (.return_, 1) := by decide +kernel
theorem dX0_init_0 : decode cX0_init 0 = .ok (.aload_n 0, 1) := by decide +kernel
theorem dX0_init_1 : decode cX0_init 1 = .ok (.invokespecial 3, 3) := by decide +kernel
theorem dX0_init_4 : decode cX0_init 4 = .ok (.aload_n 0, 1) := by decide +kernel
theorem dX0_init_5 : decode cX0_init 5 = .ok (.bipush 24, 2) := by decide +kernel
theorem dX0_init_7 : decode cX0_init 7 = .ok (.newarray .int, 2) := by decide +kernel
theorem dX0_init_9 : decode cX0_init 9 = .ok (.putfield 9, 3) := by decide +kernel
theorem dX0_init_12 : decode cX0_init 12 = .ok (.aload_n 0, 1) := by decide +kernel
theorem dX0_init_13 : decode cX0_init 13 = .ok (.bipush 24, 2) := by decide +kernel
theorem dX0_init_15 : decode cX0_init 15 = .ok (.newarray .int, 2) := by decide +kernel
theorem dX0_init_17 : decode cX0_init 17 = .ok (.putfield 15, 3) := by decide +kernel
theorem dX0_init_20 : decode cX0_init 20 = .ok (.aload_n 0, 1) := by decide +kernel
theorem dX0_init_21 : decode cX0_init 21 = .ok (.bipush 24, 2) := by decide +kernel
theorem dX0_init_23 : decode cX0_init 23 = .ok (.newarray .long, 2) := by decide +kernel
theorem dX0_init_25 : decode cX0_init 25 = .ok (.putfield 18, 3) := by decide +kernel
theorem dX0_init_28 : decode cX0_init 28 = .ok (.aload_n 0, 1) := by decide +kernel
theorem dX0_init_29 : decode cX0_init 29 = .ok (.sipush 300, 3) := by decide +kernel
theorem dX0_init_32 : decode cX0_init 32 = .ok (.newarray .int, 2) := by decide +kernel
theorem dX0_init_34 : decode cX0_init 34 = .ok (.putfield 22, 3) := by decide +kernel
theorem dX0_init_37 : decode cX0_init 37 = .ok (.aload_n 0, 1) := by decide +kernel
theorem dX0_init_38 : decode cX0_init 38 = .ok (.sipush 300, 3) := by decide +kernel
theorem dX0_init_41 : decode cX0_init 41 = .ok (.newarray .int, 2) := by decide +kernel
theorem dX0_init_43 : decode cX0_init 43 = .ok (.putfield 25, 3) := by decide +kernel
theorem dX0_init_46 : decode cX0_init 46 = .ok (.aload_n 0, 1) := by decide +kernel
theorem dX0_init_47 : decode cX0_init 47 = .ok (.sipush 300, 3) := by decide +kernel
theorem dX0_init_50 : decode cX0_init 50 = .ok (.newarray .long, 2) := by decide +kernel
theorem dX0_init_52 : decode cX0_init 52 = .ok (.putfield 28, 3) := by decide +kernel
theorem dX0_init_55 : decode cX0_init 55 = .ok (.aload_n 0, 1) := by decide +kernel
theorem dX0_init_56 : decode cX0_init 56 = .ok (.new 31, 3) := by decide +kernel
theorem dX0_init_59 : decode cX0_init 59 = .ok (.dup, 1) := by decide +kernel
theorem dX0_init_60 : decode cX0_init 60 = .ok (.invokespecial 33, 3) := by decide +kernel
theorem dX0_init_63 : decode cX0_init 63 = .ok (.putfield 34, 3) := by decide +kernel
theorem dX0_init_66 : decode cX0_init 66 = .ok (.aload_n 0, 1) := by decide +kernel
theorem dX0_init_67 : decode cX0_init 67 = .ok (.iconst 0, 1) := by decide +kernel
theorem dX0_init_68 : decode cX0_init 68 = .ok (.putfield 38, 3) := by decide +kernel
theorem dX0_init_71 : decode cX0_init 71 = .ok (.aload_n 0, 1) := by decide +kernel
theorem dX0_init_72 : decode cX0_init 72 = .ok (.iconst 0, 1) := by decide +kernel
theorem dX0_init_73 : decode cX0_init 73 = .ok (.putfield 42, 3) := by decide +kernel
theorem dX0_init_76 : decode cX0_init 76 = .ok (.aload_n 0, 1) := by decide +kernel
theorem dX0_init_77 : decode cX0_init 77 = .ok (.lconst 0, 1) := by decide +kernel
theorem dX0_init_78 : decode cX0_init 78 = .ok (.putfield 45, 3) := by decide +kernel
theorem dX0_init_81 : decode cX0_init 81 = .ok (.return_, 1) := by decide +kernel
theorem dX2_init_0 : decode cX2_init 0 = .ok (.aload_n 0, 1) := by decide +kernel
theorem dX2_init_1 : decode cX2_init 1 = .ok (.invokespecial 3, 3) := by decide +kernel
theorem dX2_init_4 : decode cX2_init 4 = .ok (.aload_n 0, 1) := by decide +kernel
theorem dX2_init_5 : decode cX2_init 5 = .ok (.iconst 4, 1) := by decide +kernel
theorem dX2_init_6 : decode cX2_init 6 = .ok (.newarray .int, 2) := by decide +kernel
theorem dX2_init_8 : decode cX2_init 8 = .ok (.putfield 9, 3) := by decide +kernel
theorem dX2_init_11 : decode cX2_init 11 = .ok (.aload_n 0, 1) := by decide +kernel
theorem dX2_init_12 : decode cX2_init 12 = .ok (.bipush 24, 2) := by decide +kernel
theorem dX2_init_14 : decode cX2_init 14 = .ok (.newarray .long, 2) := by decide +kernel
theorem dX2_init_16 : decode cX2_init 16 = .ok (.putfield 15, 3) := by decide +kernel
theorem dX2_init_19 : decode cX2_init 19 = .ok (.aload_n 0, 1) := by decide +kernel
theorem dX2_init_20 : decode cX2_init 20 = .ok (.iconst 0, 1) := by decide +kernel
theorem dX2_init_21 : decode cX2_init 21 = .ok (.putfield 19, 3) := by decide +kernel
theorem dX2_init_24 : decode cX2_init 24 = .ok (.aload_n 0, 1) := by decide +kernel
theorem dX2_init_25 : decode cX2_init 25 = .ok (.new 23, 3) := by decide +kernel
theorem dX2_init_28 : decode cX2_init 28 = .ok (.dup, 1) := by decide +kernel
theorem dX2_init_29 : decode cX2_init 29 = .ok (.invokespecial 25, 3) := by decide +kernel
theorem dX2_init_32 : decode cX2_init 32 = .ok (.putfield 26, 3) := by decide +kernel
theorem dX2_init_35 : decode cX2_init 35 = .ok (.aload_n 0, 1) := by decide +kernel
theorem dX2_init_36 : decode cX2_init 36 = .ok (.new 23, 3) := by decide +kernel
theorem dX2_init_39 : decode cX2_init 39 = .ok (.dup, 1) := by decide +kernel
theorem dX2_init_40 : decode cX2_init 40 = .ok (.invokespecial 25, 3) := by decide +kernel
theorem dX2_init_43 : decode cX2_init 43 = .ok (.putfield 30, 3) := by decide +kernel
theorem dX2_init_46 : decode cX2_init 46 = .ok (.return_, 1) := by decide +kernel
theorem dX1_init_0 : decode cX1_init 0 = .ok (.aload_n 0, 1) := by decide +kernel
theorem dX1_init_1 : decode cX1_init 1 = .ok (.invokespecial 3, 3) := by decide +kernel
theorem dX1_init_4 : decode cX1_init 4 = .ok (.aload_n 0, 1) := by decide +kernel
theorem dX1_init_5 : decode cX1_init 5 = .ok (.new 9, 3) := by decide +kernel
theorem dX1_init_8 : decode cX1_init 8 = .ok (.dup, 1) := by decide +kernel
theorem dX1_init_9 : decode cX1_init 9 = .ok (.invokespecial 11, 3) := by decide +kernel
theorem dX1_init_12 : decode cX1_init 12 = .ok (.putfield 12, 3) := by decide +kernel
theorem dX1_init_15 : decode cX1_init 15 = .ok (.aload_n 0, 1) := by decide +kernel
theorem dX1_init_16 : decode cX1_init 16 = .ok (.bipush 24, 2) := by decide +kernel
theorem dX1_init_18 : decode cX1_init 18 = .ok (.newarray .int, 2) := by decide +kernel
theorem dX1_init_20 : decode cX1_init 20 = .ok (.putfield 18, 3) := by decide +kernel
theorem dX1_init_23 : decode cX1_init 23 = .ok (.aload_n 0, 1) := by decide +kernel
theorem dX1_init_24 : decode cX1_init 24 = .ok (.bipush 24, 2) := by decide +kernel
theorem dX1_init_26 : decode cX1_init 26 = .ok (.newarray .int, 2) := by decide +kernel
theorem dX1_init_28 : decode cX1_init 28 = .ok (.putfield 22, 3) := by decide +kernel
theorem dX1_init_31 : decode cX1_init 31 = .ok (.aload_n 0, 1) := by decide +kernel
theorem dX1_init_32 : decode cX1_init 32 = .ok (.iconst 0, 1) := by decide +kernel
theorem dX1_init_33 : decode cX1_init 33 = .ok (.putfield 25, 3) := by decide +kernel
theorem dX1_init_36 : decode cX1_init 36 = .ok (.aload_n 0, 1) := by decide +kernel
theorem dX1_init_37 : decode cX1_init 37 = .ok (.iconst 0, 1) := by decide +kernel
theorem dX1_init_38 : decode cX1_init 38 = .ok (.putfield 29, 3) := by decide +kernel
theorem dX1_init_41 : decode cX1_init 41 = .ok (.aload_n 0, 1) := by decide +kernel
theorem dX1_init_42 : decode cX1_init 42 = .ok (.iconst 0, 1) := by decide +kernel
theorem dX1_init_43 : decode cX1_init 43 = .ok (.putfield 33, 3) := by decide +kernel
theorem dX1_init_46 : decode cX1_init 46 = .ok (.aload_n 0, 1) := by decide +kernel
theorem dX1_init_47 : decode cX1_init 47 = .ok (.iconst 4, 1) := by decide +kernel
theorem dX1_init_48 : decode cX1_init 48 = .ok (.putfield 36, 3) := by decide +kernel
theorem dX1_init_51 : decode cX1_init 51 = .ok (.aload_n 0, 1) := by decide +kernel
theorem dX1_init_52 : decode cX1_init 52 = .ok (.iconst 2, 1) := by decide +kernel
theorem dX1_init_53 : decode cX1_init 53 = .ok (.putfield 39, 3) := by decide +kernel
theorem dX1_init_56 : decode cX1_init 56 = .ok (.aload_n 0, 1) := by decide +kernel
theorem dX1_init_57 : decode cX1_init 57 = .ok (.iconst 1, 1) := by decide +kernel
theorem dX1_init_58 : decode cX1_init 58 = .ok (.putfield 42, 3) := by decide +kernel
theorem dX1_init_61 : decode cX1_init 61 = .ok (.aload_n 0, 1) := by decide +kernel
theorem dX1_init_62 : decode cX1_init 62 = .ok (.new 45, 3) := by decide +kernel
theorem dX1_init_65 : decode cX1_init 65 = .ok (.dup, 1) := by decide +kernel
theorem dX1_init_66 : decode cX1_init 66 = .ok (.invokespecial 47, 3) := by decide +kernel
theorem dX1_init_69 : decode cX1_init 69 = .ok (.putfield 48, 3) := by decide +kernel
theorem dX1_init_72 : decode cX1_init 72 = .ok (.aload_n 0, 1) := by decide +kernel
theorem dX1_init_73 : decode cX1_init 73 = .ok (.bipush 24, 2) := by decide +kernel
theorem dX1_init_75 : decode cX1_init 75 = .ok (.newarray .int, 2) := by decide +kernel
theorem dX1_init_77 : decode cX1_init 77 = .ok (.putfield 52, 3) := by decide +kernel
theorem dX1_init_80 : decode cX1_init 80 = .ok (.aload_n 0, 1) := by decide +kernel
theorem dX1_init_81 : decode cX1_init 81 = .ok (.sipush 576, 3) := by decide +kernel
theorem dX1_init_84 : decode cX1_init 84 = .ok (.newarray .int, 2) := by decide +kernel
theorem dX1_init_86 : decode cX1_init 86 = .ok (.putfield 55, 3) := by decide +kernel
theorem dX1_init_89 : decode cX1_init 89 = .ok (.aload_n 0, 1) := by decide +kernel
theorem dX1_init_90 : decode cX1_init 90 = .ok (.sipush 576, 3) := by decide +kernel
theorem dX1_init_93 : decode cX1_init 93 = .ok (.newarray .int, 2) := by decide +kernel
theorem dX1_init_95 : decode cX1_init 95 = .ok (.putfield 58, 3) := by decide +kernel
theorem dX1_init_98 : decode cX1_init 98 = .ok (.aload_n 0, 1) := by decide +kernel
theorem dX1_init_99 : decode cX1_init 99 = .ok (.iconst 0, 1) := by decide +kernel
theorem dX1_init_100 : decode cX1_init 100 = .ok (.putfield 61, 3) := by decide +kernel
theorem dX1_init_103 : decode cX1_init 103 = .ok (.return_, 1) := by decide +kernel
theorem dX5_init_0 : decode cX5_init 0 = .ok (.aload_n 0, 1) := by decide +kernel
theorem dX5_init_1 : decode cX5_init 1 = .ok (.invokespecial 3, 3) := by decide +kernel
theorem dX5_init_4 : decode cX5_init 4 = .ok (.aload_n 0, 1) := by decide +kernel
theorem dX5_init_5 : decode cX5_init 5 = .ok (.sipush 576, 3) := by decide +kernel
theorem dX5_init_8 : decode cX5_init 8 = .ok (.newarray .int, 2) := by decide +kernel
theorem dX5_init_10 : decode cX5_init 10 = .ok (.putfield 9, 3) := by decide +kernel
theorem dX5_init_13 : decode cX5_init 13 = .ok (.aload_n 0, 1) := by decide +kernel
theorem dX5_init_14 : decode cX5_init 14 = .ok (.sipush 576, 3) := by decide +kernel
theorem dX5_init_17 : decode cX5_init 17 = .ok (.newarray .int, 2) := by decide +kernel
theorem dX5_init_19 : decode cX5_init 19 = .ok (.putfield 15, 3) := by decide +kernel
theorem dX5_init_22 : decode cX5_init 22 = .ok (.aload_n 0, 1) := by decide +kernel
theorem dX5_init_23 : decode cX5_init 23 = .ok (.bipush 24, 2) := by decide +kernel
theorem dX5_init_25 : decode cX5_init 25 = .ok (.newarray .int, 2) := by decide +kernel
theorem dX5_init_27 : decode cX5_init 27 = .ok (.putfield 18, 3) := by decide +kernel
theorem dX5_init_30 : decode cX5_init 30 = .ok (.aload_n 0, 1) := by decide +kernel
theorem dX5_init_31 : decode cX5_init 31 = .ok (.iconst 0, 1) := by decide +kernel
theorem dX5_init_32 : decode cX5_init 32 = .ok (.putfield 21, 3) := by decide +kernel
theorem dX5_init_35 : decode cX5_init 35 = .ok (.aload_n 0, 1) := by decide +kernel
theorem dX5_init_36 : decode cX5_init 36 = .ok (.iconst 0, 1) := by decide +kernel
theorem dX5_init_37 : decode cX5_init 37 = .ok (.putfield 25, 3) := by decide +kernel
theorem dX5_init_40 : decode cX5_init 40 = .ok (.aload_n 0, 1) := by decide +kernel
theorem dX5_init_41 : decode cX5_init 41 = .ok (.iconst 0, 1) := by decide +kernel
theorem dX5_init_42 : decode cX5_init 42 = .ok (.putfield 29, 3) := by decide +kernel
theorem dX5_init_45 : decode cX5_init 45 = .ok (.aload_n 0, 1) := by decide +kernel
theorem dX5_init_46 : decode cX5_init 46 = .ok (.iconst 0, 1) := by decide +kernel
theorem dX5_init_47 : decode cX5_init 47 = .ok (.putfield 32, 3) := by decide +kernel
theorem dX5_init_50 : decode cX5_init 50 = .ok (.aload_n 0, 1) := by decide +kernel
theorem dX5_init_51 : decode cX5_init 51 = .ok (.iconst 0, 1) := by decide +kernel
theorem dX5_init_52 : decode cX5_init 52 = .ok (.putfield 35, 3) := by decide +kernel
theorem dX5_init_55 : decode cX5_init 55 = .ok (.aload_n 0, 1) := by decide +kernel
theorem dX5_init_56 : decode cX5_init 56 = .ok (.iconst 0, 1) := by decide +kernel
theorem dX5_init_57 : decode cX5_init 57 = .ok (.putfield 38, 3) := by decide +kernel
theorem dX5_init_60 : decode cX5_init 60 = .ok (.aload_n 0, 1) := by decide +kernel
theorem dX5_init_61 : decode cX5_init 61 = .ok (.iconst 0, 1) := by decide +kernel
theorem dX5_init_62 : decode cX5_init 62 = .ok (.putfield 41, 3) := by decide +kernel
theorem dX5_init_65 : decode cX5_init 65 = .ok (.aload_n 0, 1) := by decide +kernel
theorem dX5_init_66 : decode cX5_init 66 = .ok (.iconst (-1), 1) := by decide +kernel
theorem dX5_init_67 : decode cX5_init 67 = .ok (.putfield 44, 3) := by decide +kernel
theorem dX5_init_70 : decode cX5_init 70 = .ok (.aload_n 0, 1) := by decide +kernel
theorem dX5_init_71 : decode cX5_init 71 = .ok (.lconst 0, 1) := by decide +kernel
theorem dX5_init_72 : decode cX5_init 72 = .ok (.putfield 47, 3) := by decide +kernel
theorem dX5_init_75 : decode cX5_init 75 = .ok (.aload_n 0, 1) := by decide +kernel
theorem dX5_init_76 : decode cX5_init 76 = .ok (.bipush 24, 2) := by decide +kernel
theorem dX5_init_78 : decode cX5_init 78 = .ok (.newarray .long, 2) := by decide +kernel
theorem dX5_init_80 : decode cX5_init 80 = .ok (.putfield 51, 3) := by decide +kernel
theorem dX5_init_83 : decode cX5_init 83 = .ok (.aload_n 0, 1) := by decide +kernel
theorem dX5_init_84 : decode cX5_init 84 = .ok (.bipush 24, 2) := by decide +kernel
theorem dX5_init_86 : decode cX5_init 86 = .ok (.newarray .int, 2) := by decide +kernel
theorem dX5_init_88 : decode cX5_init 88 = .ok (.putfield 55, 3) := by decide +kernel
theorem dX5_init_91 : decode cX5_init 91 = .ok (.aload_n 0, 1) := by decide +kernel
theorem dX5_init_92 : decode cX5_init 92 = .ok (.bipush 24, 2) := by decide +kernel
theorem dX5_init_94 : decode cX5_init 94 = .ok (.newarray .long, 2) := by decide +kernel
theorem dX5_init_96 : decode cX5_init 96 = .ok (.putfield 58, 3) := by decide +kernel
theorem dX5_init_99 : decode cX5_init 99 = .ok (.aload_n 0, 1) := by decide +kernel
theorem dX5_init_100 : decode cX5_init 100 = .ok (.bipush 24, 2) := by decide +kernel
theorem dX5_init_102 : decode cX5_init 102 = .ok (.newarray .int, 2) := by decide +kernel
theorem dX5_init_104 : decode cX5_init 104 = .ok (.putfield 61, 3) := by decide +kernel
theorem dX5_init_107 : decode cX5_init 107 = .ok (.aload_n 0, 1) := by decide +kernel
theorem dX5_init_108 : decode cX5_init 108 = .ok (.bipush 49, 2) := by decide +kernel
theorem dX5_init_110 : decode cX5_init 110 = .ok (.newarray .int, 2) := by decide +kernel
theorem dX5_init_112 : decode cX5_init 112 = .ok (.putfield 64, 3) := by decide +kernel
theorem dX5_init_115 : decode cX5_init 115 = .ok (.return_, 1) := by decide +kernel
theorem dX9_init_0 : decode cX9_init 0 = .ok (.aload_n 0, 1) := by decide +kernel
theorem dX9_init_1 : decode cX9_init 1 = .ok (.invokespecial 5, 3) := by decide +kernel
theorem dX9_init_4 : decode cX9_init 4 = .ok (.aload_n 0, 1) := by decide +kernel
theorem dX9_init_5 : decode cX9_init 5 = .ok (.new 11, 3) := by decide +kernel
theorem dX9_init_8 : decode cX9_init 8 = .ok (.dup, 1) := by decide +kernel
theorem dX9_init_9 : decode cX9_init 9 = .ok (.invokespecial 13, 3) := by decide +kernel
theorem dX9_init_12 : decode cX9_init 12 = .ok (.putfield 14, 3) := by decide +kernel
theorem dX9_init_15 : decode cX9_init 15 = .ok (.aload_n 0, 1) := by decide +kernel
theorem dX9_init_16 : decode cX9_init 16 = .ok (.new 18, 3) := by decide +kernel
theorem dX9_init_19 : decode cX9_init 19 = .ok (.dup, 1) := by decide +kernel
theorem dX9_init_20 : decode cX9_init 20 = .ok (.invokespecial 20, 3) := by decide +kernel
theorem dX9_init_23 : decode cX9_init 23 = .ok (.putfield 21, 3) := by decide +kernel
theorem dX9_init_26 : decode cX9_init 26 = .ok (.aload_n 0, 1) := by decide +kernel
theorem dX9_init_27 : decode cX9_init 27 = .ok (.new 25, 3) := by decide +kernel
theorem dX9_init_30 : decode cX9_init 30 = .ok (.dup, 1) := by decide +kernel
theorem dX9_init_31 : decode cX9_init 31 = .ok (.aload_n 0, 1) := by decide +kernel
theorem dX9_init_32 : decode cX9_init 32 = .ok (.getfield 14, 3) := by decide +kernel
theorem dX9_init_35 : decode cX9_init 35 = .ok (.aload_n 0, 1) := by decide +kernel
theorem dX9_init_36 : decode cX9_init 36 = .ok (.getfield 21, 3) := by decide +kernel
theorem dX9_init_39 : decode cX9_init 39 = .ok (.invokespecial 27, 3) := by decide +kernel
theorem dX9_init_42 : decode cX9_init 42 = .ok (.putfield 30, 3) := by decide +kernel
theorem dX9_init_45 : decode cX9_init 45 = .ok (.aload_n 0, 1) := by decide +kernel
theorem dX9_init_46 : decode cX9_init 46 = .ok (.new 34, 3) := by decide +kernel
theorem dX9_init_49 : decode cX9_init 49 = .ok (.dup, 1) := by decide +kernel
theorem dX9_init_50 : decode cX9_init 50 = .ok (.invokespecial 36, 3) := by decide +kernel
theorem dX9_init_53 : decode cX9_init 53 = .ok (.putfield 37, 3) := by decide +kernel
theorem dX9_init_56 : decode cX9_init 56 = .ok (.aload_n 0, 1) := by decide +kernel
theorem dX9_init_57 : decode cX9_init 57 = .ok (.new 34, 3) := by decide +kernel
theorem dX9_init_60 : decode cX9_init 60 = .ok (.dup, 1) := by decide +kernel
theorem dX9_init_61 : decode cX9_init 61 = .ok (.invokespecial 36, 3) := by decide +kernel
theorem dX9_init_64 : decode cX9_init 64 = .ok (.putfield 41, 3) := by decide +kernel
theorem dX9_init_67 : decode cX9_init 67 = .ok (.aload_n 0, 1) := by decide +kernel
theorem dX9_init_68 : decode cX9_init 68 = .ok (.new 44, 3) := by decide +kernel
theorem dX9_init_71 : decode cX9_init 71 = .ok (.dup, 1) := by decide +kernel
theorem dX9_init_72 : decode cX9_init 72 = .ok (.invokespecial 46, 3) := by decide +kernel
theorem dX9_init_75 : decode cX9_init 75 = .ok (.putfield 47, 3) := by decide +kernel
theorem dX9_init_78 : decode cX9_init 78 = .ok (.aload_n 0, 1) := by decide +kernel
theorem dX9_init_79 : decode cX9_init 79 = .ok (.new 51, 3) := by decide +kernel
theorem dX9_init_82 : decode cX9_init 82 = .ok (.dup, 1) := by decide +kernel
theorem dX9_init_83 : decode cX9_init 83 = .ok (.invokespecial 53, 3) := by decide +kernel
theorem dX9_init_86 : decode cX9_init 86 = .ok (.putfield 54, 3) := by decide +kernel
theorem dX9_init_89 : decode cX9_init 89 = .ok (.aload_n 0, 1) := by decide +kernel
theorem dX9_init_90 : decode cX9_init 90 = .ok (.new 58, 3) := by decide +kernel
theorem dX9_init_93 : decode cX9_init 93 = .ok (.dup, 1) := by decide +kernel
theorem dX9_init_94 : decode cX9_init 94 = .ok (.invokespecial 60, 3) := by decide +kernel
theorem dX9_init_97 : decode cX9_init 97 = .ok (.putfield 61, 3) := by decide +kernel
theorem dX9_init_100 : decode cX9_init 100 = .ok (.aload_n 0, 1) := by decide +kernel
theorem dX9_init_101 : decode cX9_init 101 = .ok (.new 65, 3) := by decide +kernel
theorem dX9_init_104 : decode cX9_init 104 = .ok (.dup, 1) := by decide +kernel
theorem dX9_init_105 : decode cX9_init 105 = .ok (.invokespecial 67, 3) := by decide +kernel
theorem dX9_init_108 : decode cX9_init 108 = .ok (.putfield 68, 3) := by decide +kernel
theorem dX9_init_111 : decode cX9_init 111 = .ok (.aload_n 0, 1) := by decide +kernel
theorem dX9_init_112 : decode cX9_init 112 = .ok (.bipush 24, 2) := by decide +kernel
theorem dX9_init_114 : decode cX9_init 114 = .ok (.newarray .long, 2) := by decide +kernel
theorem dX9_init_116 : decode cX9_init 116 = .ok (.putfield 72, 3) := by decide +kernel
theorem dX9_init_119 : decode cX9_init 119 = .ok (.aload_n 0, 1) := by decide +kernel
theorem dX9_init_120 : decode cX9_init 120 = .ok (.bipush 24, 2) := by decide +kernel
theorem dX9_init_122 : decode cX9_init 122 = .ok (.newarray .int, 2) := by decide +kernel
theorem dX9_init_124 : decode cX9_init 124 = .ok (.putfield 76, 3) := by decide +kernel
theorem dX9_init_127 : decode cX9_init 127 = .ok (.aload_n 0, 1) := by decide +kernel
theorem dX9_init_128 : decode cX9_init 128 = .ok (.iconst 0, 1) := by decide +kernel
theorem dX9_init_129 : decode cX9_init 129 = .ok (.putfield 80, 3) := by decide +kernel
theorem dX9_init_132 : decode cX9_init 132 = .ok (.aload_n 0, 1) := by decide +kernel
theorem dX9_init_133 : decode cX9_init 133 = .ok (.iconst 0, 1) := by decide +kernel
theorem dX9_init_134 : decode cX9_init 134 = .ok (.putfield 84, 3) := by decide +kernel
theorem dX9_init_137 : decode cX9_init 137 = .ok (.return_, 1) := by decide +kernel
end
section
set_option maxRecDepth 20000 in
set_option maxHeartbeats 2000000 in
theorem i_Tape (l : Launch) (D : va_G) (E : Nat → ClassId) (sa : Nat → Nat) (a : Nat) : KM l yX6_init (.code yX6_init cX6_init 1 none) 12 400 1 2000 D E sa [.ref a] [(a, .inr (6, [.null, .int 0]))] (S := Nat) (fun u => none) (fun _ => True) (fun u => [(a, .inr (6, [.ref u, .int 0])), (u, .inl (E 2, 2000, .inl (fun _ => 0)))]) := by
  refine KM.of (by decide) (Nat.le_of_ble_eq_true rfl) ?_
  intro p e s m below meth c A ls hx hb hr hts hml hown hlocks hnm hK hP hD hA hS hZ hl
  have hown : s.vm.findClass RX6 = some m.cls := hown
  have hl : lv_has ls 1 [(0, .ref a)] := hl
  refine lv_aload_n hx hb dX6_init_0 rfl (lv_at hl 0 rfl) ?_
  refine W.objInit hx hb hown (hts _ b_117) (hts _ b_oi) (hts _ b_oc) rfl (by rw [hml]; exact hl.1) rfl dX6_init_1 (by decide) (Nat.le_of_ble_eq_true rfl) ?_
  refine W.eq (g2 := F0 m 4 ls []) rfl ?_
  refine lv_aload_n hx hb dX6_init_4 rfl (lv_at hl 0 rfl) ?_
  refine lv_sipush (v := 2000) hx hb dX6_init_5 (by decide) ?_
  refine k_newa (E := E) 2 (N9 := 2000) hx hb (hts _ b_128) (by rfl) rfl rfl hK hP hD hS hA (a0 := (2000, .inl (fun _ => 0))) (fun _ => rfl) (by decide) (by decide) (by decide) (by decide) (by decide) dX6_init_8 (fun q1 H hP hD hS => ?_)
  refine W.widen (k := 1) (n := 2000) (by decide) (by decide) ?_
  have hP : va_P D k_cl [(a, .inr (6, [.null, .int 0])), (q1, .inl (E 2, 2000, .inl (fun _ => 0)))] H := hP
  have hD : va_D A [(a, .inr (6, [.null, .int 0])), (q1, .inl (E 2, 2000, .inl (fun _ => 0)))] := hD
  refine va_putF (D := D) (ci := 6) (v := .ref q1) (ty := (.array .byte)) (C := RX6) (T := TX6) (N := 2) hx hb hts inX6 tyX6 tyX6_ok nmX6 hown hK hP hD hS 0 rfl rfl 0 (by decide) (hts _ b_118) (fun _ h9 => h9) rfl hnm rfl (by decide +kernel) rfl rfl (Nat.le_of_ble_eq_true rfl) dX6_init_10 (fun H locs hP hD hS => ?_)
  have hP : va_P D k_cl [(a, .inr (6, [.ref q1, .int 0])), (q1, .inl (E 2, 2000, .inl (fun _ => 0)))] H := hP
  have hD : va_D A [(a, .inr (6, [.ref q1, .int 0])), (q1, .inl (E 2, 2000, .inl (fun _ => 0)))] := hD
  refine lv_aload_n hx hb dX6_init_13 rfl (lv_at hl 0 rfl) ?_
  refine lv_iconst (v := 0) hx hb dX6_init_14 (by decide) ?_
  refine va_put (D := D) (ci := 6) (v := .int 0) (ty := .int) (C := RX6) (T := TX6) (N := 2) hx hb hts inX6 tyX6 tyX6_ok nmX6 hown hK hP hD hS 0 rfl rfl 1 (by decide) (hts _ b_120) (fun _ h9 => h9) rfl (by decide +kernel) rfl rfl (Nat.le_of_ble_eq_true rfl) dX6_init_15 (fun H locs hP hD hS => ?_)
  have hP : va_P D k_cl [(a, .inr (6, [.ref q1, .int 0])), (q1, .inl (E 2, 2000, .inl (fun _ => 0)))] H := hP
  have hD : va_D A [(a, .inr (6, [.ref q1, .int 0])), (q1, .inl (E 2, 2000, .inl (fun _ => 0)))] := hD
  exact m_v q1 hx hb hr hlocks rfl trivial (hP.sub [0, 1] rfl) (hD.sub [0, 1] (by decide) rfl) hS (by decide) (by decide) dX6_init_18
set_option maxRecDepth 20000 in
set_option maxHeartbeats 2000000 in
theorem i_Net (l : Launch) (D : va_G) (E : Nat → ClassId) (sa : Nat → Nat) (a : Nat) : KM l yX3_init (.code yX3_init cX3_init 1 none) 12 400 5 2328 D E sa [.ref a] [(a, .inr (3, [.null, .null, .null, .null, .null, .int 0]))] (S := Nat × Nat × Nat × Nat × Nat) (fun u => none) (fun _ => True) (fun u => [(a, .inr (3, [.ref u.1, .ref u.2.1, .ref u.2.2.1, .ref u.2.2.2.1, .ref u.2.2.2.2, .int 0])), (u.1, .inl (E 1, 576, .inr (.inl (fun _ => 0)))), (u.2.1, .inl (E 0, 576, .inl (fun _ => 0))), (u.2.2.1, .inl (E 0, 576, .inl (fun _ => 0))), (u.2.2.2.1, .inl (E 0, 576, .inl (fun _ => 0))), (u.2.2.2.2, .inl (E 3, 24, .inl (fun _ => 0)))]) := by
  refine KM.of (by decide) (Nat.le_of_ble_eq_true rfl) ?_
  intro p e s m below meth c A ls hx hb hr hts hml hown hlocks hnm hK hP hD hA hS hZ hl
  have hown : s.vm.findClass RX3 = some m.cls := hown
  have hl : lv_has ls 1 [(0, .ref a)] := hl
  refine lv_aload_n hx hb dX3_init_0 rfl (lv_at hl 0 rfl) ?_
  refine W.objInit hx hb hown (hts _ b_140) (hts _ b_oi) (hts _ b_oc) rfl (by rw [hml]; exact hl.1) rfl dX3_init_1 (by decide) (Nat.le_of_ble_eq_true rfl) ?_
  refine W.eq (g2 := F0 m 4 ls []) rfl ?_
  refine lv_aload_n hx hb dX3_init_4 rfl (lv_at hl 0 rfl) ?_
  refine lv_sipush (v := 576) hx hb dX3_init_5 (by decide) ?_
  refine k_newa (E := E) 1 (N9 := 576) hx hb (hts _ b_179) (by rfl) rfl rfl hK hP hD hS hA (a0 := (576, .inr (.inl (fun _ => 0)))) (fun _ => rfl) (by decide) (by decide) (by decide) (by decide) (by decide) dX3_init_8 (fun q1 H hP hD hS => ?_)
  refine W.widen (k := 1) (n := 576) (by decide) (by decide) ?_
  have hP : va_P D k_cl [(a, .inr (3, [.null, .null, .null, .null, .null, .int 0])), (q1, .inl (E 1, 576, .inr (.inl (fun _ => 0))))] H := hP
  have hD : va_D A [(a, .inr (3, [.null, .null, .null, .null, .null, .int 0])), (q1, .inl (E 1, 576, .inr (.inl (fun _ => 0))))] := hD
  refine va_putF (D := D) (ci := 3) (v := .ref q1) (ty := (.array .long)) (C := RX3) (T := TX3) (N := 6) hx hb hts inX3 tyX3 tyX3_ok nmX3 hown hK hP hD hS 0 rfl rfl 0 (by decide) (hts _ b_141) (fun _ h9 => h9) rfl hnm rfl (by decide +kernel) rfl rfl (Nat.le_of_ble_eq_true rfl) dX3_init_10 (fun H locs hP hD hS => ?_)
  have hP : va_P D k_cl [(a, .inr (3, [.ref q1, .null, .null, .null, .null, .int 0])), (q1, .inl (E 1, 576, .inr (.inl (fun _ => 0))))] H := hP
  have hD : va_D A [(a, .inr (3, [.ref q1, .null, .null, .null, .null, .int 0])), (q1, .inl (E 1, 576, .inr (.inl (fun _ => 0))))] := hD
  refine lv_aload_n hx hb dX3_init_13 rfl (lv_at hl 0 rfl) ?_
  refine lv_sipush (v := 576) hx hb dX3_init_14 (by decide) ?_
  refine k_newa (E := E) 0 (N9 := 576) hx hb (hts _ b_178) (by rfl) rfl rfl hK hP hD hS hA (a0 := (576, .inl (fun _ => 0))) (fun _ => rfl) (by decide) (by decide) (by decide) (by decide) (by decide) dX3_init_17 (fun q2 H hP hD hS => ?_)
  refine W.widen (k := 2) (n := 1152) (by decide) (by decide) ?_
  have hP : va_P D k_cl [(a, .inr (3, [.ref q1, .null, .null, .null, .null, .int 0])), (q1, .inl (E 1, 576, .inr (.inl (fun _ => 0)))), (q2, .inl (E 0, 576, .inl (fun _ => 0)))] H := hP
  have hD : va_D A [(a, .inr (3, [.ref q1, .null, .null, .null, .null, .int 0])), (q1, .inl (E 1, 576, .inr (.inl (fun _ => 0)))), (q2, .inl (E 0, 576, .inl (fun _ => 0)))] := hD
  refine va_putF (D := D) (ci := 3) (v := .ref q2) (ty := (.array .int)) (C := RX3) (T := TX3) (N := 6) hx hb hts inX3 tyX3 tyX3_ok nmX3 hown hK hP hD hS 0 rfl rfl 1 (by decide) (hts _ b_146) (fun _ h9 => h9) rfl hnm rfl (by decide +kernel) rfl rfl (Nat.le_of_ble_eq_true rfl) dX3_init_19 (fun H locs hP hD hS => ?_)
  have hP : va_P D k_cl [(a, .inr (3, [.ref q1, .ref q2, .null, .null, .null, .int 0])), (q1, .inl (E 1, 576, .inr (.inl (fun _ => 0)))), (q2, .inl (E 0, 576, .inl (fun _ => 0)))] H := hP
  have hD : va_D A [(a, .inr (3, [.ref q1, .ref q2, .null, .null, .null, .int 0])), (q1, .inl (E 1, 576, .inr (.inl (fun _ => 0)))), (q2, .inl (E 0, 576, .inl (fun _ => 0)))] := hD
  refine lv_aload_n hx hb dX3_init_22 rfl (lv_at hl 0 rfl) ?_
  refine lv_sipush (v := 576) hx hb dX3_init_23 (by decide) ?_
  refine k_newa (E := E) 0 (N9 := 576) hx hb (hts _ b_178) (by rfl) rfl rfl hK hP hD hS hA (a0 := (576, .inl (fun _ => 0))) (fun _ => rfl) (by decide) (by decide) (by decide) (by decide) (by decide) dX3_init_26 (fun q3 H hP hD hS => ?_)
  refine W.widen (k := 3) (n := 1728) (by decide) (by decide) ?_
  have hP : va_P D k_cl [(a, .inr (3, [.ref q1, .ref q2, .null, .null, .null, .int 0])), (q1, .inl (E 1, 576, .inr (.inl (fun _ => 0)))), (q2, .inl (E 0, 576, .inl (fun _ => 0))), (q3, .inl (E 0, 576, .inl (fun _ => 0)))] H := hP
  have hD : va_D A [(a, .inr (3, [.ref q1, .ref q2, .null, .null, .null, .int 0])), (q1, .inl (E 1, 576, .inr (.inl (fun _ => 0)))), (q2, .inl (E 0, 576, .inl (fun _ => 0))), (q3, .inl (E 0, 576, .inl (fun _ => 0)))] := hD
  refine va_putF (D := D) (ci := 3) (v := .ref q3) (ty := (.array .int)) (C := RX3) (T := TX3) (N := 6) hx hb hts inX3 tyX3 tyX3_ok nmX3 hown hK hP hD hS 0 rfl rfl 2 (by decide) (hts _ b_151) (fun _ h9 => h9) rfl hnm rfl (by decide +kernel) rfl rfl (Nat.le_of_ble_eq_true rfl) dX3_init_28 (fun H locs hP hD hS => ?_)
  have hP : va_P D k_cl [(a, .inr (3, [.ref q1, .ref q2, .ref q3, .null, .null, .int 0])), (q1, .inl (E 1, 576, .inr (.inl (fun _ => 0)))), (q2, .inl (E 0, 576, .inl (fun _ => 0))), (q3, .inl (E 0, 576, .inl (fun _ => 0)))] H := hP
  have hD : va_D A [(a, .inr (3, [.ref q1, .ref q2, .ref q3, .null, .null, .int 0])), (q1, .inl (E 1, 576, .inr (.inl (fun _ => 0)))), (q2, .inl (E 0, 576, .inl (fun _ => 0))), (q3, .inl (E 0, 576, .inl (fun _ => 0)))] := hD
  refine lv_aload_n hx hb dX3_init_31 rfl (lv_at hl 0 rfl) ?_
  refine lv_sipush (v := 576) hx hb dX3_init_32 (by decide) ?_
  refine k_newa (E := E) 0 (N9 := 576) hx hb (hts _ b_178) (by rfl) rfl rfl hK hP hD hS hA (a0 := (576, .inl (fun _ => 0))) (fun _ => rfl) (by decide) (by decide) (by decide) (by decide) (by decide) dX3_init_35 (fun q4 H hP hD hS => ?_)
  refine W.widen (k := 4) (n := 2304) (by decide) (by decide) ?_
  have hP : va_P D k_cl [(a, .inr (3, [.ref q1, .ref q2, .ref q3, .null, .null, .int 0])), (q1, .inl (E 1, 576, .inr (.inl (fun _ => 0)))), (q2, .inl (E 0, 576, .inl (fun _ => 0))), (q3, .inl (E 0, 576, .inl (fun _ => 0))), (q4, .inl (E 0, 576, .inl (fun _ => 0)))] H := hP
  have hD : va_D A [(a, .inr (3, [.ref q1, .ref q2, .ref q3, .null, .null, .int 0])), (q1, .inl (E 1, 576, .inr (.inl (fun _ => 0)))), (q2, .inl (E 0, 576, .inl (fun _ => 0))), (q3, .inl (E 0, 576, .inl (fun _ => 0))), (q4, .inl (E 0, 576, .inl (fun _ => 0)))] := hD
  refine va_putF (D := D) (ci := 3) (v := .ref q4) (ty := (.array .int)) (C := RX3) (T := TX3) (N := 6) hx hb hts inX3 tyX3 tyX3_ok nmX3 hown hK hP hD hS 0 rfl rfl 3 (by decide) (hts _ b_154) (fun _ h9 => h9) rfl hnm rfl (by decide +kernel) rfl rfl (Nat.le_of_ble_eq_true rfl) dX3_init_37 (fun H locs hP hD hS => ?_)
  have hP : va_P D k_cl [(a, .inr (3, [.ref q1, .ref q2, .ref q3, .ref q4, .null, .int 0])), (q1, .inl (E 1, 576, .inr (.inl (fun _ => 0)))), (q2, .inl (E 0, 576, .inl (fun _ => 0))), (q3, .inl (E 0, 576, .inl (fun _ => 0))), (q4, .inl (E 0, 576, .inl (fun _ => 0)))] H := hP
  have hD : va_D A [(a, .inr (3, [.ref q1, .ref q2, .ref q3, .ref q4, .null, .int 0])), (q1, .inl (E 1, 576, .inr (.inl (fun _ => 0)))), (q2, .inl (E 0, 576, .inl (fun _ => 0))), (q3, .inl (E 0, 576, .inl (fun _ => 0))), (q4, .inl (E 0, 576, .inl (fun _ => 0)))] := hD
  refine lv_aload_n hx hb dX3_init_40 rfl (lv_at hl 0 rfl) ?_
  refine lv_bipush (v := 24) hx hb dX3_init_41 (by decide) ?_
  refine k_newa (E := E) 3 (N9 := 24) hx hb (hts _ b_180) (by rfl) rfl rfl hK hP hD hS hA (a0 := (24, .inl (fun _ => 0))) (fun _ => rfl) (by decide) (by decide) (by decide) (by decide) (by decide) dX3_init_43 (fun q5 H hP hD hS => ?_)
  refine W.widen (k := 5) (n := 2328) (by decide) (by decide) ?_
  have hP : va_P D k_cl [(a, .inr (3, [.ref q1, .ref q2, .ref q3, .ref q4, .null, .int 0])), (q1, .inl (E 1, 576, .inr (.inl (fun _ => 0)))), (q2, .inl (E 0, 576, .inl (fun _ => 0))), (q3, .inl (E 0, 576, .inl (fun _ => 0))), (q4, .inl (E 0, 576, .inl (fun _ => 0))), (q5, .inl (E 3, 24, .inl (fun _ => 0)))] H := hP
  have hD : va_D A [(a, .inr (3, [.ref q1, .ref q2, .ref q3, .ref q4, .null, .int 0])), (q1, .inl (E 1, 576, .inr (.inl (fun _ => 0)))), (q2, .inl (E 0, 576, .inl (fun _ => 0))), (q3, .inl (E 0, 576, .inl (fun _ => 0))), (q4, .inl (E 0, 576, .inl (fun _ => 0))), (q5, .inl (E 3, 24, .inl (fun _ => 0)))] := hD
  refine va_putF (D := D) (ci := 3) (v := .ref q5) (ty := (.array .boolean)) (C := RX3) (T := TX3) (N := 6) hx hb hts inX3 tyX3 tyX3_ok nmX3 hown hK hP hD hS 0 rfl rfl 4 (by decide) (hts _ b_157) (fun _ h9 => h9) rfl hnm rfl (by decide +kernel) rfl rfl (Nat.le_of_ble_eq_true rfl) dX3_init_45 (fun H locs hP hD hS => ?_)
  have hP : va_P D k_cl [(a, .inr (3, [.ref q1, .ref q2, .ref q3, .ref q4, .ref q5, .int 0])), (q1, .inl (E 1, 576, .inr (.inl (fun _ => 0)))), (q2, .inl (E 0, 576, .inl (fun _ => 0))), (q3, .inl (E 0, 576, .inl (fun _ => 0))), (q4, .inl (E 0, 576, .inl (fun _ => 0))), (q5, .inl (E 3, 24, .inl (fun _ => 0)))] H := hP
  have hD : va_D A [(a, .inr (3, [.ref q1, .ref q2, .ref q3, .ref q4, .ref q5, .int 0])), (q1, .inl (E 1, 576, .inr (.inl (fun _ => 0)))), (q2, .inl (E 0, 576, .inl (fun _ => 0))), (q3, .inl (E 0, 576, .inl (fun _ => 0))), (q4, .inl (E 0, 576, .inl (fun _ => 0))), (q5, .inl (E 3, 24, .inl (fun _ => 0)))] := hD
  refine lv_aload_n hx hb dX3_init_48 rfl (lv_at hl 0 rfl) ?_
  refine lv_iconst (v := 0) hx hb dX3_init_49 (by decide) ?_
  refine va_put (D := D) (ci := 3) (v := .int 0) (ty := .int) (C := RX3) (T := TX3) (N := 6) hx hb hts inX3 tyX3 tyX3_ok nmX3 hown hK hP hD hS 0 rfl rfl 5 (by decide) (hts _ b_160) (fun _ h9 => h9) rfl (by decide +kernel) rfl rfl (Nat.le_of_ble_eq_true rfl) dX3_init_50 (fun H locs hP hD hS => ?_)
  have hP : va_P D k_cl [(a, .inr (3, [.ref q1, .ref q2, .ref q3, .ref q4, .ref q5, .int 0])), (q1, .inl (E 1, 576, .inr (.inl (fun _ => 0)))), (q2, .inl (E 0, 576, .inl (fun _ => 0))), (q3, .inl (E 0, 576, .inl (fun _ => 0))), (q4, .inl (E 0, 576, .inl (fun _ => 0))), (q5, .inl (E 3, 24, .inl (fun _ => 0)))] H := hP
  have hD : va_D A [(a, .inr (3, [.ref q1, .ref q2, .ref q3, .ref q4, .ref q5, .int 0])), (q1, .inl (E 1, 576, .inr (.inl (fun _ => 0)))), (q2, .inl (E 0, 576, .inl (fun _ => 0))), (q3, .inl (E 0, 576, .inl (fun _ => 0))), (q4, .inl (E 0, 576, .inl (fun _ => 0))), (q5, .inl (E 3, 24, .inl (fun _ => 0)))] := hD
  exact m_v ⟨q1, q2, q3, q4, q5⟩ hx hb hr hlocks rfl trivial (hP.sub [0, 1, 2, 3, 4, 5] rfl) (hD.sub [0, 1, 2, 3, 4, 5] (by decide) rfl) hS (by decide) (by decide) dX3_init_53
set_option maxRecDepth 20000 in
set_option maxHeartbeats 2000000 in
theorem i_Ways (l : Launch) (D : va_G) (E : Nat → ClassId) (sa : Nat → Nat) (a : Nat) : KM l yX8_init (.code yX8_init cX8_init 1 none) 12 400 4 96 D E sa [.ref a] [(a, .inr (8, [.null, .null, .null, .int 0, .null]))] (S := Unit) (fun _ => none) (fun _ => True) (fun _ => []) := by
  refine KM.of (by decide) (Nat.le_of_ble_eq_true rfl) ?_
  intro p e s m below meth c A ls hx hb hr hts hml hown hlocks hnm hK hP hD hA hS hZ hl
  have hown : s.vm.findClass RX8 = some m.cls := hown
  have hl : lv_has ls 1 [(0, .ref a)] := hl
  refine lv_aload_n hx hb dX8_init_0 rfl (lv_at hl 0 rfl) ?_
  refine W.objInit hx hb hown (hts _ b_268) (hts _ b_oi) (hts _ b_oc) rfl (by rw [hml]; exact hl.1) rfl dX8_init_1 (by decide) (Nat.le_of_ble_eq_true rfl) ?_
  refine W.eq (g2 := F0 m 4 ls []) rfl ?_
  refine lv_aload_n hx hb dX8_init_4 rfl (lv_at hl 0 rfl) ?_
  refine lv_bipush (v := 24) hx hb dX8_init_5 (by decide) ?_
  refine k_newa (E := E) 1 (N9 := 24) hx hb (hts _ b_179) (by rfl) rfl rfl hK hP hD hS hA (a0 := (24, .inr (.inl (fun _ => 0)))) (fun _ => rfl) (by decide) (by decide) (by decide) (by decide) (by decide) dX8_init_7 (fun q1 H hP hD hS => ?_)
  refine W.widen (k := 1) (n := 24) (by decide) (by decide) ?_
  have hP : va_P D k_cl [(a, .inr (8, [.null, .null, .null, .int 0, .null])), (q1, .inl (E 1, 24, .inr (.inl (fun _ => 0))))] H := hP
  have hD : va_D A [(a, .inr (8, [.null, .null, .null, .int 0, .null])), (q1, .inl (E 1, 24, .inr (.inl (fun _ => 0))))] := hD
  refine va_putF (D := D) (ci := 8) (v := .ref q1) (ty := (.array .long)) (C := RX8) (T := TX8) (N := 5) hx hb hts inX8 tyX8 tyX8_ok nmX8 hown hK hP hD hS 0 rfl rfl 0 (by decide) (hts _ b_269) (fun _ h9 => h9) rfl hnm rfl (by decide +kernel) rfl rfl (Nat.le_of_ble_eq_true rfl) dX8_init_9 (fun H locs hP hD hS => ?_)
  have hP : va_P D k_cl [(a, .inr (8, [.ref q1, .null, .null, .int 0, .null])), (q1, .inl (E 1, 24, .inr (.inl (fun _ => 0))))] H := hP
  have hD : va_D A [(a, .inr (8, [.ref q1, .null, .null, .int 0, .null])), (q1, .inl (E 1, 24, .inr (.inl (fun _ => 0))))] := hD
  refine lv_aload_n hx hb dX8_init_12 rfl (lv_at hl 0 rfl) ?_
  refine lv_bipush (v := 24) hx hb dX8_init_13 (by decide) ?_
  refine k_newa (E := E) 0 (N9 := 24) hx hb (hts _ b_178) (by rfl) rfl rfl hK hP hD hS hA (a0 := (24, .inl (fun _ => 0))) (fun _ => rfl) (by decide) (by decide) (by decide) (by decide) (by decide) dX8_init_15 (fun q2 H hP hD hS => ?_)
  refine W.widen (k := 2) (n := 48) (by decide) (by decide) ?_
  have hP : va_P D k_cl [(a, .inr (8, [.ref q1, .null, .null, .int 0, .null])), (q1, .inl (E 1, 24, .inr (.inl (fun _ => 0)))), (q2, .inl (E 0, 24, .inl (fun _ => 0)))] H := hP
  have hD : va_D A [(a, .inr (8, [.ref q1, .null, .null, .int 0, .null])), (q1, .inl (E 1, 24, .inr (.inl (fun _ => 0)))), (q2, .inl (E 0, 24, .inl (fun _ => 0)))] := hD
  refine va_putF (D := D) (ci := 8) (v := .ref q2) (ty := (.array .int)) (C := RX8) (T := TX8) (N := 5) hx hb hts inX8 tyX8 tyX8_ok nmX8 hown hK hP hD hS 0 rfl rfl 1 (by decide) (hts _ b_273) (fun _ h9 => h9) rfl hnm rfl (by decide +kernel) rfl rfl (Nat.le_of_ble_eq_true rfl) dX8_init_17 (fun H locs hP hD hS => ?_)
  have hP : va_P D k_cl [(a, .inr (8, [.ref q1, .ref q2, .null, .int 0, .null])), (q1, .inl (E 1, 24, .inr (.inl (fun _ => 0)))), (q2, .inl (E 0, 24, .inl (fun _ => 0)))] H := hP
  have hD : va_D A [(a, .inr (8, [.ref q1, .ref q2, .null, .int 0, .null])), (q1, .inl (E 1, 24, .inr (.inl (fun _ => 0)))), (q2, .inl (E 0, 24, .inl (fun _ => 0)))] := hD
  refine lv_aload_n hx hb dX8_init_20 rfl (lv_at hl 0 rfl) ?_
  refine lv_bipush (v := 24) hx hb dX8_init_21 (by decide) ?_
  refine k_newa (E := E) 0 (N9 := 24) hx hb (hts _ b_178) (by rfl) rfl rfl hK hP hD hS hA (a0 := (24, .inl (fun _ => 0))) (fun _ => rfl) (by decide) (by decide) (by decide) (by decide) (by decide) dX8_init_23 (fun q3 H hP hD hS => ?_)
  refine W.widen (k := 3) (n := 72) (by decide) (by decide) ?_
  have hP : va_P D k_cl [(a, .inr (8, [.ref q1, .ref q2, .null, .int 0, .null])), (q1, .inl (E 1, 24, .inr (.inl (fun _ => 0)))), (q2, .inl (E 0, 24, .inl (fun _ => 0))), (q3, .inl (E 0, 24, .inl (fun _ => 0)))] H := hP
  have hD : va_D A [(a, .inr (8, [.ref q1, .ref q2, .null, .int 0, .null])), (q1, .inl (E 1, 24, .inr (.inl (fun _ => 0)))), (q2, .inl (E 0, 24, .inl (fun _ => 0))), (q3, .inl (E 0, 24, .inl (fun _ => 0)))] := hD
  refine va_putF (D := D) (ci := 8) (v := .ref q3) (ty := (.array .int)) (C := RX8) (T := TX8) (N := 5) hx hb hts inX8 tyX8 tyX8_ok nmX8 hown hK hP hD hS 0 rfl rfl 2 (by decide) (hts _ b_277) (fun _ h9 => h9) rfl hnm rfl (by decide +kernel) rfl rfl (Nat.le_of_ble_eq_true rfl) dX8_init_25 (fun H locs hP hD hS => ?_)
  have hP : va_P D k_cl [(a, .inr (8, [.ref q1, .ref q2, .ref q3, .int 0, .null])), (q1, .inl (E 1, 24, .inr (.inl (fun _ => 0)))), (q2, .inl (E 0, 24, .inl (fun _ => 0))), (q3, .inl (E 0, 24, .inl (fun _ => 0)))] H := hP
  have hD : va_D A [(a, .inr (8, [.ref q1, .ref q2, .ref q3, .int 0, .null])), (q1, .inl (E 1, 24, .inr (.inl (fun _ => 0)))), (q2, .inl (E 0, 24, .inl (fun _ => 0))), (q3, .inl (E 0, 24, .inl (fun _ => 0)))] := hD
  refine lv_aload_n hx hb dX8_init_28 rfl (lv_at hl 0 rfl) ?_
  refine lv_iconst (v := 0) hx hb dX8_init_29 (by decide) ?_
  refine va_put (D := D) (ci := 8) (v := .int 0) (ty := .int) (C := RX8) (T := TX8) (N := 5) hx hb hts inX8 tyX8 tyX8_ok nmX8 hown hK hP hD hS 0 rfl rfl 3 (by decide) (hts _ b_279) (fun _ h9 => h9) rfl (by decide +kernel) rfl rfl (Nat.le_of_ble_eq_true rfl) dX8_init_30 (fun H locs hP hD hS => ?_)
  have hP : va_P D k_cl [(a, .inr (8, [.ref q1, .ref q2, .ref q3, .int 0, .null])), (q1, .inl (E 1, 24, .inr (.inl (fun _ => 0)))), (q2, .inl (E 0, 24, .inl (fun _ => 0))), (q3, .inl (E 0, 24, .inl (fun _ => 0)))] H := hP
  have hD : va_D A [(a, .inr (8, [.ref q1, .ref q2, .ref q3, .int 0, .null])), (q1, .inl (E 1, 24, .inr (.inl (fun _ => 0)))), (q2, .inl (E 0, 24, .inl (fun _ => 0))), (q3, .inl (E 0, 24, .inl (fun _ => 0)))] := hD
  refine lv_aload_n hx hb dX8_init_33 rfl (lv_at hl 0 rfl) ?_
  refine lv_bipush (v := 24) hx hb dX8_init_34 (by decide) ?_
  refine k_newa (E := E) 3 (N9 := 24) hx hb (hts _ b_180) (by rfl) rfl rfl hK hP hD hS hA (a0 := (24, .inl (fun _ => 0))) (fun _ => rfl) (by decide) (by decide) (by decide) (by decide) (by decide) dX8_init_36 (fun q4 H hP hD hS => ?_)
  refine W.widen (k := 4) (n := 96) (by decide) (by decide) ?_
  have hP : va_P D k_cl [(a, .inr (8, [.ref q1, .ref q2, .ref q3, .int 0, .null])), (q1, .inl (E 1, 24, .inr (.inl (fun _ => 0)))), (q2, .inl (E 0, 24, .inl (fun _ => 0))), (q3, .inl (E 0, 24, .inl (fun _ => 0))), (q4, .inl (E 3, 24, .inl (fun _ => 0)))] H := hP
  have hD : va_D A [(a, .inr (8, [.ref q1, .ref q2, .ref q3, .int 0, .null])), (q1, .inl (E 1, 24, .inr (.inl (fun _ => 0)))), (q2, .inl (E 0, 24, .inl (fun _ => 0))), (q3, .inl (E 0, 24, .inl (fun _ => 0))), (q4, .inl (E 3, 24, .inl (fun _ => 0)))] := hD
  refine va_putF (D := D) (ci := 8) (v := .ref q4) (ty := (.array .boolean)) (C := RX8) (T := TX8) (N := 5) hx hb hts inX8 tyX8 tyX8_ok nmX8 hown hK hP hD hS 0 rfl rfl 4 (by decide) (hts _ b_281) (fun _ h9 => h9) rfl hnm rfl (by decide +kernel) rfl rfl (Nat.le_of_ble_eq_true rfl) dX8_init_38 (fun H locs hP hD hS => ?_)
  have hP : va_P D k_cl [(a, .inr (8, [.ref q1, .ref q2, .ref q3, .int 0, .ref q4])), (q1, .inl (E 1, 24, .inr (.inl (fun _ => 0)))), (q2, .inl (E 0, 24, .inl (fun _ => 0))), (q3, .inl (E 0, 24, .inl (fun _ => 0))), (q4, .inl (E 3, 24, .inl (fun _ => 0)))] H := hP
  have hD : va_D A [(a, .inr (8, [.ref q1, .ref q2, .ref q3, .int 0, .ref q4])), (q1, .inl (E 1, 24, .inr (.inl (fun _ => 0)))), (q2, .inl (E 0, 24, .inl (fun _ => 0))), (q3, .inl (E 0, 24, .inl (fun _ => 0))), (q4, .inl (E 3, 24, .inl (fun _ => 0)))] := hD
  exact m_v () hx hb hr hlocks rfl trivial (hP.sub [] rfl) (hD.sub [] (by decide) rfl) hS (by decide) (by decide) dX8_init_41
set_option maxRecDepth 20000 in
set_option maxHeartbeats 2000000 in
theorem i_Trail (l : Launch) (D : va_G) (E : Nat → ClassId) (sa : Nat → Nat) (a : Nat) : KM l yX7_init (.code yX7_init cX7_init 1 none) 12 400 4 168 D E sa [.ref a] [(a, .inr (7, [.null, .null, .null, .int 0, .null]))] (S := Nat × Nat × Nat × Nat) (fun u => none) (fun _ => True) (fun u => [(a, .inr (7, [.ref u.1, .ref u.2.1, .ref u.2.2.1, .int 0, .ref u.2.2.2]))]) := by
  refine KM.of (by decide) (Nat.le_of_ble_eq_true rfl) ?_
  intro p e s m below meth c A ls hx hb hr hts hml hown hlocks hnm hK hP hD hA hS hZ hl
  have hown : s.vm.findClass RX7 = some m.cls := hown
  have hl : lv_has ls 1 [(0, .ref a)] := hl
  refine lv_aload_n hx hb dX7_init_0 rfl (lv_at hl 0 rfl) ?_
  refine W.objInit hx hb hown (hts _ b_298) (hts _ b_oi) (hts _ b_oc) rfl (by rw [hml]; exact hl.1) rfl dX7_init_1 (by decide) (Nat.le_of_ble_eq_true rfl) ?_
  refine W.eq (g2 := F0 m 4 ls []) rfl ?_
  refine lv_aload_n hx hb dX7_init_4 rfl (lv_at hl 0 rfl) ?_
  refine lv_bipush (v := 48) hx hb dX7_init_5 (by decide) ?_
  refine k_newa (E := E) 0 (N9 := 48) hx hb (hts _ b_178) (by rfl) rfl rfl hK hP hD hS hA (a0 := (48, .inl (fun _ => 0))) (fun _ => rfl) (by decide) (by decide) (by decide) (by decide) (by decide) dX7_init_7 (fun q1 H hP hD hS => ?_)
  refine W.widen (k := 1) (n := 48) (by decide) (by decide) ?_
  have hP : va_P D k_cl [(a, .inr (7, [.null, .null, .null, .int 0, .null])), (q1, .inl (E 0, 48, .inl (fun _ => 0)))] H := hP
  have hD : va_D A [(a, .inr (7, [.null, .null, .null, .int 0, .null])), (q1, .inl (E 0, 48, .inl (fun _ => 0)))] := hD
  refine va_putF (D := D) (ci := 7) (v := .ref q1) (ty := (.array .int)) (C := RX7) (T := TX7) (N := 5) hx hb hts inX7 tyX7 tyX7_ok nmX7 hown hK hP hD hS 0 rfl rfl 0 (by decide) (hts _ b_299) (fun _ h9 => h9) rfl hnm rfl (by decide +kernel) rfl rfl (Nat.le_of_ble_eq_true rfl) dX7_init_9 (fun H locs hP hD hS => ?_)
  have hP : va_P D k_cl [(a, .inr (7, [.ref q1, .null, .null, .int 0, .null])), (q1, .inl (E 0, 48, .inl (fun _ => 0)))] H := hP
  have hD : va_D A [(a, .inr (7, [.ref q1, .null, .null, .int 0, .null])), (q1, .inl (E 0, 48, .inl (fun _ => 0)))] := hD
  refine lv_aload_n hx hb dX7_init_12 rfl (lv_at hl 0 rfl) ?_
  refine lv_bipush (v := 48) hx hb dX7_init_13 (by decide) ?_
  refine k_newa (E := E) 1 (N9 := 48) hx hb (hts _ b_179) (by rfl) rfl rfl hK hP hD hS hA (a0 := (48, .inr (.inl (fun _ => 0)))) (fun _ => rfl) (by decide) (by decide) (by decide) (by decide) (by decide) dX7_init_15 (fun q2 H hP hD hS => ?_)
  refine W.widen (k := 2) (n := 96) (by decide) (by decide) ?_
  have hP : va_P D k_cl [(a, .inr (7, [.ref q1, .null, .null, .int 0, .null])), (q1, .inl (E 0, 48, .inl (fun _ => 0))), (q2, .inl (E 1, 48, .inr (.inl (fun _ => 0))))] H := hP
  have hD : va_D A [(a, .inr (7, [.ref q1, .null, .null, .int 0, .null])), (q1, .inl (E 0, 48, .inl (fun _ => 0))), (q2, .inl (E 1, 48, .inr (.inl (fun _ => 0))))] := hD
  refine va_putF (D := D) (ci := 7) (v := .ref q2) (ty := (.array .long)) (C := RX7) (T := TX7) (N := 5) hx hb hts inX7 tyX7 tyX7_ok nmX7 hown hK hP hD hS 0 rfl rfl 1 (by decide) (hts _ b_301) (fun _ h9 => h9) rfl hnm rfl (by decide +kernel) rfl rfl (Nat.le_of_ble_eq_true rfl) dX7_init_17 (fun H locs hP hD hS => ?_)
  have hP : va_P D k_cl [(a, .inr (7, [.ref q1, .ref q2, .null, .int 0, .null])), (q1, .inl (E 0, 48, .inl (fun _ => 0))), (q2, .inl (E 1, 48, .inr (.inl (fun _ => 0))))] H := hP
  have hD : va_D A [(a, .inr (7, [.ref q1, .ref q2, .null, .int 0, .null])), (q1, .inl (E 0, 48, .inl (fun _ => 0))), (q2, .inl (E 1, 48, .inr (.inl (fun _ => 0))))] := hD
  refine lv_aload_n hx hb dX7_init_20 rfl (lv_at hl 0 rfl) ?_
  refine lv_bipush (v := 48) hx hb dX7_init_21 (by decide) ?_
  refine k_newa (E := E) 0 (N9 := 48) hx hb (hts _ b_178) (by rfl) rfl rfl hK hP hD hS hA (a0 := (48, .inl (fun _ => 0))) (fun _ => rfl) (by decide) (by decide) (by decide) (by decide) (by decide) dX7_init_23 (fun q3 H hP hD hS => ?_)
  refine W.widen (k := 3) (n := 144) (by decide) (by decide) ?_
  have hP : va_P D k_cl [(a, .inr (7, [.ref q1, .ref q2, .null, .int 0, .null])), (q1, .inl (E 0, 48, .inl (fun _ => 0))), (q2, .inl (E 1, 48, .inr (.inl (fun _ => 0)))), (q3, .inl (E 0, 48, .inl (fun _ => 0)))] H := hP
  have hD : va_D A [(a, .inr (7, [.ref q1, .ref q2, .null, .int 0, .null])), (q1, .inl (E 0, 48, .inl (fun _ => 0))), (q2, .inl (E 1, 48, .inr (.inl (fun _ => 0)))), (q3, .inl (E 0, 48, .inl (fun _ => 0)))] := hD
  refine va_putF (D := D) (ci := 7) (v := .ref q3) (ty := (.array .int)) (C := RX7) (T := TX7) (N := 5) hx hb hts inX7 tyX7 tyX7_ok nmX7 hown hK hP hD hS 0 rfl rfl 2 (by decide) (hts _ b_303) (fun _ h9 => h9) rfl hnm rfl (by decide +kernel) rfl rfl (Nat.le_of_ble_eq_true rfl) dX7_init_25 (fun H locs hP hD hS => ?_)
  have hP : va_P D k_cl [(a, .inr (7, [.ref q1, .ref q2, .ref q3, .int 0, .null])), (q1, .inl (E 0, 48, .inl (fun _ => 0))), (q2, .inl (E 1, 48, .inr (.inl (fun _ => 0)))), (q3, .inl (E 0, 48, .inl (fun _ => 0)))] H := hP
  have hD : va_D A [(a, .inr (7, [.ref q1, .ref q2, .ref q3, .int 0, .null])), (q1, .inl (E 0, 48, .inl (fun _ => 0))), (q2, .inl (E 1, 48, .inr (.inl (fun _ => 0)))), (q3, .inl (E 0, 48, .inl (fun _ => 0)))] := hD
  refine lv_aload_n hx hb dX7_init_28 rfl (lv_at hl 0 rfl) ?_
  refine lv_iconst (v := 0) hx hb dX7_init_29 (by decide) ?_
  refine va_put (D := D) (ci := 7) (v := .int 0) (ty := .int) (C := RX7) (T := TX7) (N := 5) hx hb hts inX7 tyX7 tyX7_ok nmX7 hown hK hP hD hS 0 rfl rfl 3 (by decide) (hts _ b_305) (fun _ h9 => h9) rfl (by decide +kernel) rfl rfl (Nat.le_of_ble_eq_true rfl) dX7_init_30 (fun H locs hP hD hS => ?_)
  have hP : va_P D k_cl [(a, .inr (7, [.ref q1, .ref q2, .ref q3, .int 0, .null])), (q1, .inl (E 0, 48, .inl (fun _ => 0))), (q2, .inl (E 1, 48, .inr (.inl (fun _ => 0)))), (q3, .inl (E 0, 48, .inl (fun _ => 0)))] H := hP
  have hD : va_D A [(a, .inr (7, [.ref q1, .ref q2, .ref q3, .int 0, .null])), (q1, .inl (E 0, 48, .inl (fun _ => 0))), (q2, .inl (E 1, 48, .inr (.inl (fun _ => 0)))), (q3, .inl (E 0, 48, .inl (fun _ => 0)))] := hD
  refine lv_aload_n hx hb dX7_init_33 rfl (lv_at hl 0 rfl) ?_
  refine lv_bipush (v := 24) hx hb dX7_init_34 (by decide) ?_
  refine k_newa (E := E) 0 (N9 := 24) hx hb (hts _ b_178) (by rfl) rfl rfl hK hP hD hS hA (a0 := (24, .inl (fun _ => 0))) (fun _ => rfl) (by decide) (by decide) (by decide) (by decide) (by decide) dX7_init_36 (fun q4 H hP hD hS => ?_)
  refine W.widen (k := 4) (n := 168) (by decide) (by decide) ?_
  have hP : va_P D k_cl [(a, .inr (7, [.ref q1, .ref q2, .ref q3, .int 0, .null])), (q1, .inl (E 0, 48, .inl (fun _ => 0))), (q2, .inl (E 1, 48, .inr (.inl (fun _ => 0)))), (q3, .inl (E 0, 48, .inl (fun _ => 0))), (q4, .inl (E 0, 24, .inl (fun _ => 0)))] H := hP
  have hD : va_D A [(a, .inr (7, [.ref q1, .ref q2, .ref q3, .int 0, .null])), (q1, .inl (E 0, 48, .inl (fun _ => 0))), (q2, .inl (E 1, 48, .inr (.inl (fun _ => 0)))), (q3, .inl (E 0, 48, .inl (fun _ => 0))), (q4, .inl (E 0, 24, .inl (fun _ => 0)))] := hD
  refine va_putF (D := D) (ci := 7) (v := .ref q4) (ty := (.array .int)) (C := RX7) (T := TX7) (N := 5) hx hb hts inX7 tyX7 tyX7_ok nmX7 hown hK hP hD hS 0 rfl rfl 4 (by decide) (hts _ b_307) (fun _ h9 => h9) rfl hnm rfl (by decide +kernel) rfl rfl (Nat.le_of_ble_eq_true rfl) dX7_init_38 (fun H locs hP hD hS => ?_)
  have hP : va_P D k_cl [(a, .inr (7, [.ref q1, .ref q2, .ref q3, .int 0, .ref q4])), (q1, .inl (E 0, 48, .inl (fun _ => 0))), (q2, .inl (E 1, 48, .inr (.inl (fun _ => 0)))), (q3, .inl (E 0, 48, .inl (fun _ => 0))), (q4, .inl (E 0, 24, .inl (fun _ => 0)))] H := hP
  have hD : va_D A [(a, .inr (7, [.ref q1, .ref q2, .ref q3, .int 0, .ref q4])), (q1, .inl (E 0, 48, .inl (fun _ => 0))), (q2, .inl (E 1, 48, .inr (.inl (fun _ => 0)))), (q3, .inl (E 0, 48, .inl (fun _ => 0))), (q4, .inl (E 0, 24, .inl (fun _ => 0)))] := hD
  exact m_v ⟨q1, q2, q3, q4⟩ hx hb hr hlocks rfl trivial (hP.sub [0] rfl) (hD.sub [0] (by decide) rfl) hS (by decide) (by decide) dX7_init_41
set_option maxRecDepth 20000 in
set_option maxHeartbeats 2000000 in
theorem i_Reader (l : Launch) (D : va_G) (E : Nat → ClassId) (sa : Nat → Nat) (a : Nat) (t : Nat) (g : Nat) : KM l yX4_init (.code yX4_init cX4_init 3 none) 12 400 0 0 D E sa [.ref a, .ref t, .ref g] [(a, .inr (4, [.null, .null, .int 0, .int 0, .int 0, .int 0, .int 0, .int 0, .long 0]))] (S := Unit) (fun _ => none) (fun _ => True) (fun _ => [(a, .inr (4, [.ref t, .ref g, .int 0, .int 0, .int 0, .int (-1), .int 0, .int 0, .long 0]))]) := by
  refine KM.of (by decide) (Nat.le_of_ble_eq_true rfl) ?_
  intro p e s m below meth c A ls hx hb hr hts hml hown hlocks hnm hK hP hD hA hS hZ hl
  have hown : s.vm.findClass RX4 = some m.cls := hown
  have hl : lv_has ls 3 [(0, .ref a), (1, .ref t), (2, .ref g)] := hl
  refine lv_aload_n hx hb dX4_init_0 rfl (lv_at hl 0 rfl) ?_
  refine W.objInit hx hb hown (hts _ b_230) (hts _ b_oi) (hts _ b_oc) rfl (by rw [hml]; exact hl.1) rfl dX4_init_1 (by decide) (Nat.le_of_ble_eq_true rfl) ?_
  refine W.eq (g2 := F0 m 4 ls []) rfl ?_
  refine lv_aload_n hx hb dX4_init_4 rfl (lv_at hl 0 rfl) ?_
  refine lv_aload_n hx hb dX4_init_5 rfl (lv_at hl 1 rfl) ?_
  refine va_putF (D := D) (ci := 4) (v := .ref t) (ty := (.object "RoutePlanner$Tape")) (C := RX4) (T := TX4) (N := 9) hx hb hts inX4 tyX4 tyX4_ok nmX4 hown hK hP hD hS 0 rfl rfl 0 (by decide) (hts _ b_231) (fun _ h9 => h9) rfl hnm rfl (by decide +kernel) rfl rfl (Nat.le_of_ble_eq_true rfl) dX4_init_6 (fun H locs hP hD hS => ?_)
  have hP : va_P D k_cl [(a, .inr (4, [.ref t, .null, .int 0, .int 0, .int 0, .int 0, .int 0, .int 0, .long 0]))] H := hP
  have hD : va_D A [(a, .inr (4, [.ref t, .null, .int 0, .int 0, .int 0, .int 0, .int 0, .int 0, .long 0]))] := hD
  refine lv_aload_n hx hb dX4_init_9 rfl (lv_at hl 0 rfl) ?_
  refine lv_aload_n hx hb dX4_init_10 rfl (lv_at hl 2 rfl) ?_
  refine va_putF (D := D) (ci := 4) (v := .ref g) (ty := (.object "RoutePlanner$Graph")) (C := RX4) (T := TX4) (N := 9) hx hb hts inX4 tyX4 tyX4_ok nmX4 hown hK hP hD hS 0 rfl rfl 1 (by decide) (hts _ b_232) (fun _ h9 => h9) rfl hnm rfl (by decide +kernel) rfl rfl (Nat.le_of_ble_eq_true rfl) dX4_init_11 (fun H locs hP hD hS => ?_)
  have hP : va_P D k_cl [(a, .inr (4, [.ref t, .ref g, .int 0, .int 0, .int 0, .int 0, .int 0, .int 0, .long 0]))] H := hP
  have hD : va_D A [(a, .inr (4, [.ref t, .ref g, .int 0, .int 0, .int 0, .int 0, .int 0, .int 0, .long 0]))] := hD
  refine lv_aload_n hx hb dX4_init_14 rfl (lv_at hl 0 rfl) ?_
  refine lv_iconst (v := -1) hx hb dX4_init_15 (by decide) ?_
  refine va_put (D := D) (ci := 4) (v := .int (-1)) (ty := .int) (C := RX4) (T := TX4) (N := 9) hx hb hts inX4 tyX4 tyX4_ok nmX4 hown hK hP hD hS 0 rfl rfl 5 (by decide) (hts _ b_236) (fun _ h9 => h9) rfl (by decide +kernel) rfl rfl (Nat.le_of_ble_eq_true rfl) dX4_init_16 (fun H locs hP hD hS => ?_)
  have hP : va_P D k_cl [(a, .inr (4, [.ref t, .ref g, .int 0, .int 0, .int 0, .int (-1), .int 0, .int 0, .long 0]))] H := hP
  have hD : va_D A [(a, .inr (4, [.ref t, .ref g, .int 0, .int 0, .int 0, .int (-1), .int 0, .int 0, .long 0]))] := hD
  exact m_v () hx hb hr hlocks rfl trivial (hP.sub [0] rfl) (hD.sub [0] (by decide) rfl) hS (by decide) (by decide) dX4_init_19
set_option maxRecDepth 20000 in
set_option maxHeartbeats 2000000 in
theorem i_Graph (l : Launch) (D : va_G) (E : Nat → ClassId) (sa : Nat → Nat) (a : Nat) : KM l yX0_init (.code yX0_init cX0_init 1 none) 25 820 12 3306 D E sa [.ref a] [(a, .inr (0, [.null, .null, .null, .null, .null, .null, .null, .int 0, .int 0, .long 0]))] (S := Nat × Nat × Nat × Nat × Nat × Nat × Nat × Nat × Nat × Nat × Nat × Nat) (fun u => none) (fun _ => True) (fun u => [(a, .inr (0, [.ref u.1, .ref u.2.1, .ref u.2.2.1, .ref u.2.2.2.1, .ref u.2.2.2.2.1, .ref u.2.2.2.2.2.1, .ref u.2.2.2.2.2.2.1, .int 0, .int 0, .long 0])), (u.1, .inl (E 0, 24, .inl (fun _ => 0))), (u.2.1, .inl (E 0, 24, .inl (fun _ => 0))), (u.2.2.1, .inl (E 1, 24, .inr (.inl (fun _ => 0)))), (u.2.2.2.2.2.2.1, .inr (3, [.ref u.2.2.2.2.2.2.2.1, .ref u.2.2.2.2.2.2.2.2.1, .ref u.2.2.2.2.2.2.2.2.2.1, .ref u.2.2.2.2.2.2.2.2.2.2.1, .ref u.2.2.2.2.2.2.2.2.2.2.2, .int 0])), (u.2.2.2.2.2.2.2.1, .inl (E 1, 576, .inr (.inl (fun _ => 0)))), (u.2.2.2.2.2.2.2.2.1, .inl (E 0, 576, .inl (fun _ => 0))), (u.2.2.2.2.2.2.2.2.2.1, .inl (E 0, 576, .inl (fun _ => 0))), (u.2.2.2.2.2.2.2.2.2.2.1, .inl (E 0, 576, .inl (fun _ => 0))), (u.2.2.2.2.2.2.2.2.2.2.2, .inl (E 3, 24, .inl (fun _ => 0)))]) := by
  refine KM.of (by decide) (Nat.le_of_ble_eq_true rfl) ?_
  intro p e s m below meth c A ls hx hb hr hts hml hown hlocks hnm hK hP hD hA hS hZ hl
  have hown : s.vm.findClass RX0 = some m.cls := hown
  have hl : lv_has ls 1 [(0, .ref a)] := hl
  refine lv_aload_n hx hb dX0_init_0 rfl (lv_at hl 0 rfl) ?_
  refine W.objInit hx hb hown (hts _ b_134) (hts _ b_oi) (hts _ b_oc) rfl (by rw [hml]; exact hl.1) rfl dX0_init_1 (by decide) (Nat.le_of_ble_eq_true rfl) ?_
  refine W.eq (g2 := F0 m 4 ls []) rfl ?_
  refine lv_aload_n hx hb dX0_init_4 rfl (lv_at hl 0 rfl) ?_
  refine lv_bipush (v := 24) hx hb dX0_init_5 (by decide) ?_
  refine k_newa (E := E) 0 (N9 := 24) hx hb (hts _ b_178) (by rfl) rfl rfl hK hP hD hS hA (a0 := (24, .inl (fun _ => 0))) (fun _ => rfl) (by decide) (by decide) (by decide) (by decide) (by decide) dX0_init_7 (fun q1 H hP hD hS => ?_)
  refine W.widen (k := 1) (n := 24) (by decide) (by decide) ?_
  have hP : va_P D k_cl [(a, .inr (0, [.null, .null, .null, .null, .null, .null, .null, .int 0, .int 0, .long 0])), (q1, .inl (E 0, 24, .inl (fun _ => 0)))] H := hP
  have hD : va_D A [(a, .inr (0, [.null, .null, .null, .null, .null, .null, .null, .int 0, .int 0, .long 0])), (q1, .inl (E 0, 24, .inl (fun _ => 0)))] := hD
  refine va_putF (D := D) (ci := 0) (v := .ref q1) (ty := (.array .int)) (C := RX0) (T := TX0) (N := 10) hx hb hts inX0 tyX0 tyX0_ok nmX0 hown hK hP hD hS 0 rfl rfl 0 (by decide) (hts _ b_181) (fun _ h9 => h9) rfl hnm rfl (by decide +kernel) rfl rfl (Nat.le_of_ble_eq_true rfl) dX0_init_9 (fun H locs hP hD hS => ?_)
  have hP : va_P D k_cl [(a, .inr (0, [.ref q1, .null, .null, .null, .null, .null, .null, .int 0, .int 0, .long 0])), (q1, .inl (E 0, 24, .inl (fun _ => 0)))] H := hP
  have hD : va_D A [(a, .inr (0, [.ref q1, .null, .null, .null, .null, .null, .null, .int 0, .int 0, .long 0])), (q1, .inl (E 0, 24, .inl (fun _ => 0)))] := hD
  refine lv_aload_n hx hb dX0_init_12 rfl (lv_at hl 0 rfl) ?_
  refine lv_bipush (v := 24) hx hb dX0_init_13 (by decide) ?_
  refine k_newa (E := E) 0 (N9 := 24) hx hb (hts _ b_178) (by rfl) rfl rfl hK hP hD hS hA (a0 := (24, .inl (fun _ => 0))) (fun _ => rfl) (by decide) (by decide) (by decide) (by decide) (by decide) dX0_init_15 (fun q2 H hP hD hS => ?_)
  refine W.widen (k := 2) (n := 48) (by decide) (by decide) ?_
  have hP : va_P D k_cl [(a, .inr (0, [.ref q1, .null, .null, .null, .null, .null, .null, .int 0, .int 0, .long 0])), (q1, .inl (E 0, 24, .inl (fun _ => 0))), (q2, .inl (E 0, 24, .inl (fun _ => 0)))] H := hP
  have hD : va_D A [(a, .inr (0, [.ref q1, .null, .null, .null, .null, .null, .null, .int 0, .int 0, .long 0])), (q1, .inl (E 0, 24, .inl (fun _ => 0))), (q2, .inl (E 0, 24, .inl (fun _ => 0)))] := hD
  refine va_putF (D := D) (ci := 0) (v := .ref q2) (ty := (.array .int)) (C := RX0) (T := TX0) (N := 10) hx hb hts inX0 tyX0 tyX0_ok nmX0 hown hK hP hD hS 0 rfl rfl 1 (by decide) (hts _ b_183) (fun _ h9 => h9) rfl hnm rfl (by decide +kernel) rfl rfl (Nat.le_of_ble_eq_true rfl) dX0_init_17 (fun H locs hP hD hS => ?_)
  have hP : va_P D k_cl [(a, .inr (0, [.ref q1, .ref q2, .null, .null, .null, .null, .null, .int 0, .int 0, .long 0])), (q1, .inl (E 0, 24, .inl (fun _ => 0))), (q2, .inl (E 0, 24, .inl (fun _ => 0)))] H := hP
  have hD : va_D A [(a, .inr (0, [.ref q1, .ref q2, .null, .null, .null, .null, .null, .int 0, .int 0, .long 0])), (q1, .inl (E 0, 24, .inl (fun _ => 0))), (q2, .inl (E 0, 24, .inl (fun _ => 0)))] := hD
  refine lv_aload_n hx hb dX0_init_20 rfl (lv_at hl 0 rfl) ?_
  refine lv_bipush (v := 24) hx hb dX0_init_21 (by decide) ?_
  refine k_newa (E := E) 1 (N9 := 24) hx hb (hts _ b_179) (by rfl) rfl rfl hK hP hD hS hA (a0 := (24, .inr (.inl (fun _ => 0)))) (fun _ => rfl) (by decide) (by decide) (by decide) (by decide) (by decide) dX0_init_23 (fun q3 H hP hD hS => ?_)
  refine W.widen (k := 3) (n := 72) (by decide) (by decide) ?_
  have hP : va_P D k_cl [(a, .inr (0, [.ref q1, .ref q2, .null, .null, .null, .null, .null, .int 0, .int 0, .long 0])), (q1, .inl (E 0, 24, .inl (fun _ => 0))), (q2, .inl (E 0, 24, .inl (fun _ => 0))), (q3, .inl (E 1, 24, .inr (.inl (fun _ => 0))))] H := hP
  have hD : va_D A [(a, .inr (0, [.ref q1, .ref q2, .null, .null, .null, .null, .null, .int 0, .int 0, .long 0])), (q1, .inl (E 0, 24, .inl (fun _ => 0))), (q2, .inl (E 0, 24, .inl (fun _ => 0))), (q3, .inl (E 1, 24, .inr (.inl (fun _ => 0))))] := hD
  refine va_putF (D := D) (ci := 0) (v := .ref q3) (ty := (.array .long)) (C := RX0) (T := TX0) (N := 10) hx hb hts inX0 tyX0 tyX0_ok nmX0 hown hK hP hD hS 0 rfl rfl 2 (by decide) (hts _ b_185) (fun _ h9 => h9) rfl hnm rfl (by decide +kernel) rfl rfl (Nat.le_of_ble_eq_true rfl) dX0_init_25 (fun H locs hP hD hS => ?_)
  have hP : va_P D k_cl [(a, .inr (0, [.ref q1, .ref q2, .ref q3, .null, .null, .null, .null, .int 0, .int 0, .long 0])), (q1, .inl (E 0, 24, .inl (fun _ => 0))), (q2, .inl (E 0, 24, .inl (fun _ => 0))), (q3, .inl (E 1, 24, .inr (.inl (fun _ => 0))))] H := hP
  have hD : va_D A [(a, .inr (0, [.ref q1, .ref q2, .ref q3, .null, .null, .null, .null, .int 0, .int 0, .long 0])), (q1, .inl (E 0, 24, .inl (fun _ => 0))), (q2, .inl (E 0, 24, .inl (fun _ => 0))), (q3, .inl (E 1, 24, .inr (.inl (fun _ => 0))))] := hD
  refine lv_aload_n hx hb dX0_init_28 rfl (lv_at hl 0 rfl) ?_
  refine lv_sipush (v := 300) hx hb dX0_init_29 (by decide) ?_
  refine k_newa (E := E) 0 (N9 := 300) hx hb (hts _ b_178) (by rfl) rfl rfl hK hP hD hS hA (a0 := (300, .inl (fun _ => 0))) (fun _ => rfl) (by decide) (by decide) (by decide) (by decide) (by decide) dX0_init_32 (fun q4 H hP hD hS => ?_)
  refine W.widen (k := 4) (n := 372) (by decide) (by decide) ?_
  have hP : va_P D k_cl [(a, .inr (0, [.ref q1, .ref q2, .ref q3, .null, .null, .null, .null, .int 0, .int 0, .long 0])), (q1, .inl (E 0, 24, .inl (fun _ => 0))), (q2, .inl (E 0, 24, .inl (fun _ => 0))), (q3, .inl (E 1, 24, .inr (.inl (fun _ => 0)))), (q4, .inl (E 0, 300, .inl (fun _ => 0)))] H := hP
  have hD : va_D A [(a, .inr (0, [.ref q1, .ref q2, .ref q3, .null, .null, .null, .null, .int 0, .int 0, .long 0])), (q1, .inl (E 0, 24, .inl (fun _ => 0))), (q2, .inl (E 0, 24, .inl (fun _ => 0))), (q3, .inl (E 1, 24, .inr (.inl (fun _ => 0)))), (q4, .inl (E 0, 300, .inl (fun _ => 0)))] := hD
  refine va_putF (D := D) (ci := 0) (v := .ref q4) (ty := (.array .int)) (C := RX0) (T := TX0) (N := 10) hx hb hts inX0 tyX0 tyX0_ok nmX0 hown hK hP hD hS 0 rfl rfl 3 (by decide) (hts _ b_187) (fun _ h9 => h9) rfl hnm rfl (by decide +kernel) rfl rfl (Nat.le_of_ble_eq_true rfl) dX0_init_34 (fun H locs hP hD hS => ?_)
  have hP : va_P D k_cl [(a, .inr (0, [.ref q1, .ref q2, .ref q3, .ref q4, .null, .null, .null, .int 0, .int 0, .long 0])), (q1, .inl (E 0, 24, .inl (fun _ => 0))), (q2, .inl (E 0, 24, .inl (fun _ => 0))), (q3, .inl (E 1, 24, .inr (.inl (fun _ => 0)))), (q4, .inl (E 0, 300, .inl (fun _ => 0)))] H := hP
  have hD : va_D A [(a, .inr (0, [.ref q1, .ref q2, .ref q3, .ref q4, .null, .null, .null, .int 0, .int 0, .long 0])), (q1, .inl (E 0, 24, .inl (fun _ => 0))), (q2, .inl (E 0, 24, .inl (fun _ => 0))), (q3, .inl (E 1, 24, .inr (.inl (fun _ => 0)))), (q4, .inl (E 0, 300, .inl (fun _ => 0)))] := hD
  refine lv_aload_n hx hb dX0_init_37 rfl (lv_at hl 0 rfl) ?_
  refine lv_sipush (v := 300) hx hb dX0_init_38 (by decide) ?_
  refine k_newa (E := E) 0 (N9 := 300) hx hb (hts _ b_178) (by rfl) rfl rfl hK hP hD hS hA (a0 := (300, .inl (fun _ => 0))) (fun _ => rfl) (by decide) (by decide) (by decide) (by decide) (by decide) dX0_init_41 (fun q5 H hP hD hS => ?_)
  refine W.widen (k := 5) (n := 672) (by decide) (by decide) ?_
  have hP : va_P D k_cl [(a, .inr (0, [.ref q1, .ref q2, .ref q3, .ref q4, .null, .null, .null, .int 0, .int 0, .long 0])), (q1, .inl (E 0, 24, .inl (fun _ => 0))), (q2, .inl (E 0, 24, .inl (fun _ => 0))), (q3, .inl (E 1, 24, .inr (.inl (fun _ => 0)))), (q4, .inl (E 0, 300, .inl (fun _ => 0))), (q5, .inl (E 0, 300, .inl (fun _ => 0)))] H := hP
  have hD : va_D A [(a, .inr (0, [.ref q1, .ref q2, .ref q3, .ref q4, .null, .null, .null, .int 0, .int 0, .long 0])), (q1, .inl (E 0, 24, .inl (fun _ => 0))), (q2, .inl (E 0, 24, .inl (fun _ => 0))), (q3, .inl (E 1, 24, .inr (.inl (fun _ => 0)))), (q4, .inl (E 0, 300, .inl (fun _ => 0))), (q5, .inl (E 0, 300, .inl (fun _ => 0)))] := hD
  refine va_putF (D := D) (ci := 0) (v := .ref q5) (ty := (.array .int)) (C := RX0) (T := TX0) (N := 10) hx hb hts inX0 tyX0 tyX0_ok nmX0 hown hK hP hD hS 0 rfl rfl 4 (by decide) (hts _ b_189) (fun _ h9 => h9) rfl hnm rfl (by decide +kernel) rfl rfl (Nat.le_of_ble_eq_true rfl) dX0_init_43 (fun H locs hP hD hS => ?_)
  have hP : va_P D k_cl [(a, .inr (0, [.ref q1, .ref q2, .ref q3, .ref q4, .ref q5, .null, .null, .int 0, .int 0, .long 0])), (q1, .inl (E 0, 24, .inl (fun _ => 0))), (q2, .inl (E 0, 24, .inl (fun _ => 0))), (q3, .inl (E 1, 24, .inr (.inl (fun _ => 0)))), (q4, .inl (E 0, 300, .inl (fun _ => 0))), (q5, .inl (E 0, 300, .inl (fun _ => 0)))] H := hP
  have hD : va_D A [(a, .inr (0, [.ref q1, .ref q2, .ref q3, .ref q4, .ref q5, .null, .null, .int 0, .int 0, .long 0])), (q1, .inl (E 0, 24, .inl (fun _ => 0))), (q2, .inl (E 0, 24, .inl (fun _ => 0))), (q3, .inl (E 1, 24, .inr (.inl (fun _ => 0)))), (q4, .inl (E 0, 300, .inl (fun _ => 0))), (q5, .inl (E 0, 300, .inl (fun _ => 0)))] := hD
  refine lv_aload_n hx hb dX0_init_46 rfl (lv_at hl 0 rfl) ?_
  refine lv_sipush (v := 300) hx hb dX0_init_47 (by decide) ?_
  refine k_newa (E := E) 1 (N9 := 300) hx hb (hts _ b_179) (by rfl) rfl rfl hK hP hD hS hA (a0 := (300, .inr (.inl (fun _ => 0)))) (fun _ => rfl) (by decide) (by decide) (by decide) (by decide) (by decide) dX0_init_50 (fun q6 H hP hD hS => ?_)
  refine W.widen (k := 6) (n := 972) (by decide) (by decide) ?_
  have hP : va_P D k_cl [(a, .inr (0, [.ref q1, .ref q2, .ref q3, .ref q4, .ref q5, .null, .null, .int 0, .int 0, .long 0])), (q1, .inl (E 0, 24, .inl (fun _ => 0))), (q2, .inl (E 0, 24, .inl (fun _ => 0))), (q3, .inl (E 1, 24, .inr (.inl (fun _ => 0)))), (q4, .inl (E 0, 300, .inl (fun _ => 0))), (q5, .inl (E 0, 300, .inl (fun _ => 0))), (q6, .inl (E 1, 300, .inr (.inl (fun _ => 0))))] H := hP
  have hD : va_D A [(a, .inr (0, [.ref q1, .ref q2, .ref q3, .ref q4, .ref q5, .null, .null, .int 0, .int 0, .long 0])), (q1, .inl (E 0, 24, .inl (fun _ => 0))), (q2, .inl (E 0, 24, .inl (fun _ => 0))), (q3, .inl (E 1, 24, .inr (.inl (fun _ => 0)))), (q4, .inl (E 0, 300, .inl (fun _ => 0))), (q5, .inl (E 0, 300, .inl (fun _ => 0))), (q6, .inl (E 1, 300, .inr (.inl (fun _ => 0))))] := hD
  refine va_putF (D := D) (ci := 0) (v := .ref q6) (ty := (.array .long)) (C := RX0) (T := TX0) (N := 10) hx hb hts inX0 tyX0 tyX0_ok nmX0 hown hK hP hD hS 0 rfl rfl 5 (by decide) (hts _ b_191) (fun _ h9 => h9) rfl hnm rfl (by decide +kernel) rfl rfl (Nat.le_of_ble_eq_true rfl) dX0_init_52 (fun H locs hP hD hS => ?_)
  have hP : va_P D k_cl [(a, .inr (0, [.ref q1, .ref q2, .ref q3, .ref q4, .ref q5, .ref q6, .null, .int 0, .int 0, .long 0])), (q1, .inl (E 0, 24, .inl (fun _ => 0))), (q2, .inl (E 0, 24, .inl (fun _ => 0))), (q3, .inl (E 1, 24, .inr (.inl (fun _ => 0)))), (q4, .inl (E 0, 300, .inl (fun _ => 0))), (q5, .inl (E 0, 300, .inl (fun _ => 0))), (q6, .inl (E 1, 300, .inr (.inl (fun _ => 0))))] H := hP
  have hD : va_D A [(a, .inr (0, [.ref q1, .ref q2, .ref q3, .ref q4, .ref q5, .ref q6, .null, .int 0, .int 0, .long 0])), (q1, .inl (E 0, 24, .inl (fun _ => 0))), (q2, .inl (E 0, 24, .inl (fun _ => 0))), (q3, .inl (E 1, 24, .inr (.inl (fun _ => 0)))), (q4, .inl (E 0, 300, .inl (fun _ => 0))), (q5, .inl (E 0, 300, .inl (fun _ => 0))), (q6, .inl (E 1, 300, .inr (.inl (fun _ => 0))))] := hD
  refine lv_aload_n hx hb dX0_init_55 rfl (lv_at hl 0 rfl) ?_
  refine va_new (ci := 3) (fs := df0X3) (C := RX3) (T := TX3) (N := 6) hx hb hts inX3 tyX3 tyX3_ok hown (hts _ b_135) (hts _ b_136) (hts _ b_81) hK hP hD hS hA rfl dfX3 (by decide) (by decide) dX0_init_56 (fun q7 H hP hD hS => ?_)
  refine W.widen (k := 7) (n := 978) (by decide) (by decide) ?_
  have hP : va_P D k_cl [(a, .inr (0, [.ref q1, .ref q2, .ref q3, .ref q4, .ref q5, .ref q6, .null, .int 0, .int 0, .long 0])), (q1, .inl (E 0, 24, .inl (fun _ => 0))), (q2, .inl (E 0, 24, .inl (fun _ => 0))), (q3, .inl (E 1, 24, .inr (.inl (fun _ => 0)))), (q4, .inl (E 0, 300, .inl (fun _ => 0))), (q5, .inl (E 0, 300, .inl (fun _ => 0))), (q6, .inl (E 1, 300, .inr (.inl (fun _ => 0)))), (q7, .inr (3, [.null, .null, .null, .null, .null, .int 0]))] H := hP
  have hD : va_D A [(a, .inr (0, [.ref q1, .ref q2, .ref q3, .ref q4, .ref q5, .ref q6, .null, .int 0, .int 0, .long 0])), (q1, .inl (E 0, 24, .inl (fun _ => 0))), (q2, .inl (E 0, 24, .inl (fun _ => 0))), (q3, .inl (E 1, 24, .inr (.inl (fun _ => 0)))), (q4, .inl (E 0, 300, .inl (fun _ => 0))), (q5, .inl (E 0, 300, .inl (fun _ => 0))), (q6, .inl (E 1, 300, .inr (.inl (fun _ => 0)))), (q7, .inr (3, [.null, .null, .null, .null, .null, .int 0]))] := hD
  refine lv_dup hx hb dX0_init_59 rfl ?_
  refine k_MN (As := []) (rest := [.ref q7, .ref a])  (wr := [(a, .inr (0, [.ref q1, .ref q2, .ref q3, .ref q4, .ref q5, .ref q6, .null, .int 0, .int 0, .long 0])), (q1, .inl (E 0, 24, .inl (fun _ => 0))), (q2, .inl (E 0, 24, .inl (fun _ => 0))), (q3, .inl (E 1, 24, .inr (.inl (fun _ => 0)))), (q4, .inl (E 0, 300, .inl (fun _ => 0))), (q5, .inl (E 0, 300, .inl (fun _ => 0))), (q6, .inl (E 1, 300, .inr (.inl (fun _ => 0))))]) ⟨hx, hb, hml, hown, hts⟩ (i_Net l D E sa q7) (by decide) b_138 b_81 b_139 ⟨rfl, hd_X3_init⟩ ⟨⟨by decide, by decide⟩, by decide, by decide⟩ hK hP hD hS hA hZ [7] [0, 1, 2, 3, 4, 5, 6] rfl rfl (by decide) rfl hl.1 (Nat.le_of_ble_eq_true rfl) dX0_init_60 (fun u8 H locs hu hP hD hS _ => ?_)
  obtain ⟨n_lengths9, n_counts10, n_overs11, n_arcNumbers12, n_left13⟩ := u8
  refine W.widen (k := 12) (n := 3306) (by decide) (by decide) ?_
  have hP : va_P D k_cl [(a, .inr (0, [.ref q1, .ref q2, .ref q3, .ref q4, .ref q5, .ref q6, .null, .int 0, .int 0, .long 0])), (q1, .inl (E 0, 24, .inl (fun _ => 0))), (q2, .inl (E 0, 24, .inl (fun _ => 0))), (q3, .inl (E 1, 24, .inr (.inl (fun _ => 0)))), (q4, .inl (E 0, 300, .inl (fun _ => 0))), (q5, .inl (E 0, 300, .inl (fun _ => 0))), (q6, .inl (E 1, 300, .inr (.inl (fun _ => 0)))), (q7, .inr (3, [.ref n_lengths9, .ref n_counts10, .ref n_overs11, .ref n_arcNumbers12, .ref n_left13, .int 0])), (n_lengths9, .inl (E 1, 576, .inr (.inl (fun _ => 0)))), (n_counts10, .inl (E 0, 576, .inl (fun _ => 0))), (n_overs11, .inl (E 0, 576, .inl (fun _ => 0))), (n_arcNumbers12, .inl (E 0, 576, .inl (fun _ => 0))), (n_left13, .inl (E 3, 24, .inl (fun _ => 0)))] H := hP
  have hD : va_D A [(a, .inr (0, [.ref q1, .ref q2, .ref q3, .ref q4, .ref q5, .ref q6, .null, .int 0, .int 0, .long 0])), (q1, .inl (E 0, 24, .inl (fun _ => 0))), (q2, .inl (E 0, 24, .inl (fun _ => 0))), (q3, .inl (E 1, 24, .inr (.inl (fun _ => 0)))), (q4, .inl (E 0, 300, .inl (fun _ => 0))), (q5, .inl (E 0, 300, .inl (fun _ => 0))), (q6, .inl (E 1, 300, .inr (.inl (fun _ => 0)))), (q7, .inr (3, [.ref n_lengths9, .ref n_counts10, .ref n_overs11, .ref n_arcNumbers12, .ref n_left13, .int 0])), (n_lengths9, .inl (E 1, 576, .inr (.inl (fun _ => 0)))), (n_counts10, .inl (E 0, 576, .inl (fun _ => 0))), (n_overs11, .inl (E 0, 576, .inl (fun _ => 0))), (n_arcNumbers12, .inl (E 0, 576, .inl (fun _ => 0))), (n_left13, .inl (E 3, 24, .inl (fun _ => 0)))] := hD
  refine W.eq (g2 := F0 m 63 ls [.ref q7, .ref a]) rfl ?_
  refine va_putF (D := D) (ci := 0) (v := .ref q7) (ty := (.object "RoutePlanner$Net")) (C := RX0) (T := TX0) (N := 10) hx hb hts inX0 tyX0 tyX0_ok nmX0 hown hK hP hD hS 0 rfl rfl 6 (by decide) (hts _ b_193) (fun _ h9 => h9) rfl hnm rfl (by decide +kernel) rfl rfl (Nat.le_of_ble_eq_true rfl) dX0_init_63 (fun H locs hP hD hS => ?_)
  have hP : va_P D k_cl [(a, .inr (0, [.ref q1, .ref q2, .ref q3, .ref q4, .ref q5, .ref q6, .ref q7, .int 0, .int 0, .long 0])), (q1, .inl (E 0, 24, .inl (fun _ => 0))), (q2, .inl (E 0, 24, .inl (fun _ => 0))), (q3, .inl (E 1, 24, .inr (.inl (fun _ => 0)))), (q4, .inl (E 0, 300, .inl (fun _ => 0))), (q5, .inl (E 0, 300, .inl (fun _ => 0))), (q6, .inl (E 1, 300, .inr (.inl (fun _ => 0)))), (q7, .inr (3, [.ref n_lengths9, .ref n_counts10, .ref n_overs11, .ref n_arcNumbers12, .ref n_left13, .int 0])), (n_lengths9, .inl (E 1, 576, .inr (.inl (fun _ => 0)))), (n_counts10, .inl (E 0, 576, .inl (fun _ => 0))), (n_overs11, .inl (E 0, 576, .inl (fun _ => 0))), (n_arcNumbers12, .inl (E 0, 576, .inl (fun _ => 0))), (n_left13, .inl (E 3, 24, .inl (fun _ => 0)))] H := hP
  have hD : va_D A [(a, .inr (0, [.ref q1, .ref q2, .ref q3, .ref q4, .ref q5, .ref q6, .ref q7, .int 0, .int 0, .long 0])), (q1, .inl (E 0, 24, .inl (fun _ => 0))), (q2, .inl (E 0, 24, .inl (fun _ => 0))), (q3, .inl (E 1, 24, .inr (.inl (fun _ => 0)))), (q4, .inl (E 0, 300, .inl (fun _ => 0))), (q5, .inl (E 0, 300, .inl (fun _ => 0))), (q6, .inl (E 1, 300, .inr (.inl (fun _ => 0)))), (q7, .inr (3, [.ref n_lengths9, .ref n_counts10, .ref n_overs11, .ref n_arcNumbers12, .ref n_left13, .int 0])), (n_lengths9, .inl (E 1, 576, .inr (.inl (fun _ => 0)))), (n_counts10, .inl (E 0, 576, .inl (fun _ => 0))), (n_overs11, .inl (E 0, 576, .inl (fun _ => 0))), (n_arcNumbers12, .inl (E 0, 576, .inl (fun _ => 0))), (n_left13, .inl (E 3, 24, .inl (fun _ => 0)))] := hD
  refine lv_aload_n hx hb dX0_init_66 rfl (lv_at hl 0 rfl) ?_
  refine lv_iconst (v := 0) hx hb dX0_init_67 (by decide) ?_
  refine va_put (D := D) (ci := 0) (v := .int 0) (ty := .int) (C := RX0) (T := TX0) (N := 10) hx hb hts inX0 tyX0 tyX0_ok nmX0 hown hK hP hD hS 0 rfl rfl 7 (by decide) (hts _ b_195) (fun _ h9 => h9) rfl (by decide +kernel) rfl rfl (Nat.le_of_ble_eq_true rfl) dX0_init_68 (fun H locs hP hD hS => ?_)
  have hP : va_P D k_cl [(a, .inr (0, [.ref q1, .ref q2, .ref q3, .ref q4, .ref q5, .ref q6, .ref q7, .int 0, .int 0, .long 0])), (q1, .inl (E 0, 24, .inl (fun _ => 0))), (q2, .inl (E 0, 24, .inl (fun _ => 0))), (q3, .inl (E 1, 24, .inr (.inl (fun _ => 0)))), (q4, .inl (E 0, 300, .inl (fun _ => 0))), (q5, .inl (E 0, 300, .inl (fun _ => 0))), (q6, .inl (E 1, 300, .inr (.inl (fun _ => 0)))), (q7, .inr (3, [.ref n_lengths9, .ref n_counts10, .ref n_overs11, .ref n_arcNumbers12, .ref n_left13, .int 0])), (n_lengths9, .inl (E 1, 576, .inr (.inl (fun _ => 0)))), (n_counts10, .inl (E 0, 576, .inl (fun _ => 0))), (n_overs11, .inl (E 0, 576, .inl (fun _ => 0))), (n_arcNumbers12, .inl (E 0, 576, .inl (fun _ => 0))), (n_left13, .inl (E 3, 24, .inl (fun _ => 0)))] H := hP
  have hD : va_D A [(a, .inr (0, [.ref q1, .ref q2, .ref q3, .ref q4, .ref q5, .ref q6, .ref q7, .int 0, .int 0, .long 0])), (q1, .inl (E 0, 24, .inl (fun _ => 0))), (q2, .inl (E 0, 24, .inl (fun _ => 0))), (q3, .inl (E 1, 24, .inr (.inl (fun _ => 0)))), (q4, .inl (E 0, 300, .inl (fun _ => 0))), (q5, .inl (E 0, 300, .inl (fun _ => 0))), (q6, .inl (E 1, 300, .inr (.inl (fun _ => 0)))), (q7, .inr (3, [.ref n_lengths9, .ref n_counts10, .ref n_overs11, .ref n_arcNumbers12, .ref n_left13, .int 0])), (n_lengths9, .inl (E 1, 576, .inr (.inl (fun _ => 0)))), (n_counts10, .inl (E 0, 576, .inl (fun _ => 0))), (n_overs11, .inl (E 0, 576, .inl (fun _ => 0))), (n_arcNumbers12, .inl (E 0, 576, .inl (fun _ => 0))), (n_left13, .inl (E 3, 24, .inl (fun _ => 0)))] := hD
  refine lv_aload_n hx hb dX0_init_71 rfl (lv_at hl 0 rfl) ?_
  refine lv_iconst (v := 0) hx hb dX0_init_72 (by decide) ?_
  refine va_put (D := D) (ci := 0) (v := .int 0) (ty := .int) (C := RX0) (T := TX0) (N := 10) hx hb hts inX0 tyX0 tyX0_ok nmX0 hown hK hP hD hS 0 rfl rfl 8 (by decide) (hts _ b_198) (fun _ h9 => h9) rfl (by decide +kernel) rfl rfl (Nat.le_of_ble_eq_true rfl) dX0_init_73 (fun H locs hP hD hS => ?_)
  have hP : va_P D k_cl [(a, .inr (0, [.ref q1, .ref q2, .ref q3, .ref q4, .ref q5, .ref q6, .ref q7, .int 0, .int 0, .long 0])), (q1, .inl (E 0, 24, .inl (fun _ => 0))), (q2, .inl (E 0, 24, .inl (fun _ => 0))), (q3, .inl (E 1, 24, .inr (.inl (fun _ => 0)))), (q4, .inl (E 0, 300, .inl (fun _ => 0))), (q5, .inl (E 0, 300, .inl (fun _ => 0))), (q6, .inl (E 1, 300, .inr (.inl (fun _ => 0)))), (q7, .inr (3, [.ref n_lengths9, .ref n_counts10, .ref n_overs11, .ref n_arcNumbers12, .ref n_left13, .int 0])), (n_lengths9, .inl (E 1, 576, .inr (.inl (fun _ => 0)))), (n_counts10, .inl (E 0, 576, .inl (fun _ => 0))), (n_overs11, .inl (E 0, 576, .inl (fun _ => 0))), (n_arcNumbers12, .inl (E 0, 576, .inl (fun _ => 0))), (n_left13, .inl (E 3, 24, .inl (fun _ => 0)))] H := hP
  have hD : va_D A [(a, .inr (0, [.ref q1, .ref q2, .ref q3, .ref q4, .ref q5, .ref q6, .ref q7, .int 0, .int 0, .long 0])), (q1, .inl (E 0, 24, .inl (fun _ => 0))), (q2, .inl (E 0, 24, .inl (fun _ => 0))), (q3, .inl (E 1, 24, .inr (.inl (fun _ => 0)))), (q4, .inl (E 0, 300, .inl (fun _ => 0))), (q5, .inl (E 0, 300, .inl (fun _ => 0))), (q6, .inl (E 1, 300, .inr (.inl (fun _ => 0)))), (q7, .inr (3, [.ref n_lengths9, .ref n_counts10, .ref n_overs11, .ref n_arcNumbers12, .ref n_left13, .int 0])), (n_lengths9, .inl (E 1, 576, .inr (.inl (fun _ => 0)))), (n_counts10, .inl (E 0, 576, .inl (fun _ => 0))), (n_overs11, .inl (E 0, 576, .inl (fun _ => 0))), (n_arcNumbers12, .inl (E 0, 576, .inl (fun _ => 0))), (n_left13, .inl (E 3, 24, .inl (fun _ => 0)))] := hD
  refine lv_aload_n hx hb dX0_init_76 rfl (lv_at hl 0 rfl) ?_
  refine lv_lconst (v := 0) hx hb dX0_init_77 (by decide) ?_
  refine va_put (D := D) (ci := 0) (v := .long 0) (ty := .long) (C := RX0) (T := TX0) (N := 10) hx hb hts inX0 tyX0 tyX0_ok nmX0 hown hK hP hD hS 0 rfl rfl 9 (by decide) (hts _ b_201) (fun _ h9 => h9) rfl (by decide +kernel) rfl rfl (Nat.le_of_ble_eq_true rfl) dX0_init_78 (fun H locs hP hD hS => ?_)
  have hP : va_P D k_cl [(a, .inr (0, [.ref q1, .ref q2, .ref q3, .ref q4, .ref q5, .ref q6, .ref q7, .int 0, .int 0, .long 0])), (q1, .inl (E 0, 24, .inl (fun _ => 0))), (q2, .inl (E 0, 24, .inl (fun _ => 0))), (q3, .inl (E 1, 24, .inr (.inl (fun _ => 0)))), (q4, .inl (E 0, 300, .inl (fun _ => 0))), (q5, .inl (E 0, 300, .inl (fun _ => 0))), (q6, .inl (E 1, 300, .inr (.inl (fun _ => 0)))), (q7, .inr (3, [.ref n_lengths9, .ref n_counts10, .ref n_overs11, .ref n_arcNumbers12, .ref n_left13, .int 0])), (n_lengths9, .inl (E 1, 576, .inr (.inl (fun _ => 0)))), (n_counts10, .inl (E 0, 576, .inl (fun _ => 0))), (n_overs11, .inl (E 0, 576, .inl (fun _ => 0))), (n_arcNumbers12, .inl (E 0, 576, .inl (fun _ => 0))), (n_left13, .inl (E 3, 24, .inl (fun _ => 0)))] H := hP
  have hD : va_D A [(a, .inr (0, [.ref q1, .ref q2, .ref q3, .ref q4, .ref q5, .ref q6, .ref q7, .int 0, .int 0, .long 0])), (q1, .inl (E 0, 24, .inl (fun _ => 0))), (q2, .inl (E 0, 24, .inl (fun _ => 0))), (q3, .inl (E 1, 24, .inr (.inl (fun _ => 0)))), (q4, .inl (E 0, 300, .inl (fun _ => 0))), (q5, .inl (E 0, 300, .inl (fun _ => 0))), (q6, .inl (E 1, 300, .inr (.inl (fun _ => 0)))), (q7, .inr (3, [.ref n_lengths9, .ref n_counts10, .ref n_overs11, .ref n_arcNumbers12, .ref n_left13, .int 0])), (n_lengths9, .inl (E 1, 576, .inr (.inl (fun _ => 0)))), (n_counts10, .inl (E 0, 576, .inl (fun _ => 0))), (n_overs11, .inl (E 0, 576, .inl (fun _ => 0))), (n_arcNumbers12, .inl (E 0, 576, .inl (fun _ => 0))), (n_left13, .inl (E 3, 24, .inl (fun _ => 0)))] := hD
  exact m_v ⟨q1, q2, q3, q4, q5, q6, q7, n_lengths9, n_counts10, n_overs11, n_arcNumbers12, n_left13⟩ hx hb hr hlocks rfl trivial (hP.sub [0, 1, 2, 3, 7, 8, 9, 10, 11, 12] rfl) (hD.sub [0, 1, 2, 3, 7, 8, 9, 10, 11, 12] (by decide) rfl) hS (by decide) (by decide) dX0_init_81
set_option maxRecDepth 20000 in
set_option maxHeartbeats 2000000 in
theorem i_Landmarks (l : Launch) (D : va_G) (E : Nat → ClassId) (sa : Nat → Nat) (a : Nat) : KM l yX2_init (.code yX2_init cX2_init 1 none) 25 820 12 230 D E sa [.ref a] [(a, .inr (2, [.null, .null, .int 0, .null, .null]))] (S := Nat × Nat × Nat × Nat) (fun u => none) (fun _ => True) (fun u => [(a, .inr (2, [.ref u.1, .ref u.2.1, .int 0, .ref u.2.2.1, .ref u.2.2.2]))]) := by
  refine KM.of (by decide) (Nat.le_of_ble_eq_true rfl) ?_
  intro p e s m below meth c A ls hx hb hr hts hml hown hlocks hnm hK hP hD hA hS hZ hl
  have hown : s.vm.findClass RX2 = some m.cls := hown
  have hl : lv_has ls 1 [(0, .ref a)] := hl
  refine lv_aload_n hx hb dX2_init_0 rfl (lv_at hl 0 rfl) ?_
  refine W.objInit hx hb hown (hts _ b_324) (hts _ b_oi) (hts _ b_oc) rfl (by rw [hml]; exact hl.1) rfl dX2_init_1 (by decide) (Nat.le_of_ble_eq_true rfl) ?_
  refine W.eq (g2 := F0 m 4 ls []) rfl ?_
  refine lv_aload_n hx hb dX2_init_4 rfl (lv_at hl 0 rfl) ?_
  refine lv_iconst (v := 4) hx hb dX2_init_5 (by decide) ?_
  refine k_newa (E := E) 0 (N9 := 4) hx hb (hts _ b_178) (by rfl) rfl rfl hK hP hD hS hA (a0 := (4, .inl (fun _ => 0))) (fun _ => rfl) (by decide) (by decide) (by decide) (by decide) (by decide) dX2_init_6 (fun q1 H hP hD hS => ?_)
  refine W.widen (k := 1) (n := 4) (by decide) (by decide) ?_
  have hP : va_P D k_cl [(a, .inr (2, [.null, .null, .int 0, .null, .null])), (q1, .inl (E 0, 4, .inl (fun _ => 0)))] H := hP
  have hD : va_D A [(a, .inr (2, [.null, .null, .int 0, .null, .null])), (q1, .inl (E 0, 4, .inl (fun _ => 0)))] := hD
  refine va_putF (D := D) (ci := 2) (v := .ref q1) (ty := (.array .int)) (C := RX2) (T := TX2) (N := 5) hx hb hts inX2 tyX2 tyX2_ok nmX2 hown hK hP hD hS 0 rfl rfl 0 (by decide) (hts _ b_327) (fun _ h9 => h9) rfl hnm rfl (by decide +kernel) rfl rfl (Nat.le_of_ble_eq_true rfl) dX2_init_8 (fun H locs hP hD hS => ?_)
  have hP : va_P D k_cl [(a, .inr (2, [.ref q1, .null, .int 0, .null, .null])), (q1, .inl (E 0, 4, .inl (fun _ => 0)))] H := hP
  have hD : va_D A [(a, .inr (2, [.ref q1, .null, .int 0, .null, .null])), (q1, .inl (E 0, 4, .inl (fun _ => 0)))] := hD
  refine lv_aload_n hx hb dX2_init_11 rfl (lv_at hl 0 rfl) ?_
  refine lv_bipush (v := 24) hx hb dX2_init_12 (by decide) ?_
  refine k_newa (E := E) 1 (N9 := 24) hx hb (hts _ b_179) (by rfl) rfl rfl hK hP hD hS hA (a0 := (24, .inr (.inl (fun _ => 0)))) (fun _ => rfl) (by decide) (by decide) (by decide) (by decide) (by decide) dX2_init_14 (fun q2 H hP hD hS => ?_)
  refine W.widen (k := 2) (n := 28) (by decide) (by decide) ?_
  have hP : va_P D k_cl [(a, .inr (2, [.ref q1, .null, .int 0, .null, .null])), (q1, .inl (E 0, 4, .inl (fun _ => 0))), (q2, .inl (E 1, 24, .inr (.inl (fun _ => 0))))] H := hP
  have hD : va_D A [(a, .inr (2, [.ref q1, .null, .int 0, .null, .null])), (q1, .inl (E 0, 4, .inl (fun _ => 0))), (q2, .inl (E 1, 24, .inr (.inl (fun _ => 0))))] := hD
  refine va_putF (D := D) (ci := 2) (v := .ref q2) (ty := (.array .long)) (C := RX2) (T := TX2) (N := 5) hx hb hts inX2 tyX2 tyX2_ok nmX2 hown hK hP hD hS 0 rfl rfl 1 (by decide) (hts _ b_329) (fun _ h9 => h9) rfl hnm rfl (by decide +kernel) rfl rfl (Nat.le_of_ble_eq_true rfl) dX2_init_16 (fun H locs hP hD hS => ?_)
  have hP : va_P D k_cl [(a, .inr (2, [.ref q1, .ref q2, .int 0, .null, .null])), (q1, .inl (E 0, 4, .inl (fun _ => 0))), (q2, .inl (E 1, 24, .inr (.inl (fun _ => 0))))] H := hP
  have hD : va_D A [(a, .inr (2, [.ref q1, .ref q2, .int 0, .null, .null])), (q1, .inl (E 0, 4, .inl (fun _ => 0))), (q2, .inl (E 1, 24, .inr (.inl (fun _ => 0))))] := hD
  refine lv_aload_n hx hb dX2_init_19 rfl (lv_at hl 0 rfl) ?_
  refine lv_iconst (v := 0) hx hb dX2_init_20 (by decide) ?_
  refine va_put (D := D) (ci := 2) (v := .int 0) (ty := .int) (C := RX2) (T := TX2) (N := 5) hx hb hts inX2 tyX2 tyX2_ok nmX2 hown hK hP hD hS 0 rfl rfl 2 (by decide) (hts _ b_331) (fun _ h9 => h9) rfl (by decide +kernel) rfl rfl (Nat.le_of_ble_eq_true rfl) dX2_init_21 (fun H locs hP hD hS => ?_)
  have hP : va_P D k_cl [(a, .inr (2, [.ref q1, .ref q2, .int 0, .null, .null])), (q1, .inl (E 0, 4, .inl (fun _ => 0))), (q2, .inl (E 1, 24, .inr (.inl (fun _ => 0))))] H := hP
  have hD : va_D A [(a, .inr (2, [.ref q1, .ref q2, .int 0, .null, .null])), (q1, .inl (E 0, 4, .inl (fun _ => 0))), (q2, .inl (E 1, 24, .inr (.inl (fun _ => 0))))] := hD
  refine lv_aload_n hx hb dX2_init_24 rfl (lv_at hl 0 rfl) ?_
  refine va_new (ci := 8) (fs := df0X8) (C := RX8) (T := TX8) (N := 5) hx hb hts inX8 tyX8 tyX8_ok hown (hts _ b_325) (hts _ b_264) (hts _ b_83) hK hP hD hS hA rfl dfX8 (by decide) (by decide) dX2_init_25 (fun q3 H hP hD hS => ?_)
  refine W.widen (k := 3) (n := 33) (by decide) (by decide) ?_
  have hP : va_P D k_cl [(a, .inr (2, [.ref q1, .ref q2, .int 0, .null, .null])), (q1, .inl (E 0, 4, .inl (fun _ => 0))), (q2, .inl (E 1, 24, .inr (.inl (fun _ => 0)))), (q3, .inr (8, [.null, .null, .null, .int 0, .null]))] H := hP
  have hD : va_D A [(a, .inr (2, [.ref q1, .ref q2, .int 0, .null, .null])), (q1, .inl (E 0, 4, .inl (fun _ => 0))), (q2, .inl (E 1, 24, .inr (.inl (fun _ => 0)))), (q3, .inr (8, [.null, .null, .null, .int 0, .null]))] := hD
  refine lv_dup hx hb dX2_init_28 rfl ?_
  refine k_MN (As := []) (rest := [.ref q3, .ref a])  (wr := [(a, .inr (2, [.ref q1, .ref q2, .int 0, .null, .null])), (q1, .inl (E 0, 4, .inl (fun _ => 0))), (q2, .inl (E 1, 24, .inr (.inl (fun _ => 0))))]) ⟨hx, hb, hml, hown, hts⟩ (i_Ways l D E sa q3) (by decide) b_266 b_83 b_267 ⟨rfl, hd_X8_init⟩ ⟨⟨by decide, by decide⟩, by decide, by decide⟩ hK hP hD hS hA hZ [3] [0, 1, 2] rfl rfl (by decide) rfl hl.1 (Nat.le_of_ble_eq_true rfl) dX2_init_29 (fun u4 H locs hu hP hD hS _ => ?_)
  refine W.widen (k := 7) (n := 129) (by decide) (by decide) ?_
  have hP : va_P D k_cl [(a, .inr (2, [.ref q1, .ref q2, .int 0, .null, .null])), (q1, .inl (E 0, 4, .inl (fun _ => 0))), (q2, .inl (E 1, 24, .inr (.inl (fun _ => 0))))] H := hP
  have hD : va_D A [(a, .inr (2, [.ref q1, .ref q2, .int 0, .null, .null])), (q1, .inl (E 0, 4, .inl (fun _ => 0))), (q2, .inl (E 1, 24, .inr (.inl (fun _ => 0))))] := hD
  refine W.eq (g2 := F0 m 32 ls [.ref q3, .ref a]) rfl ?_
  refine va_putF (D := D) (ci := 2) (v := .ref q3) (ty := (.object "RoutePlanner$Ways")) (C := RX2) (T := TX2) (N := 5) hx hb hts inX2 tyX2 tyX2_ok nmX2 hown hK hP hD hS 0 rfl rfl 3 (by decide) (hts _ b_333) (fun _ h9 => h9) rfl hnm rfl (by decide +kernel) rfl rfl (Nat.le_of_ble_eq_true rfl) dX2_init_32 (fun H locs hP hD hS => ?_)
  have hP : va_P D k_cl [(a, .inr (2, [.ref q1, .ref q2, .int 0, .ref q3, .null])), (q1, .inl (E 0, 4, .inl (fun _ => 0))), (q2, .inl (E 1, 24, .inr (.inl (fun _ => 0))))] H := hP
  have hD : va_D A [(a, .inr (2, [.ref q1, .ref q2, .int 0, .ref q3, .null])), (q1, .inl (E 0, 4, .inl (fun _ => 0))), (q2, .inl (E 1, 24, .inr (.inl (fun _ => 0))))] := hD
  refine lv_aload_n hx hb dX2_init_35 rfl (lv_at hl 0 rfl) ?_
  refine va_new (ci := 8) (fs := df0X8) (C := RX8) (T := TX8) (N := 5) hx hb hts inX8 tyX8 tyX8_ok hown (hts _ b_325) (hts _ b_264) (hts _ b_83) hK hP hD hS hA rfl dfX8 (by decide) (by decide) dX2_init_36 (fun q5 H hP hD hS => ?_)
  refine W.widen (k := 8) (n := 134) (by decide) (by decide) ?_
  have hP : va_P D k_cl [(a, .inr (2, [.ref q1, .ref q2, .int 0, .ref q3, .null])), (q1, .inl (E 0, 4, .inl (fun _ => 0))), (q2, .inl (E 1, 24, .inr (.inl (fun _ => 0)))), (q5, .inr (8, [.null, .null, .null, .int 0, .null]))] H := hP
  have hD : va_D A [(a, .inr (2, [.ref q1, .ref q2, .int 0, .ref q3, .null])), (q1, .inl (E 0, 4, .inl (fun _ => 0))), (q2, .inl (E 1, 24, .inr (.inl (fun _ => 0)))), (q5, .inr (8, [.null, .null, .null, .int 0, .null]))] := hD
  refine lv_dup hx hb dX2_init_39 rfl ?_
  refine k_MN (As := []) (rest := [.ref q5, .ref a])  (wr := [(a, .inr (2, [.ref q1, .ref q2, .int 0, .ref q3, .null])), (q1, .inl (E 0, 4, .inl (fun _ => 0))), (q2, .inl (E 1, 24, .inr (.inl (fun _ => 0))))]) ⟨hx, hb, hml, hown, hts⟩ (i_Ways l D E sa q5) (by decide) b_266 b_83 b_267 ⟨rfl, hd_X8_init⟩ ⟨⟨by decide, by decide⟩, by decide, by decide⟩ hK hP hD hS hA hZ [3] [0, 1, 2] rfl rfl (by decide) rfl hl.1 (Nat.le_of_ble_eq_true rfl) dX2_init_40 (fun u6 H locs hu hP hD hS _ => ?_)
  refine W.widen (k := 12) (n := 230) (by decide) (by decide) ?_
  have hP : va_P D k_cl [(a, .inr (2, [.ref q1, .ref q2, .int 0, .ref q3, .null])), (q1, .inl (E 0, 4, .inl (fun _ => 0))), (q2, .inl (E 1, 24, .inr (.inl (fun _ => 0))))] H := hP
  have hD : va_D A [(a, .inr (2, [.ref q1, .ref q2, .int 0, .ref q3, .null])), (q1, .inl (E 0, 4, .inl (fun _ => 0))), (q2, .inl (E 1, 24, .inr (.inl (fun _ => 0))))] := hD
  refine W.eq (g2 := F0 m 43 ls [.ref q5, .ref a]) rfl ?_
  refine va_putF (D := D) (ci := 2) (v := .ref q5) (ty := (.object "RoutePlanner$Ways")) (C := RX2) (T := TX2) (N := 5) hx hb hts inX2 tyX2 tyX2_ok nmX2 hown hK hP hD hS 0 rfl rfl 4 (by decide) (hts _ b_334) (fun _ h9 => h9) rfl hnm rfl (by decide +kernel) rfl rfl (Nat.le_of_ble_eq_true rfl) dX2_init_43 (fun H locs hP hD hS => ?_)
  have hP : va_P D k_cl [(a, .inr (2, [.ref q1, .ref q2, .int 0, .ref q3, .ref q5])), (q1, .inl (E 0, 4, .inl (fun _ => 0))), (q2, .inl (E 1, 24, .inr (.inl (fun _ => 0))))] H := hP
  have hD : va_D A [(a, .inr (2, [.ref q1, .ref q2, .int 0, .ref q3, .ref q5])), (q1, .inl (E 0, 4, .inl (fun _ => 0))), (q2, .inl (E 1, 24, .inr (.inl (fun _ => 0))))] := hD
  exact m_v ⟨q1, q2, q3, q5⟩ hx hb hr hlocks rfl trivial (hP.sub [0] rfl) (hD.sub [0] (by decide) rfl) hS (by decide) (by decide) dX2_init_46
set_option maxRecDepth 20000 in
set_option maxHeartbeats 2000000 in
theorem i_Hierarchy (l : Launch) (D : va_G) (E : Nat → ClassId) (sa : Nat → Nat) (a : Nat) : KM l yX1_init (.code yX1_init cX1_init 1 none) 25 820 16 3659 D E sa [.ref a] [(a, .inr (1, [.null, .null, .null, .int 0, .int 0, .int 0, .int 0, .int 0, .int 0, .null, .null, .null, .null, .int 0]))] (S := Nat × Nat × Nat × Nat × Nat × Nat × Nat × Nat × Nat × Nat × Nat × Nat) (fun u => none) (fun _ => True) (fun u => [(a, .inr (1, [.ref u.1, .ref u.2.1, .ref u.2.2.1, .int 0, .int 0, .int 0, .int 4, .int 2, .int 1, .ref u.2.2.2.1, .ref u.2.2.2.2.1, .ref u.2.2.2.2.2.1, .ref u.2.2.2.2.2.2.1, .int 0])), (u.2.2.2.2.1, .inl (E 0, 24, .inl (fun _ => 0))), (u.1, .inr (3, [.ref u.2.2.2.2.2.2.2.1, .ref u.2.2.2.2.2.2.2.2.1, .ref u.2.2.2.2.2.2.2.2.2.1, .ref u.2.2.2.2.2.2.2.2.2.2.1, .ref u.2.2.2.2.2.2.2.2.2.2.2, .int 0])), (u.2.2.2.2.2.2.2.1, .inl (E 1, 576, .inr (.inl (fun _ => 0)))), (u.2.2.2.2.2.2.2.2.1, .inl (E 0, 576, .inl (fun _ => 0))), (u.2.2.2.2.2.2.2.2.2.1, .inl (E 0, 576, .inl (fun _ => 0))), (u.2.2.2.2.2.2.2.2.2.2.1, .inl (E 0, 576, .inl (fun _ => 0))), (u.2.2.2.2.2.2.2.2.2.2.2, .inl (E 3, 24, .inl (fun _ => 0)))]) := by
  refine KM.of (by decide) (Nat.le_of_ble_eq_true rfl) ?_
  intro p e s m below meth c A ls hx hb hr hts hml hown hlocks hnm hK hP hD hA hS hZ hl
  have hown : s.vm.findClass RX1 = some m.cls := hown
  have hl : lv_has ls 1 [(0, .ref a)] := hl
  refine lv_aload_n hx hb dX1_init_0 rfl (lv_at hl 0 rfl) ?_
  refine W.objInit hx hb hown (hts _ b_351) (hts _ b_oi) (hts _ b_oc) rfl (by rw [hml]; exact hl.1) rfl dX1_init_1 (by decide) (Nat.le_of_ble_eq_true rfl) ?_
  refine W.eq (g2 := F0 m 4 ls []) rfl ?_
  refine lv_aload_n hx hb dX1_init_4 rfl (lv_at hl 0 rfl) ?_
  refine va_new (ci := 3) (fs := df0X3) (C := RX3) (T := TX3) (N := 6) hx hb hts inX3 tyX3 tyX3_ok hown (hts _ b_352) (hts _ b_136) (hts _ b_81) hK hP hD hS hA rfl dfX3 (by decide) (by decide) dX1_init_5 (fun q1 H hP hD hS => ?_)
  refine W.widen (k := 1) (n := 6) (by decide) (by decide) ?_
  have hP : va_P D k_cl [(a, .inr (1, [.null, .null, .null, .int 0, .int 0, .int 0, .int 0, .int 0, .int 0, .null, .null, .null, .null, .int 0])), (q1, .inr (3, [.null, .null, .null, .null, .null, .int 0]))] H := hP
  have hD : va_D A [(a, .inr (1, [.null, .null, .null, .int 0, .int 0, .int 0, .int 0, .int 0, .int 0, .null, .null, .null, .null, .int 0])), (q1, .inr (3, [.null, .null, .null, .null, .null, .int 0]))] := hD
  refine lv_dup hx hb dX1_init_8 rfl ?_
  refine k_MN (As := []) (rest := [.ref q1, .ref a])  (wr := [(a, .inr (1, [.null, .null, .null, .int 0, .int 0, .int 0, .int 0, .int 0, .int 0, .null, .null, .null, .null, .int 0]))]) ⟨hx, hb, hml, hown, hts⟩ (i_Net l D E sa q1) (by decide) b_138 b_81 b_139 ⟨rfl, hd_X3_init⟩ ⟨⟨by decide, by decide⟩, by decide, by decide⟩ hK hP hD hS hA hZ [1] [0] rfl rfl (by decide) rfl hl.1 (Nat.le_of_ble_eq_true rfl) dX1_init_9 (fun u2 H locs hu hP hD hS _ => ?_)
  obtain ⟨n_lengths3, n_counts4, n_overs5, n_arcNumbers6, n_left7⟩ := u2
  refine W.widen (k := 6) (n := 2334) (by decide) (by decide) ?_
  have hP : va_P D k_cl [(a, .inr (1, [.null, .null, .null, .int 0, .int 0, .int 0, .int 0, .int 0, .int 0, .null, .null, .null, .null, .int 0])), (q1, .inr (3, [.ref n_lengths3, .ref n_counts4, .ref n_overs5, .ref n_arcNumbers6, .ref n_left7, .int 0])), (n_lengths3, .inl (E 1, 576, .inr (.inl (fun _ => 0)))), (n_counts4, .inl (E 0, 576, .inl (fun _ => 0))), (n_overs5, .inl (E 0, 576, .inl (fun _ => 0))), (n_arcNumbers6, .inl (E 0, 576, .inl (fun _ => 0))), (n_left7, .inl (E 3, 24, .inl (fun _ => 0)))] H := hP
  have hD : va_D A [(a, .inr (1, [.null, .null, .null, .int 0, .int 0, .int 0, .int 0, .int 0, .int 0, .null, .null, .null, .null, .int 0])), (q1, .inr (3, [.ref n_lengths3, .ref n_counts4, .ref n_overs5, .ref n_arcNumbers6, .ref n_left7, .int 0])), (n_lengths3, .inl (E 1, 576, .inr (.inl (fun _ => 0)))), (n_counts4, .inl (E 0, 576, .inl (fun _ => 0))), (n_overs5, .inl (E 0, 576, .inl (fun _ => 0))), (n_arcNumbers6, .inl (E 0, 576, .inl (fun _ => 0))), (n_left7, .inl (E 3, 24, .inl (fun _ => 0)))] := hD
  refine W.eq (g2 := F0 m 12 ls [.ref q1, .ref a]) rfl ?_
  refine va_putF (D := D) (ci := 1) (v := .ref q1) (ty := (.object "RoutePlanner$Net")) (C := RX1) (T := TX1) (N := 14) hx hb hts inX1 tyX1 tyX1_ok nmX1 hown hK hP hD hS 0 rfl rfl 0 (by decide) (hts _ b_356) (fun _ h9 => h9) rfl hnm rfl (by decide +kernel) rfl rfl (Nat.le_of_ble_eq_true rfl) dX1_init_12 (fun H locs hP hD hS => ?_)
  have hP : va_P D k_cl [(a, .inr (1, [.ref q1, .null, .null, .int 0, .int 0, .int 0, .int 0, .int 0, .int 0, .null, .null, .null, .null, .int 0])), (q1, .inr (3, [.ref n_lengths3, .ref n_counts4, .ref n_overs5, .ref n_arcNumbers6, .ref n_left7, .int 0])), (n_lengths3, .inl (E 1, 576, .inr (.inl (fun _ => 0)))), (n_counts4, .inl (E 0, 576, .inl (fun _ => 0))), (n_overs5, .inl (E 0, 576, .inl (fun _ => 0))), (n_arcNumbers6, .inl (E 0, 576, .inl (fun _ => 0))), (n_left7, .inl (E 3, 24, .inl (fun _ => 0)))] H := hP
  have hD : va_D A [(a, .inr (1, [.ref q1, .null, .null, .int 0, .int 0, .int 0, .int 0, .int 0, .int 0, .null, .null, .null, .null, .int 0])), (q1, .inr (3, [.ref n_lengths3, .ref n_counts4, .ref n_overs5, .ref n_arcNumbers6, .ref n_left7, .int 0])), (n_lengths3, .inl (E 1, 576, .inr (.inl (fun _ => 0)))), (n_counts4, .inl (E 0, 576, .inl (fun _ => 0))), (n_overs5, .inl (E 0, 576, .inl (fun _ => 0))), (n_arcNumbers6, .inl (E 0, 576, .inl (fun _ => 0))), (n_left7, .inl (E 3, 24, .inl (fun _ => 0)))] := hD
  refine lv_aload_n hx hb dX1_init_15 rfl (lv_at hl 0 rfl) ?_
  refine lv_bipush (v := 24) hx hb dX1_init_16 (by decide) ?_
  refine k_newa (E := E) 0 (N9 := 24) hx hb (hts _ b_178) (by rfl) rfl rfl hK hP hD hS hA (a0 := (24, .inl (fun _ => 0))) (fun _ => rfl) (by decide) (by decide) (by decide) (by decide) (by decide) dX1_init_18 (fun q8 H hP hD hS => ?_)
  refine W.widen (k := 7) (n := 2358) (by decide) (by decide) ?_
  have hP : va_P D k_cl [(a, .inr (1, [.ref q1, .null, .null, .int 0, .int 0, .int 0, .int 0, .int 0, .int 0, .null, .null, .null, .null, .int 0])), (q1, .inr (3, [.ref n_lengths3, .ref n_counts4, .ref n_overs5, .ref n_arcNumbers6, .ref n_left7, .int 0])), (n_lengths3, .inl (E 1, 576, .inr (.inl (fun _ => 0)))), (n_counts4, .inl (E 0, 576, .inl (fun _ => 0))), (n_overs5, .inl (E 0, 576, .inl (fun _ => 0))), (n_arcNumbers6, .inl (E 0, 576, .inl (fun _ => 0))), (n_left7, .inl (E 3, 24, .inl (fun _ => 0))), (q8, .inl (E 0, 24, .inl (fun _ => 0)))] H := hP
  have hD : va_D A [(a, .inr (1, [.ref q1, .null, .null, .int 0, .int 0, .int 0, .int 0, .int 0, .int 0, .null, .null, .null, .null, .int 0])), (q1, .inr (3, [.ref n_lengths3, .ref n_counts4, .ref n_overs5, .ref n_arcNumbers6, .ref n_left7, .int 0])), (n_lengths3, .inl (E 1, 576, .inr (.inl (fun _ => 0)))), (n_counts4, .inl (E 0, 576, .inl (fun _ => 0))), (n_overs5, .inl (E 0, 576, .inl (fun _ => 0))), (n_arcNumbers6, .inl (E 0, 576, .inl (fun _ => 0))), (n_left7, .inl (E 3, 24, .inl (fun _ => 0))), (q8, .inl (E 0, 24, .inl (fun _ => 0)))] := hD
  refine va_putF (D := D) (ci := 1) (v := .ref q8) (ty := (.array .int)) (C := RX1) (T := TX1) (N := 14) hx hb hts inX1 tyX1 tyX1_ok nmX1 hown hK hP hD hS 0 rfl rfl 1 (by decide) (hts _ b_359) (fun _ h9 => h9) rfl hnm rfl (by decide +kernel) rfl rfl (Nat.le_of_ble_eq_true rfl) dX1_init_20 (fun H locs hP hD hS => ?_)
  have hP : va_P D k_cl [(a, .inr (1, [.ref q1, .ref q8, .null, .int 0, .int 0, .int 0, .int 0, .int 0, .int 0, .null, .null, .null, .null, .int 0])), (q1, .inr (3, [.ref n_lengths3, .ref n_counts4, .ref n_overs5, .ref n_arcNumbers6, .ref n_left7, .int 0])), (n_lengths3, .inl (E 1, 576, .inr (.inl (fun _ => 0)))), (n_counts4, .inl (E 0, 576, .inl (fun _ => 0))), (n_overs5, .inl (E 0, 576, .inl (fun _ => 0))), (n_arcNumbers6, .inl (E 0, 576, .inl (fun _ => 0))), (n_left7, .inl (E 3, 24, .inl (fun _ => 0))), (q8, .inl (E 0, 24, .inl (fun _ => 0)))] H := hP
  have hD : va_D A [(a, .inr (1, [.ref q1, .ref q8, .null, .int 0, .int 0, .int 0, .int 0, .int 0, .int 0, .null, .null, .null, .null, .int 0])), (q1, .inr (3, [.ref n_lengths3, .ref n_counts4, .ref n_overs5, .ref n_arcNumbers6, .ref n_left7, .int 0])), (n_lengths3, .inl (E 1, 576, .inr (.inl (fun _ => 0)))), (n_counts4, .inl (E 0, 576, .inl (fun _ => 0))), (n_overs5, .inl (E 0, 576, .inl (fun _ => 0))), (n_arcNumbers6, .inl (E 0, 576, .inl (fun _ => 0))), (n_left7, .inl (E 3, 24, .inl (fun _ => 0))), (q8, .inl (E 0, 24, .inl (fun _ => 0)))] := hD
  refine lv_aload_n hx hb dX1_init_23 rfl (lv_at hl 0 rfl) ?_
  refine lv_bipush (v := 24) hx hb dX1_init_24 (by decide) ?_
  refine k_newa (E := E) 0 (N9 := 24) hx hb (hts _ b_178) (by rfl) rfl rfl hK hP hD hS hA (a0 := (24, .inl (fun _ => 0))) (fun _ => rfl) (by decide) (by decide) (by decide) (by decide) (by decide) dX1_init_26 (fun q9 H hP hD hS => ?_)
  refine W.widen (k := 8) (n := 2382) (by decide) (by decide) ?_
  have hP : va_P D k_cl [(a, .inr (1, [.ref q1, .ref q8, .null, .int 0, .int 0, .int 0, .int 0, .int 0, .int 0, .null, .null, .null, .null, .int 0])), (q1, .inr (3, [.ref n_lengths3, .ref n_counts4, .ref n_overs5, .ref n_arcNumbers6, .ref n_left7, .int 0])), (n_lengths3, .inl (E 1, 576, .inr (.inl (fun _ => 0)))), (n_counts4, .inl (E 0, 576, .inl (fun _ => 0))), (n_overs5, .inl (E 0, 576, .inl (fun _ => 0))), (n_arcNumbers6, .inl (E 0, 576, .inl (fun _ => 0))), (n_left7, .inl (E 3, 24, .inl (fun _ => 0))), (q8, .inl (E 0, 24, .inl (fun _ => 0))), (q9, .inl (E 0, 24, .inl (fun _ => 0)))] H := hP
  have hD : va_D A [(a, .inr (1, [.ref q1, .ref q8, .null, .int 0, .int 0, .int 0, .int 0, .int 0, .int 0, .null, .null, .null, .null, .int 0])), (q1, .inr (3, [.ref n_lengths3, .ref n_counts4, .ref n_overs5, .ref n_arcNumbers6, .ref n_left7, .int 0])), (n_lengths3, .inl (E 1, 576, .inr (.inl (fun _ => 0)))), (n_counts4, .inl (E 0, 576, .inl (fun _ => 0))), (n_overs5, .inl (E 0, 576, .inl (fun _ => 0))), (n_arcNumbers6, .inl (E 0, 576, .inl (fun _ => 0))), (n_left7, .inl (E 3, 24, .inl (fun _ => 0))), (q8, .inl (E 0, 24, .inl (fun _ => 0))), (q9, .inl (E 0, 24, .inl (fun _ => 0)))] := hD
  refine va_putF (D := D) (ci := 1) (v := .ref q9) (ty := (.array .int)) (C := RX1) (T := TX1) (N := 14) hx hb hts inX1 tyX1 tyX1_ok nmX1 hown hK hP hD hS 0 rfl rfl 2 (by decide) (hts _ b_361) (fun _ h9 => h9) rfl hnm rfl (by decide +kernel) rfl rfl (Nat.le_of_ble_eq_true rfl) dX1_init_28 (fun H locs hP hD hS => ?_)
  have hP : va_P D k_cl [(a, .inr (1, [.ref q1, .ref q8, .ref q9, .int 0, .int 0, .int 0, .int 0, .int 0, .int 0, .null, .null, .null, .null, .int 0])), (q1, .inr (3, [.ref n_lengths3, .ref n_counts4, .ref n_overs5, .ref n_arcNumbers6, .ref n_left7, .int 0])), (n_lengths3, .inl (E 1, 576, .inr (.inl (fun _ => 0)))), (n_counts4, .inl (E 0, 576, .inl (fun _ => 0))), (n_overs5, .inl (E 0, 576, .inl (fun _ => 0))), (n_arcNumbers6, .inl (E 0, 576, .inl (fun _ => 0))), (n_left7, .inl (E 3, 24, .inl (fun _ => 0))), (q8, .inl (E 0, 24, .inl (fun _ => 0))), (q9, .inl (E 0, 24, .inl (fun _ => 0)))] H := hP
  have hD : va_D A [(a, .inr (1, [.ref q1, .ref q8, .ref q9, .int 0, .int 0, .int 0, .int 0, .int 0, .int 0, .null, .null, .null, .null, .int 0])), (q1, .inr (3, [.ref n_lengths3, .ref n_counts4, .ref n_overs5, .ref n_arcNumbers6, .ref n_left7, .int 0])), (n_lengths3, .inl (E 1, 576, .inr (.inl (fun _ => 0)))), (n_counts4, .inl (E 0, 576, .inl (fun _ => 0))), (n_overs5, .inl (E 0, 576, .inl (fun _ => 0))), (n_arcNumbers6, .inl (E 0, 576, .inl (fun _ => 0))), (n_left7, .inl (E 3, 24, .inl (fun _ => 0))), (q8, .inl (E 0, 24, .inl (fun _ => 0))), (q9, .inl (E 0, 24, .inl (fun _ => 0)))] := hD
  refine lv_aload_n hx hb dX1_init_31 rfl (lv_at hl 0 rfl) ?_
  refine lv_iconst (v := 0) hx hb dX1_init_32 (by decide) ?_
  refine va_put (D := D) (ci := 1) (v := .int 0) (ty := .boolean) (C := RX1) (T := TX1) (N := 14) hx hb hts inX1 tyX1 tyX1_ok nmX1 hown hK hP hD hS 0 rfl rfl 3 (by decide) (hts _ b_364) (fun _ h9 => h9) rfl (by decide +kernel) rfl rfl (Nat.le_of_ble_eq_true rfl) dX1_init_33 (fun H locs hP hD hS => ?_)
  have hP : va_P D k_cl [(a, .inr (1, [.ref q1, .ref q8, .ref q9, .int 0, .int 0, .int 0, .int 0, .int 0, .int 0, .null, .null, .null, .null, .int 0])), (q1, .inr (3, [.ref n_lengths3, .ref n_counts4, .ref n_overs5, .ref n_arcNumbers6, .ref n_left7, .int 0])), (n_lengths3, .inl (E 1, 576, .inr (.inl (fun _ => 0)))), (n_counts4, .inl (E 0, 576, .inl (fun _ => 0))), (n_overs5, .inl (E 0, 576, .inl (fun _ => 0))), (n_arcNumbers6, .inl (E 0, 576, .inl (fun _ => 0))), (n_left7, .inl (E 3, 24, .inl (fun _ => 0))), (q8, .inl (E 0, 24, .inl (fun _ => 0))), (q9, .inl (E 0, 24, .inl (fun _ => 0)))] H := hP
  have hD : va_D A [(a, .inr (1, [.ref q1, .ref q8, .ref q9, .int 0, .int 0, .int 0, .int 0, .int 0, .int 0, .null, .null, .null, .null, .int 0])), (q1, .inr (3, [.ref n_lengths3, .ref n_counts4, .ref n_overs5, .ref n_arcNumbers6, .ref n_left7, .int 0])), (n_lengths3, .inl (E 1, 576, .inr (.inl (fun _ => 0)))), (n_counts4, .inl (E 0, 576, .inl (fun _ => 0))), (n_overs5, .inl (E 0, 576, .inl (fun _ => 0))), (n_arcNumbers6, .inl (E 0, 576, .inl (fun _ => 0))), (n_left7, .inl (E 3, 24, .inl (fun _ => 0))), (q8, .inl (E 0, 24, .inl (fun _ => 0))), (q9, .inl (E 0, 24, .inl (fun _ => 0)))] := hD
  refine lv_aload_n hx hb dX1_init_36 rfl (lv_at hl 0 rfl) ?_
  refine lv_iconst (v := 0) hx hb dX1_init_37 (by decide) ?_
  refine va_put (D := D) (ci := 1) (v := .int 0) (ty := .int) (C := RX1) (T := TX1) (N := 14) hx hb hts inX1 tyX1 tyX1_ok nmX1 hown hK hP hD hS 0 rfl rfl 4 (by decide) (hts _ b_366) (fun _ h9 => h9) rfl (by decide +kernel) rfl rfl (Nat.le_of_ble_eq_true rfl) dX1_init_38 (fun H locs hP hD hS => ?_)
  have hP : va_P D k_cl [(a, .inr (1, [.ref q1, .ref q8, .ref q9, .int 0, .int 0, .int 0, .int 0, .int 0, .int 0, .null, .null, .null, .null, .int 0])), (q1, .inr (3, [.ref n_lengths3, .ref n_counts4, .ref n_overs5, .ref n_arcNumbers6, .ref n_left7, .int 0])), (n_lengths3, .inl (E 1, 576, .inr (.inl (fun _ => 0)))), (n_counts4, .inl (E 0, 576, .inl (fun _ => 0))), (n_overs5, .inl (E 0, 576, .inl (fun _ => 0))), (n_arcNumbers6, .inl (E 0, 576, .inl (fun _ => 0))), (n_left7, .inl (E 3, 24, .inl (fun _ => 0))), (q8, .inl (E 0, 24, .inl (fun _ => 0))), (q9, .inl (E 0, 24, .inl (fun _ => 0)))] H := hP
  have hD : va_D A [(a, .inr (1, [.ref q1, .ref q8, .ref q9, .int 0, .int 0, .int 0, .int 0, .int 0, .int 0, .null, .null, .null, .null, .int 0])), (q1, .inr (3, [.ref n_lengths3, .ref n_counts4, .ref n_overs5, .ref n_arcNumbers6, .ref n_left7, .int 0])), (n_lengths3, .inl (E 1, 576, .inr (.inl (fun _ => 0)))), (n_counts4, .inl (E 0, 576, .inl (fun _ => 0))), (n_overs5, .inl (E 0, 576, .inl (fun _ => 0))), (n_arcNumbers6, .inl (E 0, 576, .inl (fun _ => 0))), (n_left7, .inl (E 3, 24, .inl (fun _ => 0))), (q8, .inl (E 0, 24, .inl (fun _ => 0))), (q9, .inl (E 0, 24, .inl (fun _ => 0)))] := hD
  refine lv_aload_n hx hb dX1_init_41 rfl (lv_at hl 0 rfl) ?_
  refine lv_iconst (v := 0) hx hb dX1_init_42 (by decide) ?_
  refine va_put (D := D) (ci := 1) (v := .int 0) (ty := .int) (C := RX1) (T := TX1) (N := 14) hx hb hts inX1 tyX1 tyX1_ok nmX1 hown hK hP hD hS 0 rfl rfl 5 (by decide) (hts _ b_369) (fun _ h9 => h9) rfl (by decide +kernel) rfl rfl (Nat.le_of_ble_eq_true rfl) dX1_init_43 (fun H locs hP hD hS => ?_)
  have hP : va_P D k_cl [(a, .inr (1, [.ref q1, .ref q8, .ref q9, .int 0, .int 0, .int 0, .int 0, .int 0, .int 0, .null, .null, .null, .null, .int 0])), (q1, .inr (3, [.ref n_lengths3, .ref n_counts4, .ref n_overs5, .ref n_arcNumbers6, .ref n_left7, .int 0])), (n_lengths3, .inl (E 1, 576, .inr (.inl (fun _ => 0)))), (n_counts4, .inl (E 0, 576, .inl (fun _ => 0))), (n_overs5, .inl (E 0, 576, .inl (fun _ => 0))), (n_arcNumbers6, .inl (E 0, 576, .inl (fun _ => 0))), (n_left7, .inl (E 3, 24, .inl (fun _ => 0))), (q8, .inl (E 0, 24, .inl (fun _ => 0))), (q9, .inl (E 0, 24, .inl (fun _ => 0)))] H := hP
  have hD : va_D A [(a, .inr (1, [.ref q1, .ref q8, .ref q9, .int 0, .int 0, .int 0, .int 0, .int 0, .int 0, .null, .null, .null, .null, .int 0])), (q1, .inr (3, [.ref n_lengths3, .ref n_counts4, .ref n_overs5, .ref n_arcNumbers6, .ref n_left7, .int 0])), (n_lengths3, .inl (E 1, 576, .inr (.inl (fun _ => 0)))), (n_counts4, .inl (E 0, 576, .inl (fun _ => 0))), (n_overs5, .inl (E 0, 576, .inl (fun _ => 0))), (n_arcNumbers6, .inl (E 0, 576, .inl (fun _ => 0))), (n_left7, .inl (E 3, 24, .inl (fun _ => 0))), (q8, .inl (E 0, 24, .inl (fun _ => 0))), (q9, .inl (E 0, 24, .inl (fun _ => 0)))] := hD
  refine lv_aload_n hx hb dX1_init_46 rfl (lv_at hl 0 rfl) ?_
  refine lv_iconst (v := 4) hx hb dX1_init_47 (by decide) ?_
  refine va_put (D := D) (ci := 1) (v := .int 4) (ty := .int) (C := RX1) (T := TX1) (N := 14) hx hb hts inX1 tyX1 tyX1_ok nmX1 hown hK hP hD hS 0 rfl rfl 6 (by decide) (hts _ b_371) (fun _ h9 => h9) rfl (by decide +kernel) rfl rfl (Nat.le_of_ble_eq_true rfl) dX1_init_48 (fun H locs hP hD hS => ?_)
  have hP : va_P D k_cl [(a, .inr (1, [.ref q1, .ref q8, .ref q9, .int 0, .int 0, .int 0, .int 4, .int 0, .int 0, .null, .null, .null, .null, .int 0])), (q1, .inr (3, [.ref n_lengths3, .ref n_counts4, .ref n_overs5, .ref n_arcNumbers6, .ref n_left7, .int 0])), (n_lengths3, .inl (E 1, 576, .inr (.inl (fun _ => 0)))), (n_counts4, .inl (E 0, 576, .inl (fun _ => 0))), (n_overs5, .inl (E 0, 576, .inl (fun _ => 0))), (n_arcNumbers6, .inl (E 0, 576, .inl (fun _ => 0))), (n_left7, .inl (E 3, 24, .inl (fun _ => 0))), (q8, .inl (E 0, 24, .inl (fun _ => 0))), (q9, .inl (E 0, 24, .inl (fun _ => 0)))] H := hP
  have hD : va_D A [(a, .inr (1, [.ref q1, .ref q8, .ref q9, .int 0, .int 0, .int 0, .int 4, .int 0, .int 0, .null, .null, .null, .null, .int 0])), (q1, .inr (3, [.ref n_lengths3, .ref n_counts4, .ref n_overs5, .ref n_arcNumbers6, .ref n_left7, .int 0])), (n_lengths3, .inl (E 1, 576, .inr (.inl (fun _ => 0)))), (n_counts4, .inl (E 0, 576, .inl (fun _ => 0))), (n_overs5, .inl (E 0, 576, .inl (fun _ => 0))), (n_arcNumbers6, .inl (E 0, 576, .inl (fun _ => 0))), (n_left7, .inl (E 3, 24, .inl (fun _ => 0))), (q8, .inl (E 0, 24, .inl (fun _ => 0))), (q9, .inl (E 0, 24, .inl (fun _ => 0)))] := hD
  refine lv_aload_n hx hb dX1_init_51 rfl (lv_at hl 0 rfl) ?_
  refine lv_iconst (v := 2) hx hb dX1_init_52 (by decide) ?_
  refine va_put (D := D) (ci := 1) (v := .int 2) (ty := .int) (C := RX1) (T := TX1) (N := 14) hx hb hts inX1 tyX1 tyX1_ok nmX1 hown hK hP hD hS 0 rfl rfl 7 (by decide) (hts _ b_373) (fun _ h9 => h9) rfl (by decide +kernel) rfl rfl (Nat.le_of_ble_eq_true rfl) dX1_init_53 (fun H locs hP hD hS => ?_)
  have hP : va_P D k_cl [(a, .inr (1, [.ref q1, .ref q8, .ref q9, .int 0, .int 0, .int 0, .int 4, .int 2, .int 0, .null, .null, .null, .null, .int 0])), (q1, .inr (3, [.ref n_lengths3, .ref n_counts4, .ref n_overs5, .ref n_arcNumbers6, .ref n_left7, .int 0])), (n_lengths3, .inl (E 1, 576, .inr (.inl (fun _ => 0)))), (n_counts4, .inl (E 0, 576, .inl (fun _ => 0))), (n_overs5, .inl (E 0, 576, .inl (fun _ => 0))), (n_arcNumbers6, .inl (E 0, 576, .inl (fun _ => 0))), (n_left7, .inl (E 3, 24, .inl (fun _ => 0))), (q8, .inl (E 0, 24, .inl (fun _ => 0))), (q9, .inl (E 0, 24, .inl (fun _ => 0)))] H := hP
  have hD : va_D A [(a, .inr (1, [.ref q1, .ref q8, .ref q9, .int 0, .int 0, .int 0, .int 4, .int 2, .int 0, .null, .null, .null, .null, .int 0])), (q1, .inr (3, [.ref n_lengths3, .ref n_counts4, .ref n_overs5, .ref n_arcNumbers6, .ref n_left7, .int 0])), (n_lengths3, .inl (E 1, 576, .inr (.inl (fun _ => 0)))), (n_counts4, .inl (E 0, 576, .inl (fun _ => 0))), (n_overs5, .inl (E 0, 576, .inl (fun _ => 0))), (n_arcNumbers6, .inl (E 0, 576, .inl (fun _ => 0))), (n_left7, .inl (E 3, 24, .inl (fun _ => 0))), (q8, .inl (E 0, 24, .inl (fun _ => 0))), (q9, .inl (E 0, 24, .inl (fun _ => 0)))] := hD
  refine lv_aload_n hx hb dX1_init_56 rfl (lv_at hl 0 rfl) ?_
  refine lv_iconst (v := 1) hx hb dX1_init_57 (by decide) ?_
  refine va_put (D := D) (ci := 1) (v := .int 1) (ty := .int) (C := RX1) (T := TX1) (N := 14) hx hb hts inX1 tyX1 tyX1_ok nmX1 hown hK hP hD hS 0 rfl rfl 8 (by decide) (hts _ b_375) (fun _ h9 => h9) rfl (by decide +kernel) rfl rfl (Nat.le_of_ble_eq_true rfl) dX1_init_58 (fun H locs hP hD hS => ?_)
  have hP : va_P D k_cl [(a, .inr (1, [.ref q1, .ref q8, .ref q9, .int 0, .int 0, .int 0, .int 4, .int 2, .int 1, .null, .null, .null, .null, .int 0])), (q1, .inr (3, [.ref n_lengths3, .ref n_counts4, .ref n_overs5, .ref n_arcNumbers6, .ref n_left7, .int 0])), (n_lengths3, .inl (E 1, 576, .inr (.inl (fun _ => 0)))), (n_counts4, .inl (E 0, 576, .inl (fun _ => 0))), (n_overs5, .inl (E 0, 576, .inl (fun _ => 0))), (n_arcNumbers6, .inl (E 0, 576, .inl (fun _ => 0))), (n_left7, .inl (E 3, 24, .inl (fun _ => 0))), (q8, .inl (E 0, 24, .inl (fun _ => 0))), (q9, .inl (E 0, 24, .inl (fun _ => 0)))] H := hP
  have hD : va_D A [(a, .inr (1, [.ref q1, .ref q8, .ref q9, .int 0, .int 0, .int 0, .int 4, .int 2, .int 1, .null, .null, .null, .null, .int 0])), (q1, .inr (3, [.ref n_lengths3, .ref n_counts4, .ref n_overs5, .ref n_arcNumbers6, .ref n_left7, .int 0])), (n_lengths3, .inl (E 1, 576, .inr (.inl (fun _ => 0)))), (n_counts4, .inl (E 0, 576, .inl (fun _ => 0))), (n_overs5, .inl (E 0, 576, .inl (fun _ => 0))), (n_arcNumbers6, .inl (E 0, 576, .inl (fun _ => 0))), (n_left7, .inl (E 3, 24, .inl (fun _ => 0))), (q8, .inl (E 0, 24, .inl (fun _ => 0))), (q9, .inl (E 0, 24, .inl (fun _ => 0)))] := hD
  refine lv_aload_n hx hb dX1_init_61 rfl (lv_at hl 0 rfl) ?_
  refine va_new (ci := 8) (fs := df0X8) (C := RX8) (T := TX8) (N := 5) hx hb hts inX8 tyX8 tyX8_ok hown (hts _ b_354) (hts _ b_264) (hts _ b_83) hK hP hD hS hA rfl dfX8 (by decide) (by decide) dX1_init_62 (fun q10 H hP hD hS => ?_)
  refine W.widen (k := 9) (n := 2387) (by decide) (by decide) ?_
  have hP : va_P D k_cl [(a, .inr (1, [.ref q1, .ref q8, .ref q9, .int 0, .int 0, .int 0, .int 4, .int 2, .int 1, .null, .null, .null, .null, .int 0])), (q1, .inr (3, [.ref n_lengths3, .ref n_counts4, .ref n_overs5, .ref n_arcNumbers6, .ref n_left7, .int 0])), (n_lengths3, .inl (E 1, 576, .inr (.inl (fun _ => 0)))), (n_counts4, .inl (E 0, 576, .inl (fun _ => 0))), (n_overs5, .inl (E 0, 576, .inl (fun _ => 0))), (n_arcNumbers6, .inl (E 0, 576, .inl (fun _ => 0))), (n_left7, .inl (E 3, 24, .inl (fun _ => 0))), (q8, .inl (E 0, 24, .inl (fun _ => 0))), (q9, .inl (E 0, 24, .inl (fun _ => 0))), (q10, .inr (8, [.null, .null, .null, .int 0, .null]))] H := hP
  have hD : va_D A [(a, .inr (1, [.ref q1, .ref q8, .ref q9, .int 0, .int 0, .int 0, .int 4, .int 2, .int 1, .null, .null, .null, .null, .int 0])), (q1, .inr (3, [.ref n_lengths3, .ref n_counts4, .ref n_overs5, .ref n_arcNumbers6, .ref n_left7, .int 0])), (n_lengths3, .inl (E 1, 576, .inr (.inl (fun _ => 0)))), (n_counts4, .inl (E 0, 576, .inl (fun _ => 0))), (n_overs5, .inl (E 0, 576, .inl (fun _ => 0))), (n_arcNumbers6, .inl (E 0, 576, .inl (fun _ => 0))), (n_left7, .inl (E 3, 24, .inl (fun _ => 0))), (q8, .inl (E 0, 24, .inl (fun _ => 0))), (q9, .inl (E 0, 24, .inl (fun _ => 0))), (q10, .inr (8, [.null, .null, .null, .int 0, .null]))] := hD
  refine lv_dup hx hb dX1_init_65 rfl ?_
  refine k_MN (As := []) (rest := [.ref q10, .ref a])  (wr := [(a, .inr (1, [.ref q1, .ref q8, .ref q9, .int 0, .int 0, .int 0, .int 4, .int 2, .int 1, .null, .null, .null, .null, .int 0])), (q1, .inr (3, [.ref n_lengths3, .ref n_counts4, .ref n_overs5, .ref n_arcNumbers6, .ref n_left7, .int 0])), (n_lengths3, .inl (E 1, 576, .inr (.inl (fun _ => 0)))), (n_counts4, .inl (E 0, 576, .inl (fun _ => 0))), (n_overs5, .inl (E 0, 576, .inl (fun _ => 0))), (n_arcNumbers6, .inl (E 0, 576, .inl (fun _ => 0))), (n_left7, .inl (E 3, 24, .inl (fun _ => 0))), (q8, .inl (E 0, 24, .inl (fun _ => 0))), (q9, .inl (E 0, 24, .inl (fun _ => 0)))]) ⟨hx, hb, hml, hown, hts⟩ (i_Ways l D E sa q10) (by decide) b_266 b_83 b_267 ⟨rfl, hd_X8_init⟩ ⟨⟨by decide, by decide⟩, by decide, by decide⟩ hK hP hD hS hA hZ [9] [0, 1, 2, 3, 4, 5, 6, 7, 8] rfl rfl (by decide) rfl hl.1 (Nat.le_of_ble_eq_true rfl) dX1_init_66 (fun u11 H locs hu hP hD hS _ => ?_)
  refine W.widen (k := 13) (n := 2483) (by decide) (by decide) ?_
  have hP : va_P D k_cl [(a, .inr (1, [.ref q1, .ref q8, .ref q9, .int 0, .int 0, .int 0, .int 4, .int 2, .int 1, .null, .null, .null, .null, .int 0])), (q1, .inr (3, [.ref n_lengths3, .ref n_counts4, .ref n_overs5, .ref n_arcNumbers6, .ref n_left7, .int 0])), (n_lengths3, .inl (E 1, 576, .inr (.inl (fun _ => 0)))), (n_counts4, .inl (E 0, 576, .inl (fun _ => 0))), (n_overs5, .inl (E 0, 576, .inl (fun _ => 0))), (n_arcNumbers6, .inl (E 0, 576, .inl (fun _ => 0))), (n_left7, .inl (E 3, 24, .inl (fun _ => 0))), (q8, .inl (E 0, 24, .inl (fun _ => 0))), (q9, .inl (E 0, 24, .inl (fun _ => 0)))] H := hP
  have hD : va_D A [(a, .inr (1, [.ref q1, .ref q8, .ref q9, .int 0, .int 0, .int 0, .int 4, .int 2, .int 1, .null, .null, .null, .null, .int 0])), (q1, .inr (3, [.ref n_lengths3, .ref n_counts4, .ref n_overs5, .ref n_arcNumbers6, .ref n_left7, .int 0])), (n_lengths3, .inl (E 1, 576, .inr (.inl (fun _ => 0)))), (n_counts4, .inl (E 0, 576, .inl (fun _ => 0))), (n_overs5, .inl (E 0, 576, .inl (fun _ => 0))), (n_arcNumbers6, .inl (E 0, 576, .inl (fun _ => 0))), (n_left7, .inl (E 3, 24, .inl (fun _ => 0))), (q8, .inl (E 0, 24, .inl (fun _ => 0))), (q9, .inl (E 0, 24, .inl (fun _ => 0)))] := hD
  refine W.eq (g2 := F0 m 69 ls [.ref q10, .ref a]) rfl ?_
  refine va_putF (D := D) (ci := 1) (v := .ref q10) (ty := (.object "RoutePlanner$Ways")) (C := RX1) (T := TX1) (N := 14) hx hb hts inX1 tyX1 tyX1_ok nmX1 hown hK hP hD hS 0 rfl rfl 9 (by decide) (hts _ b_377) (fun _ h9 => h9) rfl hnm rfl (by decide +kernel) rfl rfl (Nat.le_of_ble_eq_true rfl) dX1_init_69 (fun H locs hP hD hS => ?_)
  have hP : va_P D k_cl [(a, .inr (1, [.ref q1, .ref q8, .ref q9, .int 0, .int 0, .int 0, .int 4, .int 2, .int 1, .ref q10, .null, .null, .null, .int 0])), (q1, .inr (3, [.ref n_lengths3, .ref n_counts4, .ref n_overs5, .ref n_arcNumbers6, .ref n_left7, .int 0])), (n_lengths3, .inl (E 1, 576, .inr (.inl (fun _ => 0)))), (n_counts4, .inl (E 0, 576, .inl (fun _ => 0))), (n_overs5, .inl (E 0, 576, .inl (fun _ => 0))), (n_arcNumbers6, .inl (E 0, 576, .inl (fun _ => 0))), (n_left7, .inl (E 3, 24, .inl (fun _ => 0))), (q8, .inl (E 0, 24, .inl (fun _ => 0))), (q9, .inl (E 0, 24, .inl (fun _ => 0)))] H := hP
  have hD : va_D A [(a, .inr (1, [.ref q1, .ref q8, .ref q9, .int 0, .int 0, .int 0, .int 4, .int 2, .int 1, .ref q10, .null, .null, .null, .int 0])), (q1, .inr (3, [.ref n_lengths3, .ref n_counts4, .ref n_overs5, .ref n_arcNumbers6, .ref n_left7, .int 0])), (n_lengths3, .inl (E 1, 576, .inr (.inl (fun _ => 0)))), (n_counts4, .inl (E 0, 576, .inl (fun _ => 0))), (n_overs5, .inl (E 0, 576, .inl (fun _ => 0))), (n_arcNumbers6, .inl (E 0, 576, .inl (fun _ => 0))), (n_left7, .inl (E 3, 24, .inl (fun _ => 0))), (q8, .inl (E 0, 24, .inl (fun _ => 0))), (q9, .inl (E 0, 24, .inl (fun _ => 0)))] := hD
  refine lv_aload_n hx hb dX1_init_72 rfl (lv_at hl 0 rfl) ?_
  refine lv_bipush (v := 24) hx hb dX1_init_73 (by decide) ?_
  refine k_newa (E := E) 0 (N9 := 24) hx hb (hts _ b_178) (by rfl) rfl rfl hK hP hD hS hA (a0 := (24, .inl (fun _ => 0))) (fun _ => rfl) (by decide) (by decide) (by decide) (by decide) (by decide) dX1_init_75 (fun q12 H hP hD hS => ?_)
  refine W.widen (k := 14) (n := 2507) (by decide) (by decide) ?_
  have hP : va_P D k_cl [(a, .inr (1, [.ref q1, .ref q8, .ref q9, .int 0, .int 0, .int 0, .int 4, .int 2, .int 1, .ref q10, .null, .null, .null, .int 0])), (q1, .inr (3, [.ref n_lengths3, .ref n_counts4, .ref n_overs5, .ref n_arcNumbers6, .ref n_left7, .int 0])), (n_lengths3, .inl (E 1, 576, .inr (.inl (fun _ => 0)))), (n_counts4, .inl (E 0, 576, .inl (fun _ => 0))), (n_overs5, .inl (E 0, 576, .inl (fun _ => 0))), (n_arcNumbers6, .inl (E 0, 576, .inl (fun _ => 0))), (n_left7, .inl (E 3, 24, .inl (fun _ => 0))), (q8, .inl (E 0, 24, .inl (fun _ => 0))), (q9, .inl (E 0, 24, .inl (fun _ => 0))), (q12, .inl (E 0, 24, .inl (fun _ => 0)))] H := hP
  have hD : va_D A [(a, .inr (1, [.ref q1, .ref q8, .ref q9, .int 0, .int 0, .int 0, .int 4, .int 2, .int 1, .ref q10, .null, .null, .null, .int 0])), (q1, .inr (3, [.ref n_lengths3, .ref n_counts4, .ref n_overs5, .ref n_arcNumbers6, .ref n_left7, .int 0])), (n_lengths3, .inl (E 1, 576, .inr (.inl (fun _ => 0)))), (n_counts4, .inl (E 0, 576, .inl (fun _ => 0))), (n_overs5, .inl (E 0, 576, .inl (fun _ => 0))), (n_arcNumbers6, .inl (E 0, 576, .inl (fun _ => 0))), (n_left7, .inl (E 3, 24, .inl (fun _ => 0))), (q8, .inl (E 0, 24, .inl (fun _ => 0))), (q9, .inl (E 0, 24, .inl (fun _ => 0))), (q12, .inl (E 0, 24, .inl (fun _ => 0)))] := hD
  refine va_putF (D := D) (ci := 1) (v := .ref q12) (ty := (.array .int)) (C := RX1) (T := TX1) (N := 14) hx hb hts inX1 tyX1 tyX1_ok nmX1 hown hK hP hD hS 0 rfl rfl 10 (by decide) (hts _ b_378) (fun _ h9 => h9) rfl hnm rfl (by decide +kernel) rfl rfl (Nat.le_of_ble_eq_true rfl) dX1_init_77 (fun H locs hP hD hS => ?_)
  have hP : va_P D k_cl [(a, .inr (1, [.ref q1, .ref q8, .ref q9, .int 0, .int 0, .int 0, .int 4, .int 2, .int 1, .ref q10, .ref q12, .null, .null, .int 0])), (q1, .inr (3, [.ref n_lengths3, .ref n_counts4, .ref n_overs5, .ref n_arcNumbers6, .ref n_left7, .int 0])), (n_lengths3, .inl (E 1, 576, .inr (.inl (fun _ => 0)))), (n_counts4, .inl (E 0, 576, .inl (fun _ => 0))), (n_overs5, .inl (E 0, 576, .inl (fun _ => 0))), (n_arcNumbers6, .inl (E 0, 576, .inl (fun _ => 0))), (n_left7, .inl (E 3, 24, .inl (fun _ => 0))), (q8, .inl (E 0, 24, .inl (fun _ => 0))), (q9, .inl (E 0, 24, .inl (fun _ => 0))), (q12, .inl (E 0, 24, .inl (fun _ => 0)))] H := hP
  have hD : va_D A [(a, .inr (1, [.ref q1, .ref q8, .ref q9, .int 0, .int 0, .int 0, .int 4, .int 2, .int 1, .ref q10, .ref q12, .null, .null, .int 0])), (q1, .inr (3, [.ref n_lengths3, .ref n_counts4, .ref n_overs5, .ref n_arcNumbers6, .ref n_left7, .int 0])), (n_lengths3, .inl (E 1, 576, .inr (.inl (fun _ => 0)))), (n_counts4, .inl (E 0, 576, .inl (fun _ => 0))), (n_overs5, .inl (E 0, 576, .inl (fun _ => 0))), (n_arcNumbers6, .inl (E 0, 576, .inl (fun _ => 0))), (n_left7, .inl (E 3, 24, .inl (fun _ => 0))), (q8, .inl (E 0, 24, .inl (fun _ => 0))), (q9, .inl (E 0, 24, .inl (fun _ => 0))), (q12, .inl (E 0, 24, .inl (fun _ => 0)))] := hD
  refine lv_aload_n hx hb dX1_init_80 rfl (lv_at hl 0 rfl) ?_
  refine lv_sipush (v := 576) hx hb dX1_init_81 (by decide) ?_
  refine k_newa (E := E) 0 (N9 := 576) hx hb (hts _ b_178) (by rfl) rfl rfl hK hP hD hS hA (a0 := (576, .inl (fun _ => 0))) (fun _ => rfl) (by decide) (by decide) (by decide) (by decide) (by decide) dX1_init_84 (fun q13 H hP hD hS => ?_)
  refine W.widen (k := 15) (n := 3083) (by decide) (by decide) ?_
  have hP : va_P D k_cl [(a, .inr (1, [.ref q1, .ref q8, .ref q9, .int 0, .int 0, .int 0, .int 4, .int 2, .int 1, .ref q10, .ref q12, .null, .null, .int 0])), (q1, .inr (3, [.ref n_lengths3, .ref n_counts4, .ref n_overs5, .ref n_arcNumbers6, .ref n_left7, .int 0])), (n_lengths3, .inl (E 1, 576, .inr (.inl (fun _ => 0)))), (n_counts4, .inl (E 0, 576, .inl (fun _ => 0))), (n_overs5, .inl (E 0, 576, .inl (fun _ => 0))), (n_arcNumbers6, .inl (E 0, 576, .inl (fun _ => 0))), (n_left7, .inl (E 3, 24, .inl (fun _ => 0))), (q8, .inl (E 0, 24, .inl (fun _ => 0))), (q9, .inl (E 0, 24, .inl (fun _ => 0))), (q12, .inl (E 0, 24, .inl (fun _ => 0))), (q13, .inl (E 0, 576, .inl (fun _ => 0)))] H := hP
  have hD : va_D A [(a, .inr (1, [.ref q1, .ref q8, .ref q9, .int 0, .int 0, .int 0, .int 4, .int 2, .int 1, .ref q10, .ref q12, .null, .null, .int 0])), (q1, .inr (3, [.ref n_lengths3, .ref n_counts4, .ref n_overs5, .ref n_arcNumbers6, .ref n_left7, .int 0])), (n_lengths3, .inl (E 1, 576, .inr (.inl (fun _ => 0)))), (n_counts4, .inl (E 0, 576, .inl (fun _ => 0))), (n_overs5, .inl (E 0, 576, .inl (fun _ => 0))), (n_arcNumbers6, .inl (E 0, 576, .inl (fun _ => 0))), (n_left7, .inl (E 3, 24, .inl (fun _ => 0))), (q8, .inl (E 0, 24, .inl (fun _ => 0))), (q9, .inl (E 0, 24, .inl (fun _ => 0))), (q12, .inl (E 0, 24, .inl (fun _ => 0))), (q13, .inl (E 0, 576, .inl (fun _ => 0)))] := hD
  refine va_putF (D := D) (ci := 1) (v := .ref q13) (ty := (.array .int)) (C := RX1) (T := TX1) (N := 14) hx hb hts inX1 tyX1 tyX1_ok nmX1 hown hK hP hD hS 0 rfl rfl 11 (by decide) (hts _ b_379) (fun _ h9 => h9) rfl hnm rfl (by decide +kernel) rfl rfl (Nat.le_of_ble_eq_true rfl) dX1_init_86 (fun H locs hP hD hS => ?_)
  have hP : va_P D k_cl [(a, .inr (1, [.ref q1, .ref q8, .ref q9, .int 0, .int 0, .int 0, .int 4, .int 2, .int 1, .ref q10, .ref q12, .ref q13, .null, .int 0])), (q1, .inr (3, [.ref n_lengths3, .ref n_counts4, .ref n_overs5, .ref n_arcNumbers6, .ref n_left7, .int 0])), (n_lengths3, .inl (E 1, 576, .inr (.inl (fun _ => 0)))), (n_counts4, .inl (E 0, 576, .inl (fun _ => 0))), (n_overs5, .inl (E 0, 576, .inl (fun _ => 0))), (n_arcNumbers6, .inl (E 0, 576, .inl (fun _ => 0))), (n_left7, .inl (E 3, 24, .inl (fun _ => 0))), (q8, .inl (E 0, 24, .inl (fun _ => 0))), (q9, .inl (E 0, 24, .inl (fun _ => 0))), (q12, .inl (E 0, 24, .inl (fun _ => 0))), (q13, .inl (E 0, 576, .inl (fun _ => 0)))] H := hP
  have hD : va_D A [(a, .inr (1, [.ref q1, .ref q8, .ref q9, .int 0, .int 0, .int 0, .int 4, .int 2, .int 1, .ref q10, .ref q12, .ref q13, .null, .int 0])), (q1, .inr (3, [.ref n_lengths3, .ref n_counts4, .ref n_overs5, .ref n_arcNumbers6, .ref n_left7, .int 0])), (n_lengths3, .inl (E 1, 576, .inr (.inl (fun _ => 0)))), (n_counts4, .inl (E 0, 576, .inl (fun _ => 0))), (n_overs5, .inl (E 0, 576, .inl (fun _ => 0))), (n_arcNumbers6, .inl (E 0, 576, .inl (fun _ => 0))), (n_left7, .inl (E 3, 24, .inl (fun _ => 0))), (q8, .inl (E 0, 24, .inl (fun _ => 0))), (q9, .inl (E 0, 24, .inl (fun _ => 0))), (q12, .inl (E 0, 24, .inl (fun _ => 0))), (q13, .inl (E 0, 576, .inl (fun _ => 0)))] := hD
  refine lv_aload_n hx hb dX1_init_89 rfl (lv_at hl 0 rfl) ?_
  refine lv_sipush (v := 576) hx hb dX1_init_90 (by decide) ?_
  refine k_newa (E := E) 0 (N9 := 576) hx hb (hts _ b_178) (by rfl) rfl rfl hK hP hD hS hA (a0 := (576, .inl (fun _ => 0))) (fun _ => rfl) (by decide) (by decide) (by decide) (by decide) (by decide) dX1_init_93 (fun q14 H hP hD hS => ?_)
  refine W.widen (k := 16) (n := 3659) (by decide) (by decide) ?_
  have hP : va_P D k_cl [(a, .inr (1, [.ref q1, .ref q8, .ref q9, .int 0, .int 0, .int 0, .int 4, .int 2, .int 1, .ref q10, .ref q12, .ref q13, .null, .int 0])), (q1, .inr (3, [.ref n_lengths3, .ref n_counts4, .ref n_overs5, .ref n_arcNumbers6, .ref n_left7, .int 0])), (n_lengths3, .inl (E 1, 576, .inr (.inl (fun _ => 0)))), (n_counts4, .inl (E 0, 576, .inl (fun _ => 0))), (n_overs5, .inl (E 0, 576, .inl (fun _ => 0))), (n_arcNumbers6, .inl (E 0, 576, .inl (fun _ => 0))), (n_left7, .inl (E 3, 24, .inl (fun _ => 0))), (q8, .inl (E 0, 24, .inl (fun _ => 0))), (q9, .inl (E 0, 24, .inl (fun _ => 0))), (q12, .inl (E 0, 24, .inl (fun _ => 0))), (q13, .inl (E 0, 576, .inl (fun _ => 0))), (q14, .inl (E 0, 576, .inl (fun _ => 0)))] H := hP
  have hD : va_D A [(a, .inr (1, [.ref q1, .ref q8, .ref q9, .int 0, .int 0, .int 0, .int 4, .int 2, .int 1, .ref q10, .ref q12, .ref q13, .null, .int 0])), (q1, .inr (3, [.ref n_lengths3, .ref n_counts4, .ref n_overs5, .ref n_arcNumbers6, .ref n_left7, .int 0])), (n_lengths3, .inl (E 1, 576, .inr (.inl (fun _ => 0)))), (n_counts4, .inl (E 0, 576, .inl (fun _ => 0))), (n_overs5, .inl (E 0, 576, .inl (fun _ => 0))), (n_arcNumbers6, .inl (E 0, 576, .inl (fun _ => 0))), (n_left7, .inl (E 3, 24, .inl (fun _ => 0))), (q8, .inl (E 0, 24, .inl (fun _ => 0))), (q9, .inl (E 0, 24, .inl (fun _ => 0))), (q12, .inl (E 0, 24, .inl (fun _ => 0))), (q13, .inl (E 0, 576, .inl (fun _ => 0))), (q14, .inl (E 0, 576, .inl (fun _ => 0)))] := hD
  refine va_putF (D := D) (ci := 1) (v := .ref q14) (ty := (.array .int)) (C := RX1) (T := TX1) (N := 14) hx hb hts inX1 tyX1 tyX1_ok nmX1 hown hK hP hD hS 0 rfl rfl 12 (by decide) (hts _ b_380) (fun _ h9 => h9) rfl hnm rfl (by decide +kernel) rfl rfl (Nat.le_of_ble_eq_true rfl) dX1_init_95 (fun H locs hP hD hS => ?_)
  have hP : va_P D k_cl [(a, .inr (1, [.ref q1, .ref q8, .ref q9, .int 0, .int 0, .int 0, .int 4, .int 2, .int 1, .ref q10, .ref q12, .ref q13, .ref q14, .int 0])), (q1, .inr (3, [.ref n_lengths3, .ref n_counts4, .ref n_overs5, .ref n_arcNumbers6, .ref n_left7, .int 0])), (n_lengths3, .inl (E 1, 576, .inr (.inl (fun _ => 0)))), (n_counts4, .inl (E 0, 576, .inl (fun _ => 0))), (n_overs5, .inl (E 0, 576, .inl (fun _ => 0))), (n_arcNumbers6, .inl (E 0, 576, .inl (fun _ => 0))), (n_left7, .inl (E 3, 24, .inl (fun _ => 0))), (q8, .inl (E 0, 24, .inl (fun _ => 0))), (q9, .inl (E 0, 24, .inl (fun _ => 0))), (q12, .inl (E 0, 24, .inl (fun _ => 0))), (q13, .inl (E 0, 576, .inl (fun _ => 0))), (q14, .inl (E 0, 576, .inl (fun _ => 0)))] H := hP
  have hD : va_D A [(a, .inr (1, [.ref q1, .ref q8, .ref q9, .int 0, .int 0, .int 0, .int 4, .int 2, .int 1, .ref q10, .ref q12, .ref q13, .ref q14, .int 0])), (q1, .inr (3, [.ref n_lengths3, .ref n_counts4, .ref n_overs5, .ref n_arcNumbers6, .ref n_left7, .int 0])), (n_lengths3, .inl (E 1, 576, .inr (.inl (fun _ => 0)))), (n_counts4, .inl (E 0, 576, .inl (fun _ => 0))), (n_overs5, .inl (E 0, 576, .inl (fun _ => 0))), (n_arcNumbers6, .inl (E 0, 576, .inl (fun _ => 0))), (n_left7, .inl (E 3, 24, .inl (fun _ => 0))), (q8, .inl (E 0, 24, .inl (fun _ => 0))), (q9, .inl (E 0, 24, .inl (fun _ => 0))), (q12, .inl (E 0, 24, .inl (fun _ => 0))), (q13, .inl (E 0, 576, .inl (fun _ => 0))), (q14, .inl (E 0, 576, .inl (fun _ => 0)))] := hD
  refine lv_aload_n hx hb dX1_init_98 rfl (lv_at hl 0 rfl) ?_
  refine lv_iconst (v := 0) hx hb dX1_init_99 (by decide) ?_
  refine va_put (D := D) (ci := 1) (v := .int 0) (ty := .int) (C := RX1) (T := TX1) (N := 14) hx hb hts inX1 tyX1 tyX1_ok nmX1 hown hK hP hD hS 0 rfl rfl 13 (by decide) (hts _ b_381) (fun _ h9 => h9) rfl (by decide +kernel) rfl rfl (Nat.le_of_ble_eq_true rfl) dX1_init_100 (fun H locs hP hD hS => ?_)
  have hP : va_P D k_cl [(a, .inr (1, [.ref q1, .ref q8, .ref q9, .int 0, .int 0, .int 0, .int 4, .int 2, .int 1, .ref q10, .ref q12, .ref q13, .ref q14, .int 0])), (q1, .inr (3, [.ref n_lengths3, .ref n_counts4, .ref n_overs5, .ref n_arcNumbers6, .ref n_left7, .int 0])), (n_lengths3, .inl (E 1, 576, .inr (.inl (fun _ => 0)))), (n_counts4, .inl (E 0, 576, .inl (fun _ => 0))), (n_overs5, .inl (E 0, 576, .inl (fun _ => 0))), (n_arcNumbers6, .inl (E 0, 576, .inl (fun _ => 0))), (n_left7, .inl (E 3, 24, .inl (fun _ => 0))), (q8, .inl (E 0, 24, .inl (fun _ => 0))), (q9, .inl (E 0, 24, .inl (fun _ => 0))), (q12, .inl (E 0, 24, .inl (fun _ => 0))), (q13, .inl (E 0, 576, .inl (fun _ => 0))), (q14, .inl (E 0, 576, .inl (fun _ => 0)))] H := hP
  have hD : va_D A [(a, .inr (1, [.ref q1, .ref q8, .ref q9, .int 0, .int 0, .int 0, .int 4, .int 2, .int 1, .ref q10, .ref q12, .ref q13, .ref q14, .int 0])), (q1, .inr (3, [.ref n_lengths3, .ref n_counts4, .ref n_overs5, .ref n_arcNumbers6, .ref n_left7, .int 0])), (n_lengths3, .inl (E 1, 576, .inr (.inl (fun _ => 0)))), (n_counts4, .inl (E 0, 576, .inl (fun _ => 0))), (n_overs5, .inl (E 0, 576, .inl (fun _ => 0))), (n_arcNumbers6, .inl (E 0, 576, .inl (fun _ => 0))), (n_left7, .inl (E 3, 24, .inl (fun _ => 0))), (q8, .inl (E 0, 24, .inl (fun _ => 0))), (q9, .inl (E 0, 24, .inl (fun _ => 0))), (q12, .inl (E 0, 24, .inl (fun _ => 0))), (q13, .inl (E 0, 576, .inl (fun _ => 0))), (q14, .inl (E 0, 576, .inl (fun _ => 0)))] := hD
  exact m_v ⟨q1, q8, q9, q10, q12, q13, q14, n_lengths3, n_counts4, n_overs5, n_arcNumbers6, n_left7⟩ hx hb hr hlocks rfl trivial (hP.sub [0, 9, 1, 2, 3, 4, 5, 6] rfl) (hD.sub [0, 9, 1, 2, 3, 4, 5, 6] (by decide) rfl) hS (by decide) (by decide) dX1_init_103
set_option maxRecDepth 20000 in
set_option maxHeartbeats 2000000 in
theorem i_Route (l : Launch) (D : va_G) (E : Nat → ClassId) (sa : Nat → Nat) (a : Nat) : KM l yX5_init (.code yX5_init cX5_init 1 none) 12 400 8 1321 D E sa [.ref a] [(a, .inr (5, [.null, .null, .null, .int 0, .int 0, .int 0, .int 0, .int 0, .int 0, .int 0, .int 0, .long 0, .null, .null, .null, .null, .null]))] (S := Nat × Nat × Nat × Nat × Nat × Nat × Nat × Nat) (fun u => none) (fun _ => True) (fun u => [(a, .inr (5, [.ref u.1, .ref u.2.1, .ref u.2.2.1, .int 0, .int 0, .int 0, .int 0, .int 0, .int 0, .int 0, .int (-1), .long 0, .ref u.2.2.2.1, .ref u.2.2.2.2.1, .ref u.2.2.2.2.2.1, .ref u.2.2.2.2.2.2.1, .ref u.2.2.2.2.2.2.2]))]) := by
  refine KM.of (by decide) (Nat.le_of_ble_eq_true rfl) ?_
  intro p e s m below meth c A ls hx hb hr hts hml hown hlocks hnm hK hP hD hA hS hZ hl
  have hown : s.vm.findClass RX5 = some m.cls := hown
  have hl : lv_has ls 1 [(0, .ref a)] := hl
  refine lv_aload_n hx hb dX5_init_0 rfl (lv_at hl 0 rfl) ?_
  refine W.objInit hx hb hown (hts _ b_416) (hts _ b_oi) (hts _ b_oc) rfl (by rw [hml]; exact hl.1) rfl dX5_init_1 (by decide) (Nat.le_of_ble_eq_true rfl) ?_
  refine W.eq (g2 := F0 m 4 ls []) rfl ?_
  refine lv_aload_n hx hb dX5_init_4 rfl (lv_at hl 0 rfl) ?_
  refine lv_sipush (v := 576) hx hb dX5_init_5 (by decide) ?_
  refine k_newa (E := E) 0 (N9 := 576) hx hb (hts _ b_178) (by rfl) rfl rfl hK hP hD hS hA (a0 := (576, .inl (fun _ => 0))) (fun _ => rfl) (by decide) (by decide) (by decide) (by decide) (by decide) dX5_init_8 (fun q1 H hP hD hS => ?_)
  refine W.widen (k := 1) (n := 576) (by decide) (by decide) ?_
  have hP : va_P D k_cl [(a, .inr (5, [.null, .null, .null, .int 0, .int 0, .int 0, .int 0, .int 0, .int 0, .int 0, .int 0, .long 0, .null, .null, .null, .null, .null])), (q1, .inl (E 0, 576, .inl (fun _ => 0)))] H := hP
  have hD : va_D A [(a, .inr (5, [.null, .null, .null, .int 0, .int 0, .int 0, .int 0, .int 0, .int 0, .int 0, .int 0, .long 0, .null, .null, .null, .null, .null])), (q1, .inl (E 0, 576, .inl (fun _ => 0)))] := hD
  refine va_putF (D := D) (ci := 5) (v := .ref q1) (ty := (.array .int)) (C := RX5) (T := TX5) (N := 17) hx hb hts inX5 tyX5 tyX5_ok nmX5 hown hK hP hD hS 0 rfl rfl 0 (by decide) (hts _ b_417) (fun _ h9 => h9) rfl hnm rfl (by decide +kernel) rfl rfl (Nat.le_of_ble_eq_true rfl) dX5_init_10 (fun H locs hP hD hS => ?_)
  have hP : va_P D k_cl [(a, .inr (5, [.ref q1, .null, .null, .int 0, .int 0, .int 0, .int 0, .int 0, .int 0, .int 0, .int 0, .long 0, .null, .null, .null, .null, .null])), (q1, .inl (E 0, 576, .inl (fun _ => 0)))] H := hP
  have hD : va_D A [(a, .inr (5, [.ref q1, .null, .null, .int 0, .int 0, .int 0, .int 0, .int 0, .int 0, .int 0, .int 0, .long 0, .null, .null, .null, .null, .null])), (q1, .inl (E 0, 576, .inl (fun _ => 0)))] := hD
  refine lv_aload_n hx hb dX5_init_13 rfl (lv_at hl 0 rfl) ?_
  refine lv_sipush (v := 576) hx hb dX5_init_14 (by decide) ?_
  refine k_newa (E := E) 0 (N9 := 576) hx hb (hts _ b_178) (by rfl) rfl rfl hK hP hD hS hA (a0 := (576, .inl (fun _ => 0))) (fun _ => rfl) (by decide) (by decide) (by decide) (by decide) (by decide) dX5_init_17 (fun q2 H hP hD hS => ?_)
  refine W.widen (k := 2) (n := 1152) (by decide) (by decide) ?_
  have hP : va_P D k_cl [(a, .inr (5, [.ref q1, .null, .null, .int 0, .int 0, .int 0, .int 0, .int 0, .int 0, .int 0, .int 0, .long 0, .null, .null, .null, .null, .null])), (q1, .inl (E 0, 576, .inl (fun _ => 0))), (q2, .inl (E 0, 576, .inl (fun _ => 0)))] H := hP
  have hD : va_D A [(a, .inr (5, [.ref q1, .null, .null, .int 0, .int 0, .int 0, .int 0, .int 0, .int 0, .int 0, .int 0, .long 0, .null, .null, .null, .null, .null])), (q1, .inl (E 0, 576, .inl (fun _ => 0))), (q2, .inl (E 0, 576, .inl (fun _ => 0)))] := hD
  refine va_putF (D := D) (ci := 5) (v := .ref q2) (ty := (.array .int)) (C := RX5) (T := TX5) (N := 17) hx hb hts inX5 tyX5 tyX5_ok nmX5 hown hK hP hD hS 0 rfl rfl 1 (by decide) (hts _ b_419) (fun _ h9 => h9) rfl hnm rfl (by decide +kernel) rfl rfl (Nat.le_of_ble_eq_true rfl) dX5_init_19 (fun H locs hP hD hS => ?_)
  have hP : va_P D k_cl [(a, .inr (5, [.ref q1, .ref q2, .null, .int 0, .int 0, .int 0, .int 0, .int 0, .int 0, .int 0, .int 0, .long 0, .null, .null, .null, .null, .null])), (q1, .inl (E 0, 576, .inl (fun _ => 0))), (q2, .inl (E 0, 576, .inl (fun _ => 0)))] H := hP
  have hD : va_D A [(a, .inr (5, [.ref q1, .ref q2, .null, .int 0, .int 0, .int 0, .int 0, .int 0, .int 0, .int 0, .int 0, .long 0, .null, .null, .null, .null, .null])), (q1, .inl (E 0, 576, .inl (fun _ => 0))), (q2, .inl (E 0, 576, .inl (fun _ => 0)))] := hD
  refine lv_aload_n hx hb dX5_init_22 rfl (lv_at hl 0 rfl) ?_
  refine lv_bipush (v := 24) hx hb dX5_init_23 (by decide) ?_
  refine k_newa (E := E) 0 (N9 := 24) hx hb (hts _ b_178) (by rfl) rfl rfl hK hP hD hS hA (a0 := (24, .inl (fun _ => 0))) (fun _ => rfl) (by decide) (by decide) (by decide) (by decide) (by decide) dX5_init_25 (fun q3 H hP hD hS => ?_)
  refine W.widen (k := 3) (n := 1176) (by decide) (by decide) ?_
  have hP : va_P D k_cl [(a, .inr (5, [.ref q1, .ref q2, .null, .int 0, .int 0, .int 0, .int 0, .int 0, .int 0, .int 0, .int 0, .long 0, .null, .null, .null, .null, .null])), (q1, .inl (E 0, 576, .inl (fun _ => 0))), (q2, .inl (E 0, 576, .inl (fun _ => 0))), (q3, .inl (E 0, 24, .inl (fun _ => 0)))] H := hP
  have hD : va_D A [(a, .inr (5, [.ref q1, .ref q2, .null, .int 0, .int 0, .int 0, .int 0, .int 0, .int 0, .int 0, .int 0, .long 0, .null, .null, .null, .null, .null])), (q1, .inl (E 0, 576, .inl (fun _ => 0))), (q2, .inl (E 0, 576, .inl (fun _ => 0))), (q3, .inl (E 0, 24, .inl (fun _ => 0)))] := hD
  refine va_putF (D := D) (ci := 5) (v := .ref q3) (ty := (.array .int)) (C := RX5) (T := TX5) (N := 17) hx hb hts inX5 tyX5 tyX5_ok nmX5 hown hK hP hD hS 0 rfl rfl 2 (by decide) (hts _ b_421) (fun _ h9 => h9) rfl hnm rfl (by decide +kernel) rfl rfl (Nat.le_of_ble_eq_true rfl) dX5_init_27 (fun H locs hP hD hS => ?_)
  have hP : va_P D k_cl [(a, .inr (5, [.ref q1, .ref q2, .ref q3, .int 0, .int 0, .int 0, .int 0, .int 0, .int 0, .int 0, .int 0, .long 0, .null, .null, .null, .null, .null])), (q1, .inl (E 0, 576, .inl (fun _ => 0))), (q2, .inl (E 0, 576, .inl (fun _ => 0))), (q3, .inl (E 0, 24, .inl (fun _ => 0)))] H := hP
  have hD : va_D A [(a, .inr (5, [.ref q1, .ref q2, .ref q3, .int 0, .int 0, .int 0, .int 0, .int 0, .int 0, .int 0, .int 0, .long 0, .null, .null, .null, .null, .null])), (q1, .inl (E 0, 576, .inl (fun _ => 0))), (q2, .inl (E 0, 576, .inl (fun _ => 0))), (q3, .inl (E 0, 24, .inl (fun _ => 0)))] := hD
  refine lv_aload_n hx hb dX5_init_30 rfl (lv_at hl 0 rfl) ?_
  refine lv_iconst (v := 0) hx hb dX5_init_31 (by decide) ?_
  refine va_put (D := D) (ci := 5) (v := .int 0) (ty := .boolean) (C := RX5) (T := TX5) (N := 17) hx hb hts inX5 tyX5 tyX5_ok nmX5 hown hK hP hD hS 0 rfl rfl 3 (by decide) (hts _ b_423) (fun _ h9 => h9) rfl (by decide +kernel) rfl rfl (Nat.le_of_ble_eq_true rfl) dX5_init_32 (fun H locs hP hD hS => ?_)
  have hP : va_P D k_cl [(a, .inr (5, [.ref q1, .ref q2, .ref q3, .int 0, .int 0, .int 0, .int 0, .int 0, .int 0, .int 0, .int 0, .long 0, .null, .null, .null, .null, .null])), (q1, .inl (E 0, 576, .inl (fun _ => 0))), (q2, .inl (E 0, 576, .inl (fun _ => 0))), (q3, .inl (E 0, 24, .inl (fun _ => 0)))] H := hP
  have hD : va_D A [(a, .inr (5, [.ref q1, .ref q2, .ref q3, .int 0, .int 0, .int 0, .int 0, .int 0, .int 0, .int 0, .int 0, .long 0, .null, .null, .null, .null, .null])), (q1, .inl (E 0, 576, .inl (fun _ => 0))), (q2, .inl (E 0, 576, .inl (fun _ => 0))), (q3, .inl (E 0, 24, .inl (fun _ => 0)))] := hD
  refine lv_aload_n hx hb dX5_init_35 rfl (lv_at hl 0 rfl) ?_
  refine lv_iconst (v := 0) hx hb dX5_init_36 (by decide) ?_
  refine va_put (D := D) (ci := 5) (v := .int 0) (ty := .int) (C := RX5) (T := TX5) (N := 17) hx hb hts inX5 tyX5 tyX5_ok nmX5 hown hK hP hD hS 0 rfl rfl 4 (by decide) (hts _ b_425) (fun _ h9 => h9) rfl (by decide +kernel) rfl rfl (Nat.le_of_ble_eq_true rfl) dX5_init_37 (fun H locs hP hD hS => ?_)
  have hP : va_P D k_cl [(a, .inr (5, [.ref q1, .ref q2, .ref q3, .int 0, .int 0, .int 0, .int 0, .int 0, .int 0, .int 0, .int 0, .long 0, .null, .null, .null, .null, .null])), (q1, .inl (E 0, 576, .inl (fun _ => 0))), (q2, .inl (E 0, 576, .inl (fun _ => 0))), (q3, .inl (E 0, 24, .inl (fun _ => 0)))] H := hP
  have hD : va_D A [(a, .inr (5, [.ref q1, .ref q2, .ref q3, .int 0, .int 0, .int 0, .int 0, .int 0, .int 0, .int 0, .int 0, .long 0, .null, .null, .null, .null, .null])), (q1, .inl (E 0, 576, .inl (fun _ => 0))), (q2, .inl (E 0, 576, .inl (fun _ => 0))), (q3, .inl (E 0, 24, .inl (fun _ => 0)))] := hD
  refine lv_aload_n hx hb dX5_init_40 rfl (lv_at hl 0 rfl) ?_
  refine lv_iconst (v := 0) hx hb dX5_init_41 (by decide) ?_
  refine va_put (D := D) (ci := 5) (v := .int 0) (ty := .int) (C := RX5) (T := TX5) (N := 17) hx hb hts inX5 tyX5 tyX5_ok nmX5 hown hK hP hD hS 0 rfl rfl 5 (by decide) (hts _ b_427) (fun _ h9 => h9) rfl (by decide +kernel) rfl rfl (Nat.le_of_ble_eq_true rfl) dX5_init_42 (fun H locs hP hD hS => ?_)
  have hP : va_P D k_cl [(a, .inr (5, [.ref q1, .ref q2, .ref q3, .int 0, .int 0, .int 0, .int 0, .int 0, .int 0, .int 0, .int 0, .long 0, .null, .null, .null, .null, .null])), (q1, .inl (E 0, 576, .inl (fun _ => 0))), (q2, .inl (E 0, 576, .inl (fun _ => 0))), (q3, .inl (E 0, 24, .inl (fun _ => 0)))] H := hP
  have hD : va_D A [(a, .inr (5, [.ref q1, .ref q2, .ref q3, .int 0, .int 0, .int 0, .int 0, .int 0, .int 0, .int 0, .int 0, .long 0, .null, .null, .null, .null, .null])), (q1, .inl (E 0, 576, .inl (fun _ => 0))), (q2, .inl (E 0, 576, .inl (fun _ => 0))), (q3, .inl (E 0, 24, .inl (fun _ => 0)))] := hD
  refine lv_aload_n hx hb dX5_init_45 rfl (lv_at hl 0 rfl) ?_
  refine lv_iconst (v := 0) hx hb dX5_init_46 (by decide) ?_
  refine va_put (D := D) (ci := 5) (v := .int 0) (ty := .int) (C := RX5) (T := TX5) (N := 17) hx hb hts inX5 tyX5 tyX5_ok nmX5 hown hK hP hD hS 0 rfl rfl 6 (by decide) (hts _ b_429) (fun _ h9 => h9) rfl (by decide +kernel) rfl rfl (Nat.le_of_ble_eq_true rfl) dX5_init_47 (fun H locs hP hD hS => ?_)
  have hP : va_P D k_cl [(a, .inr (5, [.ref q1, .ref q2, .ref q3, .int 0, .int 0, .int 0, .int 0, .int 0, .int 0, .int 0, .int 0, .long 0, .null, .null, .null, .null, .null])), (q1, .inl (E 0, 576, .inl (fun _ => 0))), (q2, .inl (E 0, 576, .inl (fun _ => 0))), (q3, .inl (E 0, 24, .inl (fun _ => 0)))] H := hP
  have hD : va_D A [(a, .inr (5, [.ref q1, .ref q2, .ref q3, .int 0, .int 0, .int 0, .int 0, .int 0, .int 0, .int 0, .int 0, .long 0, .null, .null, .null, .null, .null])), (q1, .inl (E 0, 576, .inl (fun _ => 0))), (q2, .inl (E 0, 576, .inl (fun _ => 0))), (q3, .inl (E 0, 24, .inl (fun _ => 0)))] := hD
  refine lv_aload_n hx hb dX5_init_50 rfl (lv_at hl 0 rfl) ?_
  refine lv_iconst (v := 0) hx hb dX5_init_51 (by decide) ?_
  refine va_put (D := D) (ci := 5) (v := .int 0) (ty := .int) (C := RX5) (T := TX5) (N := 17) hx hb hts inX5 tyX5 tyX5_ok nmX5 hown hK hP hD hS 0 rfl rfl 7 (by decide) (hts _ b_431) (fun _ h9 => h9) rfl (by decide +kernel) rfl rfl (Nat.le_of_ble_eq_true rfl) dX5_init_52 (fun H locs hP hD hS => ?_)
  have hP : va_P D k_cl [(a, .inr (5, [.ref q1, .ref q2, .ref q3, .int 0, .int 0, .int 0, .int 0, .int 0, .int 0, .int 0, .int 0, .long 0, .null, .null, .null, .null, .null])), (q1, .inl (E 0, 576, .inl (fun _ => 0))), (q2, .inl (E 0, 576, .inl (fun _ => 0))), (q3, .inl (E 0, 24, .inl (fun _ => 0)))] H := hP
  have hD : va_D A [(a, .inr (5, [.ref q1, .ref q2, .ref q3, .int 0, .int 0, .int 0, .int 0, .int 0, .int 0, .int 0, .int 0, .long 0, .null, .null, .null, .null, .null])), (q1, .inl (E 0, 576, .inl (fun _ => 0))), (q2, .inl (E 0, 576, .inl (fun _ => 0))), (q3, .inl (E 0, 24, .inl (fun _ => 0)))] := hD
  refine lv_aload_n hx hb dX5_init_55 rfl (lv_at hl 0 rfl) ?_
  refine lv_iconst (v := 0) hx hb dX5_init_56 (by decide) ?_
  refine va_put (D := D) (ci := 5) (v := .int 0) (ty := .int) (C := RX5) (T := TX5) (N := 17) hx hb hts inX5 tyX5 tyX5_ok nmX5 hown hK hP hD hS 0 rfl rfl 8 (by decide) (hts _ b_433) (fun _ h9 => h9) rfl (by decide +kernel) rfl rfl (Nat.le_of_ble_eq_true rfl) dX5_init_57 (fun H locs hP hD hS => ?_)
  have hP : va_P D k_cl [(a, .inr (5, [.ref q1, .ref q2, .ref q3, .int 0, .int 0, .int 0, .int 0, .int 0, .int 0, .int 0, .int 0, .long 0, .null, .null, .null, .null, .null])), (q1, .inl (E 0, 576, .inl (fun _ => 0))), (q2, .inl (E 0, 576, .inl (fun _ => 0))), (q3, .inl (E 0, 24, .inl (fun _ => 0)))] H := hP
  have hD : va_D A [(a, .inr (5, [.ref q1, .ref q2, .ref q3, .int 0, .int 0, .int 0, .int 0, .int 0, .int 0, .int 0, .int 0, .long 0, .null, .null, .null, .null, .null])), (q1, .inl (E 0, 576, .inl (fun _ => 0))), (q2, .inl (E 0, 576, .inl (fun _ => 0))), (q3, .inl (E 0, 24, .inl (fun _ => 0)))] := hD
  refine lv_aload_n hx hb dX5_init_60 rfl (lv_at hl 0 rfl) ?_
  refine lv_iconst (v := 0) hx hb dX5_init_61 (by decide) ?_
  refine va_put (D := D) (ci := 5) (v := .int 0) (ty := .int) (C := RX5) (T := TX5) (N := 17) hx hb hts inX5 tyX5 tyX5_ok nmX5 hown hK hP hD hS 0 rfl rfl 9 (by decide) (hts _ b_435) (fun _ h9 => h9) rfl (by decide +kernel) rfl rfl (Nat.le_of_ble_eq_true rfl) dX5_init_62 (fun H locs hP hD hS => ?_)
  have hP : va_P D k_cl [(a, .inr (5, [.ref q1, .ref q2, .ref q3, .int 0, .int 0, .int 0, .int 0, .int 0, .int 0, .int 0, .int 0, .long 0, .null, .null, .null, .null, .null])), (q1, .inl (E 0, 576, .inl (fun _ => 0))), (q2, .inl (E 0, 576, .inl (fun _ => 0))), (q3, .inl (E 0, 24, .inl (fun _ => 0)))] H := hP
  have hD : va_D A [(a, .inr (5, [.ref q1, .ref q2, .ref q3, .int 0, .int 0, .int 0, .int 0, .int 0, .int 0, .int 0, .int 0, .long 0, .null, .null, .null, .null, .null])), (q1, .inl (E 0, 576, .inl (fun _ => 0))), (q2, .inl (E 0, 576, .inl (fun _ => 0))), (q3, .inl (E 0, 24, .inl (fun _ => 0)))] := hD
  refine lv_aload_n hx hb dX5_init_65 rfl (lv_at hl 0 rfl) ?_
  refine lv_iconst (v := -1) hx hb dX5_init_66 (by decide) ?_
  refine va_put (D := D) (ci := 5) (v := .int (-1)) (ty := .int) (C := RX5) (T := TX5) (N := 17) hx hb hts inX5 tyX5 tyX5_ok nmX5 hown hK hP hD hS 0 rfl rfl 10 (by decide) (hts _ b_437) (fun _ h9 => h9) rfl (by decide +kernel) rfl rfl (Nat.le_of_ble_eq_true rfl) dX5_init_67 (fun H locs hP hD hS => ?_)
  have hP : va_P D k_cl [(a, .inr (5, [.ref q1, .ref q2, .ref q3, .int 0, .int 0, .int 0, .int 0, .int 0, .int 0, .int 0, .int (-1), .long 0, .null, .null, .null, .null, .null])), (q1, .inl (E 0, 576, .inl (fun _ => 0))), (q2, .inl (E 0, 576, .inl (fun _ => 0))), (q3, .inl (E 0, 24, .inl (fun _ => 0)))] H := hP
  have hD : va_D A [(a, .inr (5, [.ref q1, .ref q2, .ref q3, .int 0, .int 0, .int 0, .int 0, .int 0, .int 0, .int 0, .int (-1), .long 0, .null, .null, .null, .null, .null])), (q1, .inl (E 0, 576, .inl (fun _ => 0))), (q2, .inl (E 0, 576, .inl (fun _ => 0))), (q3, .inl (E 0, 24, .inl (fun _ => 0)))] := hD
  refine lv_aload_n hx hb dX5_init_70 rfl (lv_at hl 0 rfl) ?_
  refine lv_lconst (v := 0) hx hb dX5_init_71 (by decide) ?_
  refine va_put (D := D) (ci := 5) (v := .long 0) (ty := .long) (C := RX5) (T := TX5) (N := 17) hx hb hts inX5 tyX5 tyX5_ok nmX5 hown hK hP hD hS 0 rfl rfl 11 (by decide) (hts _ b_439) (fun _ h9 => h9) rfl (by decide +kernel) rfl rfl (Nat.le_of_ble_eq_true rfl) dX5_init_72 (fun H locs hP hD hS => ?_)
  have hP : va_P D k_cl [(a, .inr (5, [.ref q1, .ref q2, .ref q3, .int 0, .int 0, .int 0, .int 0, .int 0, .int 0, .int 0, .int (-1), .long 0, .null, .null, .null, .null, .null])), (q1, .inl (E 0, 576, .inl (fun _ => 0))), (q2, .inl (E 0, 576, .inl (fun _ => 0))), (q3, .inl (E 0, 24, .inl (fun _ => 0)))] H := hP
  have hD : va_D A [(a, .inr (5, [.ref q1, .ref q2, .ref q3, .int 0, .int 0, .int 0, .int 0, .int 0, .int 0, .int 0, .int (-1), .long 0, .null, .null, .null, .null, .null])), (q1, .inl (E 0, 576, .inl (fun _ => 0))), (q2, .inl (E 0, 576, .inl (fun _ => 0))), (q3, .inl (E 0, 24, .inl (fun _ => 0)))] := hD
  refine lv_aload_n hx hb dX5_init_75 rfl (lv_at hl 0 rfl) ?_
  refine lv_bipush (v := 24) hx hb dX5_init_76 (by decide) ?_
  refine k_newa (E := E) 1 (N9 := 24) hx hb (hts _ b_179) (by rfl) rfl rfl hK hP hD hS hA (a0 := (24, .inr (.inl (fun _ => 0)))) (fun _ => rfl) (by decide) (by decide) (by decide) (by decide) (by decide) dX5_init_78 (fun q4 H hP hD hS => ?_)
  refine W.widen (k := 4) (n := 1200) (by decide) (by decide) ?_
  have hP : va_P D k_cl [(a, .inr (5, [.ref q1, .ref q2, .ref q3, .int 0, .int 0, .int 0, .int 0, .int 0, .int 0, .int 0, .int (-1), .long 0, .null, .null, .null, .null, .null])), (q1, .inl (E 0, 576, .inl (fun _ => 0))), (q2, .inl (E 0, 576, .inl (fun _ => 0))), (q3, .inl (E 0, 24, .inl (fun _ => 0))), (q4, .inl (E 1, 24, .inr (.inl (fun _ => 0))))] H := hP
  have hD : va_D A [(a, .inr (5, [.ref q1, .ref q2, .ref q3, .int 0, .int 0, .int 0, .int 0, .int 0, .int 0, .int 0, .int (-1), .long 0, .null, .null, .null, .null, .null])), (q1, .inl (E 0, 576, .inl (fun _ => 0))), (q2, .inl (E 0, 576, .inl (fun _ => 0))), (q3, .inl (E 0, 24, .inl (fun _ => 0))), (q4, .inl (E 1, 24, .inr (.inl (fun _ => 0))))] := hD
  refine va_putF (D := D) (ci := 5) (v := .ref q4) (ty := (.array .long)) (C := RX5) (T := TX5) (N := 17) hx hb hts inX5 tyX5 tyX5_ok nmX5 hown hK hP hD hS 0 rfl rfl 12 (by decide) (hts _ b_441) (fun _ h9 => h9) rfl hnm rfl (by decide +kernel) rfl rfl (Nat.le_of_ble_eq_true rfl) dX5_init_80 (fun H locs hP hD hS => ?_)
  have hP : va_P D k_cl [(a, .inr (5, [.ref q1, .ref q2, .ref q3, .int 0, .int 0, .int 0, .int 0, .int 0, .int 0, .int 0, .int (-1), .long 0, .ref q4, .null, .null, .null, .null])), (q1, .inl (E 0, 576, .inl (fun _ => 0))), (q2, .inl (E 0, 576, .inl (fun _ => 0))), (q3, .inl (E 0, 24, .inl (fun _ => 0))), (q4, .inl (E 1, 24, .inr (.inl (fun _ => 0))))] H := hP
  have hD : va_D A [(a, .inr (5, [.ref q1, .ref q2, .ref q3, .int 0, .int 0, .int 0, .int 0, .int 0, .int 0, .int 0, .int (-1), .long 0, .ref q4, .null, .null, .null, .null])), (q1, .inl (E 0, 576, .inl (fun _ => 0))), (q2, .inl (E 0, 576, .inl (fun _ => 0))), (q3, .inl (E 0, 24, .inl (fun _ => 0))), (q4, .inl (E 1, 24, .inr (.inl (fun _ => 0))))] := hD
  refine lv_aload_n hx hb dX5_init_83 rfl (lv_at hl 0 rfl) ?_
  refine lv_bipush (v := 24) hx hb dX5_init_84 (by decide) ?_
  refine k_newa (E := E) 0 (N9 := 24) hx hb (hts _ b_178) (by rfl) rfl rfl hK hP hD hS hA (a0 := (24, .inl (fun _ => 0))) (fun _ => rfl) (by decide) (by decide) (by decide) (by decide) (by decide) dX5_init_86 (fun q5 H hP hD hS => ?_)
  refine W.widen (k := 5) (n := 1224) (by decide) (by decide) ?_
  have hP : va_P D k_cl [(a, .inr (5, [.ref q1, .ref q2, .ref q3, .int 0, .int 0, .int 0, .int 0, .int 0, .int 0, .int 0, .int (-1), .long 0, .ref q4, .null, .null, .null, .null])), (q1, .inl (E 0, 576, .inl (fun _ => 0))), (q2, .inl (E 0, 576, .inl (fun _ => 0))), (q3, .inl (E 0, 24, .inl (fun _ => 0))), (q4, .inl (E 1, 24, .inr (.inl (fun _ => 0)))), (q5, .inl (E 0, 24, .inl (fun _ => 0)))] H := hP
  have hD : va_D A [(a, .inr (5, [.ref q1, .ref q2, .ref q3, .int 0, .int 0, .int 0, .int 0, .int 0, .int 0, .int 0, .int (-1), .long 0, .ref q4, .null, .null, .null, .null])), (q1, .inl (E 0, 576, .inl (fun _ => 0))), (q2, .inl (E 0, 576, .inl (fun _ => 0))), (q3, .inl (E 0, 24, .inl (fun _ => 0))), (q4, .inl (E 1, 24, .inr (.inl (fun _ => 0)))), (q5, .inl (E 0, 24, .inl (fun _ => 0)))] := hD
  refine va_putF (D := D) (ci := 5) (v := .ref q5) (ty := (.array .int)) (C := RX5) (T := TX5) (N := 17) hx hb hts inX5 tyX5 tyX5_ok nmX5 hown hK hP hD hS 0 rfl rfl 13 (by decide) (hts _ b_442) (fun _ h9 => h9) rfl hnm rfl (by decide +kernel) rfl rfl (Nat.le_of_ble_eq_true rfl) dX5_init_88 (fun H locs hP hD hS => ?_)
  have hP : va_P D k_cl [(a, .inr (5, [.ref q1, .ref q2, .ref q3, .int 0, .int 0, .int 0, .int 0, .int 0, .int 0, .int 0, .int (-1), .long 0, .ref q4, .ref q5, .null, .null, .null])), (q1, .inl (E 0, 576, .inl (fun _ => 0))), (q2, .inl (E 0, 576, .inl (fun _ => 0))), (q3, .inl (E 0, 24, .inl (fun _ => 0))), (q4, .inl (E 1, 24, .inr (.inl (fun _ => 0)))), (q5, .inl (E 0, 24, .inl (fun _ => 0)))] H := hP
  have hD : va_D A [(a, .inr (5, [.ref q1, .ref q2, .ref q3, .int 0, .int 0, .int 0, .int 0, .int 0, .int 0, .int 0, .int (-1), .long 0, .ref q4, .ref q5, .null, .null, .null])), (q1, .inl (E 0, 576, .inl (fun _ => 0))), (q2, .inl (E 0, 576, .inl (fun _ => 0))), (q3, .inl (E 0, 24, .inl (fun _ => 0))), (q4, .inl (E 1, 24, .inr (.inl (fun _ => 0)))), (q5, .inl (E 0, 24, .inl (fun _ => 0)))] := hD
  refine lv_aload_n hx hb dX5_init_91 rfl (lv_at hl 0 rfl) ?_
  refine lv_bipush (v := 24) hx hb dX5_init_92 (by decide) ?_
  refine k_newa (E := E) 1 (N9 := 24) hx hb (hts _ b_179) (by rfl) rfl rfl hK hP hD hS hA (a0 := (24, .inr (.inl (fun _ => 0)))) (fun _ => rfl) (by decide) (by decide) (by decide) (by decide) (by decide) dX5_init_94 (fun q6 H hP hD hS => ?_)
  refine W.widen (k := 6) (n := 1248) (by decide) (by decide) ?_
  have hP : va_P D k_cl [(a, .inr (5, [.ref q1, .ref q2, .ref q3, .int 0, .int 0, .int 0, .int 0, .int 0, .int 0, .int 0, .int (-1), .long 0, .ref q4, .ref q5, .null, .null, .null])), (q1, .inl (E 0, 576, .inl (fun _ => 0))), (q2, .inl (E 0, 576, .inl (fun _ => 0))), (q3, .inl (E 0, 24, .inl (fun _ => 0))), (q4, .inl (E 1, 24, .inr (.inl (fun _ => 0)))), (q5, .inl (E 0, 24, .inl (fun _ => 0))), (q6, .inl (E 1, 24, .inr (.inl (fun _ => 0))))] H := hP
  have hD : va_D A [(a, .inr (5, [.ref q1, .ref q2, .ref q3, .int 0, .int 0, .int 0, .int 0, .int 0, .int 0, .int 0, .int (-1), .long 0, .ref q4, .ref q5, .null, .null, .null])), (q1, .inl (E 0, 576, .inl (fun _ => 0))), (q2, .inl (E 0, 576, .inl (fun _ => 0))), (q3, .inl (E 0, 24, .inl (fun _ => 0))), (q4, .inl (E 1, 24, .inr (.inl (fun _ => 0)))), (q5, .inl (E 0, 24, .inl (fun _ => 0))), (q6, .inl (E 1, 24, .inr (.inl (fun _ => 0))))] := hD
  refine va_putF (D := D) (ci := 5) (v := .ref q6) (ty := (.array .long)) (C := RX5) (T := TX5) (N := 17) hx hb hts inX5 tyX5 tyX5_ok nmX5 hown hK hP hD hS 0 rfl rfl 14 (by decide) (hts _ b_443) (fun _ h9 => h9) rfl hnm rfl (by decide +kernel) rfl rfl (Nat.le_of_ble_eq_true rfl) dX5_init_96 (fun H locs hP hD hS => ?_)
  have hP : va_P D k_cl [(a, .inr (5, [.ref q1, .ref q2, .ref q3, .int 0, .int 0, .int 0, .int 0, .int 0, .int 0, .int 0, .int (-1), .long 0, .ref q4, .ref q5, .ref q6, .null, .null])), (q1, .inl (E 0, 576, .inl (fun _ => 0))), (q2, .inl (E 0, 576, .inl (fun _ => 0))), (q3, .inl (E 0, 24, .inl (fun _ => 0))), (q4, .inl (E 1, 24, .inr (.inl (fun _ => 0)))), (q5, .inl (E 0, 24, .inl (fun _ => 0))), (q6, .inl (E 1, 24, .inr (.inl (fun _ => 0))))] H := hP
  have hD : va_D A [(a, .inr (5, [.ref q1, .ref q2, .ref q3, .int 0, .int 0, .int 0, .int 0, .int 0, .int 0, .int 0, .int (-1), .long 0, .ref q4, .ref q5, .ref q6, .null, .null])), (q1, .inl (E 0, 576, .inl (fun _ => 0))), (q2, .inl (E 0, 576, .inl (fun _ => 0))), (q3, .inl (E 0, 24, .inl (fun _ => 0))), (q4, .inl (E 1, 24, .inr (.inl (fun _ => 0)))), (q5, .inl (E 0, 24, .inl (fun _ => 0))), (q6, .inl (E 1, 24, .inr (.inl (fun _ => 0))))] := hD
  refine lv_aload_n hx hb dX5_init_99 rfl (lv_at hl 0 rfl) ?_
  refine lv_bipush (v := 24) hx hb dX5_init_100 (by decide) ?_
  refine k_newa (E := E) 0 (N9 := 24) hx hb (hts _ b_178) (by rfl) rfl rfl hK hP hD hS hA (a0 := (24, .inl (fun _ => 0))) (fun _ => rfl) (by decide) (by decide) (by decide) (by decide) (by decide) dX5_init_102 (fun q7 H hP hD hS => ?_)
  refine W.widen (k := 7) (n := 1272) (by decide) (by decide) ?_
  have hP : va_P D k_cl [(a, .inr (5, [.ref q1, .ref q2, .ref q3, .int 0, .int 0, .int 0, .int 0, .int 0, .int 0, .int 0, .int (-1), .long 0, .ref q4, .ref q5, .ref q6, .null, .null])), (q1, .inl (E 0, 576, .inl (fun _ => 0))), (q2, .inl (E 0, 576, .inl (fun _ => 0))), (q3, .inl (E 0, 24, .inl (fun _ => 0))), (q4, .inl (E 1, 24, .inr (.inl (fun _ => 0)))), (q5, .inl (E 0, 24, .inl (fun _ => 0))), (q6, .inl (E 1, 24, .inr (.inl (fun _ => 0)))), (q7, .inl (E 0, 24, .inl (fun _ => 0)))] H := hP
  have hD : va_D A [(a, .inr (5, [.ref q1, .ref q2, .ref q3, .int 0, .int 0, .int 0, .int 0, .int 0, .int 0, .int 0, .int (-1), .long 0, .ref q4, .ref q5, .ref q6, .null, .null])), (q1, .inl (E 0, 576, .inl (fun _ => 0))), (q2, .inl (E 0, 576, .inl (fun _ => 0))), (q3, .inl (E 0, 24, .inl (fun _ => 0))), (q4, .inl (E 1, 24, .inr (.inl (fun _ => 0)))), (q5, .inl (E 0, 24, .inl (fun _ => 0))), (q6, .inl (E 1, 24, .inr (.inl (fun _ => 0)))), (q7, .inl (E 0, 24, .inl (fun _ => 0)))] := hD
  refine va_putF (D := D) (ci := 5) (v := .ref q7) (ty := (.array .int)) (C := RX5) (T := TX5) (N := 17) hx hb hts inX5 tyX5 tyX5_ok nmX5 hown hK hP hD hS 0 rfl rfl 15 (by decide) (hts _ b_444) (fun _ h9 => h9) rfl hnm rfl (by decide +kernel) rfl rfl (Nat.le_of_ble_eq_true rfl) dX5_init_104 (fun H locs hP hD hS => ?_)
  have hP : va_P D k_cl [(a, .inr (5, [.ref q1, .ref q2, .ref q3, .int 0, .int 0, .int 0, .int 0, .int 0, .int 0, .int 0, .int (-1), .long 0, .ref q4, .ref q5, .ref q6, .ref q7, .null])), (q1, .inl (E 0, 576, .inl (fun _ => 0))), (q2, .inl (E 0, 576, .inl (fun _ => 0))), (q3, .inl (E 0, 24, .inl (fun _ => 0))), (q4, .inl (E 1, 24, .inr (.inl (fun _ => 0)))), (q5, .inl (E 0, 24, .inl (fun _ => 0))), (q6, .inl (E 1, 24, .inr (.inl (fun _ => 0)))), (q7, .inl (E 0, 24, .inl (fun _ => 0)))] H := hP
  have hD : va_D A [(a, .inr (5, [.ref q1, .ref q2, .ref q3, .int 0, .int 0, .int 0, .int 0, .int 0, .int 0, .int 0, .int (-1), .long 0, .ref q4, .ref q5, .ref q6, .ref q7, .null])), (q1, .inl (E 0, 576, .inl (fun _ => 0))), (q2, .inl (E 0, 576, .inl (fun _ => 0))), (q3, .inl (E 0, 24, .inl (fun _ => 0))), (q4, .inl (E 1, 24, .inr (.inl (fun _ => 0)))), (q5, .inl (E 0, 24, .inl (fun _ => 0))), (q6, .inl (E 1, 24, .inr (.inl (fun _ => 0)))), (q7, .inl (E 0, 24, .inl (fun _ => 0)))] := hD
  refine lv_aload_n hx hb dX5_init_107 rfl (lv_at hl 0 rfl) ?_
  refine lv_bipush (v := 49) hx hb dX5_init_108 (by decide) ?_
  refine k_newa (E := E) 0 (N9 := 49) hx hb (hts _ b_178) (by rfl) rfl rfl hK hP hD hS hA (a0 := (49, .inl (fun _ => 0))) (fun _ => rfl) (by decide) (by decide) (by decide) (by decide) (by decide) dX5_init_110 (fun q8 H hP hD hS => ?_)
  refine W.widen (k := 8) (n := 1321) (by decide) (by decide) ?_
  have hP : va_P D k_cl [(a, .inr (5, [.ref q1, .ref q2, .ref q3, .int 0, .int 0, .int 0, .int 0, .int 0, .int 0, .int 0, .int (-1), .long 0, .ref q4, .ref q5, .ref q6, .ref q7, .null])), (q1, .inl (E 0, 576, .inl (fun _ => 0))), (q2, .inl (E 0, 576, .inl (fun _ => 0))), (q3, .inl (E 0, 24, .inl (fun _ => 0))), (q4, .inl (E 1, 24, .inr (.inl (fun _ => 0)))), (q5, .inl (E 0, 24, .inl (fun _ => 0))), (q6, .inl (E 1, 24, .inr (.inl (fun _ => 0)))), (q7, .inl (E 0, 24, .inl (fun _ => 0))), (q8, .inl (E 0, 49, .inl (fun _ => 0)))] H := hP
  have hD : va_D A [(a, .inr (5, [.ref q1, .ref q2, .ref q3, .int 0, .int 0, .int 0, .int 0, .int 0, .int 0, .int 0, .int (-1), .long 0, .ref q4, .ref q5, .ref q6, .ref q7, .null])), (q1, .inl (E 0, 576, .inl (fun _ => 0))), (q2, .inl (E 0, 576, .inl (fun _ => 0))), (q3, .inl (E 0, 24, .inl (fun _ => 0))), (q4, .inl (E 1, 24, .inr (.inl (fun _ => 0)))), (q5, .inl (E 0, 24, .inl (fun _ => 0))), (q6, .inl (E 1, 24, .inr (.inl (fun _ => 0)))), (q7, .inl (E 0, 24, .inl (fun _ => 0))), (q8, .inl (E 0, 49, .inl (fun _ => 0)))] := hD
  refine va_putF (D := D) (ci := 5) (v := .ref q8) (ty := (.array .int)) (C := RX5) (T := TX5) (N := 17) hx hb hts inX5 tyX5 tyX5_ok nmX5 hown hK hP hD hS 0 rfl rfl 16 (by decide) (hts _ b_445) (fun _ h9 => h9) rfl hnm rfl (by decide +kernel) rfl rfl (Nat.le_of_ble_eq_true rfl) dX5_init_112 (fun H locs hP hD hS => ?_)
  have hP : va_P D k_cl [(a, .inr (5, [.ref q1, .ref q2, .ref q3, .int 0, .int 0, .int 0, .int 0, .int 0, .int 0, .int 0, .int (-1), .long 0, .ref q4, .ref q5, .ref q6, .ref q7, .ref q8])), (q1, .inl (E 0, 576, .inl (fun _ => 0))), (q2, .inl (E 0, 576, .inl (fun _ => 0))), (q3, .inl (E 0, 24, .inl (fun _ => 0))), (q4, .inl (E 1, 24, .inr (.inl (fun _ => 0)))), (q5, .inl (E 0, 24, .inl (fun _ => 0))), (q6, .inl (E 1, 24, .inr (.inl (fun _ => 0)))), (q7, .inl (E 0, 24, .inl (fun _ => 0))), (q8, .inl (E 0, 49, .inl (fun _ => 0)))] H := hP
  have hD : va_D A [(a, .inr (5, [.ref q1, .ref q2, .ref q3, .int 0, .int 0, .int 0, .int 0, .int 0, .int 0, .int 0, .int (-1), .long 0, .ref q4, .ref q5, .ref q6, .ref q7, .ref q8])), (q1, .inl (E 0, 576, .inl (fun _ => 0))), (q2, .inl (E 0, 576, .inl (fun _ => 0))), (q3, .inl (E 0, 24, .inl (fun _ => 0))), (q4, .inl (E 1, 24, .inr (.inl (fun _ => 0)))), (q5, .inl (E 0, 24, .inl (fun _ => 0))), (q6, .inl (E 1, 24, .inr (.inl (fun _ => 0)))), (q7, .inl (E 0, 24, .inl (fun _ => 0))), (q8, .inl (E 0, 49, .inl (fun _ => 0)))] := hD
  exact m_v ⟨q1, q2, q3, q4, q5, q6, q7, q8⟩ hx hb hr hlocks rfl trivial (hP.sub [0] rfl) (hD.sub [0] (by decide) rfl) hS (by decide) (by decide) dX5_init_115
set_option maxRecDepth 20000 in
set_option maxHeartbeats 2000000 in
theorem i_Planner (l : Launch) (D : va_G) (E : Nat → ClassId) (sa : Nat → Nat) (a : Nat) : KM l yX9_init (.code yX9_init cX9_init 1 none) 38 1240 72 10996 D E sa [.ref a] [(a, .inr (9, [.null, .null, .null, .null, .null, .null, .null, .null, .null, .null, .null, .int 0, .int 0]))] (S := Nat × Nat × Nat × Nat × Nat × Nat × Nat × Nat × Nat × Nat × Nat × Nat × Nat × Nat × Nat × Nat × Nat × Nat × Nat × Nat × Nat × Nat × Nat × Nat × Nat × Nat × Nat × Nat × Nat × Nat × Nat × Nat × Nat × Nat × Nat × Nat × Nat × Nat × Nat × Nat × Nat × Nat × Nat × Nat × Nat × Nat × Nat × Nat × Nat × Nat × Nat × Nat) (fun u => none) (fun _ => True) (fun u => [(a, .inr (9, [.ref u.1, .ref u.2.1, .ref u.2.2.1, .ref u.2.2.2.1, .ref u.2.2.2.2.1, .ref u.2.2.2.2.2.1, .ref u.2.2.2.2.2.2.1, .ref u.2.2.2.2.2.2.2.1, .ref u.2.2.2.2.2.2.2.2.1, .ref u.2.2.2.2.2.2.2.2.2.1, .ref u.2.2.2.2.2.2.2.2.2.2.1, .int 0, .int 0])), (u.1, .inr (6, [.ref u.2.2.2.2.2.2.2.2.2.2.2.1, .int 0])), (u.2.2.2.2.2.2.2.2.2.2.2.1, .inl (E 2, 2000, .inl (fun _ => 0))), (u.2.1, .inr (0, [.ref u.2.2.2.2.2.2.2.2.2.2.2.2.1, .ref u.2.2.2.2.2.2.2.2.2.2.2.2.2.1, .ref u.2.2.2.2.2.2.2.2.2.2.2.2.2.2.1, .ref u.2.2.2.2.2.2.2.2.2.2.2.2.2.2.2.1, .ref u.2.2.2.2.2.2.2.2.2.2.2.2.2.2.2.2.1, .ref u.2.2.2.2.2.2.2.2.2.2.2.2.2.2.2.2.2.1, .ref u.2.2.2.2.2.2.2.2.2.2.2.2.2.2.2.2.2.2.1, .int 0, .int 0, .long 0])), (u.2.2.2.2.2.2.2.2.2.2.2.2.1, .inl (E 0, 24, .inl (fun _ => 0))), (u.2.2.2.2.2.2.2.2.2.2.2.2.2.1, .inl (E 0, 24, .inl (fun _ => 0))), (u.2.2.2.2.2.2.2.2.2.2.2.2.2.2.1, .inl (E 1, 24, .inr (.inl (fun _ => 0)))), (u.2.2.2.2.2.2.2.2.2.2.2.2.2.2.2.2.2.2.1, .inr (3, [.ref u.2.2.2.2.2.2.2.2.2.2.2.2.2.2.2.2.2.2.2.1, .ref u.2.2.2.2.2.2.2.2.2.2.2.2.2.2.2.2.2.2.2.2.1, .ref u.2.2.2.2.2.2.2.2.2.2.2.2.2.2.2.2.2.2.2.2.2.1, .ref u.2.2.2.2.2.2.2.2.2.2.2.2.2.2.2.2.2.2.2.2.2.2.1, .ref u.2.2.2.2.2.2.2.2.2.2.2.2.2.2.2.2.2.2.2.2.2.2.2.1, .int 0])), (u.2.2.2.2.2.2.2.2.2.2.2.2.2.2.2.2.2.2.2.1, .inl (E 1, 576, .inr (.inl (fun _ => 0)))), (u.2.2.2.2.2.2.2.2.2.2.2.2.2.2.2.2.2.2.2.2.1, .inl (E 0, 576, .inl (fun _ => 0))), (u.2.2.2.2.2.2.2.2.2.2.2.2.2.2.2.2.2.2.2.2.2.1, .inl (E 0, 576, .inl (fun _ => 0))), (u.2.2.2.2.2.2.2.2.2.2.2.2.2.2.2.2.2.2.2.2.2.2.1, .inl (E 0, 576, .inl (fun _ => 0))), (u.2.2.2.2.2.2.2.2.2.2.2.2.2.2.2.2.2.2.2.2.2.2.2.1, .inl (E 3, 24, .inl (fun _ => 0))), (u.2.2.1, .inr (4, [.ref u.1, .ref u.2.1, .int 0, .int 0, .int 0, .int (-1), .int 0, .int 0, .long 0])), (u.2.2.2.2.2.1, .inr (7, [.ref u.2.2.2.2.2.2.2.2.2.2.2.2.2.2.2.2.2.2.2.2.2.2.2.2.1, .ref u.2.2.2.2.2.2.2.2.2.2.2.2.2.2.2.2.2.2.2.2.2.2.2.2.2.1, .ref u.2.2.2.2.2.2.2.2.2.2.2.2.2.2.2.2.2.2.2.2.2.2.2.2.2.2.1, .int 0, .ref u.2.2.2.2.2.2.2.2.2.2.2.2.2.2.2.2.2.2.2.2.2.2.2.2.2.2.2.1])), (u.2.2.2.2.2.2.1, .inr (2, [.ref u.2.2.2.2.2.2.2.2.2.2.2.2.2.2.2.2.2.2.2.2.2.2.2.2.2.2.2.2.1, .ref u.2.2.2.2.2.2.2.2.2.2.2.2.2.2.2.2.2.2.2.2.2.2.2.2.2.2.2.2.2.1, .int 0, .ref u.2.2.2.2.2.2.2.2.2.2.2.2.2.2.2.2.2.2.2.2.2.2.2.2.2.2.2.2.2.2.1, .ref u.2.2.2.2.2.2.2.2.2.2.2.2.2.2.2.2.2.2.2.2.2.2.2.2.2.2.2.2.2.2.2.1])), (u.2.2.2.2.2.2.2.1, .inr (1, [.ref u.2.2.2.2.2.2.2.2.2.2.2.2.2.2.2.2.2.2.2.2.2.2.2.2.2.2.2.2.2.2.2.2.1, .ref u.2.2.2.2.2.2.2.2.2.2.2.2.2.2.2.2.2.2.2.2.2.2.2.2.2.2.2.2.2.2.2.2.2.1, .ref u.2.2.2.2.2.2.2.2.2.2.2.2.2.2.2.2.2.2.2.2.2.2.2.2.2.2.2.2.2.2.2.2.2.2.1, .int 0, .int 0, .int 0, .int 4, .int 2, .int 1, .ref u.2.2.2.2.2.2.2.2.2.2.2.2.2.2.2.2.2.2.2.2.2.2.2.2.2.2.2.2.2.2.2.2.2.2.2.1, .ref u.2.2.2.2.2.2.2.2.2.2.2.2.2.2.2.2.2.2.2.2.2.2.2.2.2.2.2.2.2.2.2.2.2.2.2.2.1, .ref u.2.2.2.2.2.2.2.2.2.2.2.2.2.2.2.2.2.2.2.2.2.2.2.2.2.2.2.2.2.2.2.2.2.2.2.2.2.1, .ref u.2.2.2.2.2.2.2.2.2.2.2.2.2.2.2.2.2.2.2.2.2.2.2.2.2.2.2.2.2.2.2.2.2.2.2.2.2.2.1, .int 0])), (u.2.2.2.2.2.2.2.2.2.2.2.2.2.2.2.2.2.2.2.2.2.2.2.2.2.2.2.2.2.2.2.2.2.2.2.2.1, .inl (E 0, 24, .inl (fun _ => 0))), (u.2.2.2.2.2.2.2.2.2.2.2.2.2.2.2.2.2.2.2.2.2.2.2.2.2.2.2.2.2.2.2.2.1, .inr (3, [.ref u.2.2.2.2.2.2.2.2.2.2.2.2.2.2.2.2.2.2.2.2.2.2.2.2.2.2.2.2.2.2.2.2.2.2.2.2.2.2.2.1, .ref u.2.2.2.2.2.2.2.2.2.2.2.2.2.2.2.2.2.2.2.2.2.2.2.2.2.2.2.2.2.2.2.2.2.2.2.2.2.2.2.2.1, .ref u.2.2.2.2.2.2.2.2.2.2.2.2.2.2.2.2.2.2.2.2.2.2.2.2.2.2.2.2.2.2.2.2.2.2.2.2.2.2.2.2.2.1, .ref u.2.2.2.2.2.2.2.2.2.2.2.2.2.2.2.2.2.2.2.2.2.2.2.2.2.2.2.2.2.2.2.2.2.2.2.2.2.2.2.2.2.2.1, .ref u.2.2.2.2.2.2.2.2.2.2.2.2.2.2.2.2.2.2.2.2.2.2.2.2.2.2.2.2.2.2.2.2.2.2.2.2.2.2.2.2.2.2.2.1, .int 0])), (u.2.2.2.2.2.2.2.2.2.2.2.2.2.2.2.2.2.2.2.2.2.2.2.2.2.2.2.2.2.2.2.2.2.2.2.2.2.2.2.1, .inl (E 1, 576, .inr (.inl (fun _ => 0)))), (u.2.2.2.2.2.2.2.2.2.2.2.2.2.2.2.2.2.2.2.2.2.2.2.2.2.2.2.2.2.2.2.2.2.2.2.2.2.2.2.2.1, .inl (E 0, 576, .inl (fun _ => 0))), (u.2.2.2.2.2.2.2.2.2.2.2.2.2.2.2.2.2.2.2.2.2.2.2.2.2.2.2.2.2.2.2.2.2.2.2.2.2.2.2.2.2.1, .inl (E 0, 576, .inl (fun _ => 0))), (u.2.2.2.2.2.2.2.2.2.2.2.2.2.2.2.2.2.2.2.2.2.2.2.2.2.2.2.2.2.2.2.2.2.2.2.2.2.2.2.2.2.2.1, .inl (E 0, 576, .inl (fun _ => 0))), (u.2.2.2.2.2.2.2.2.2.2.2.2.2.2.2.2.2.2.2.2.2.2.2.2.2.2.2.2.2.2.2.2.2.2.2.2.2.2.2.2.2.2.2.1, .inl (E 3, 24, .inl (fun _ => 0))), (u.2.2.2.2.2.2.2.2.1, .inr (5, [.ref u.2.2.2.2.2.2.2.2.2.2.2.2.2.2.2.2.2.2.2.2.2.2.2.2.2.2.2.2.2.2.2.2.2.2.2.2.2.2.2.2.2.2.2.2.1, .ref u.2.2.2.2.2.2.2.2.2.2.2.2.2.2.2.2.2.2.2.2.2.2.2.2.2.2.2.2.2.2.2.2.2.2.2.2.2.2.2.2.2.2.2.2.2.1, .ref u.2.2.2.2.2.2.2.2.2.2.2.2.2.2.2.2.2.2.2.2.2.2.2.2.2.2.2.2.2.2.2.2.2.2.2.2.2.2.2.2.2.2.2.2.2.2.1, .int 0, .int 0, .int 0, .int 0, .int 0, .int 0, .int 0, .int (-1), .long 0, .ref u.2.2.2.2.2.2.2.2.2.2.2.2.2.2.2.2.2.2.2.2.2.2.2.2.2.2.2.2.2.2.2.2.2.2.2.2.2.2.2.2.2.2.2.2.2.2.2.1, .ref u.2.2.2.2.2.2.2.2.2.2.2.2.2.2.2.2.2.2.2.2.2.2.2.2.2.2.2.2.2.2.2.2.2.2.2.2.2.2.2.2.2.2.2.2.2.2.2.2.1, .ref u.2.2.2.2.2.2.2.2.2.2.2.2.2.2.2.2.2.2.2.2.2.2.2.2.2.2.2.2.2.2.2.2.2.2.2.2.2.2.2.2.2.2.2.2.2.2.2.2.2.1, .ref u.2.2.2.2.2.2.2.2.2.2.2.2.2.2.2.2.2.2.2.2.2.2.2.2.2.2.2.2.2.2.2.2.2.2.2.2.2.2.2.2.2.2.2.2.2.2.2.2.2.2.1, .ref u.2.2.2.2.2.2.2.2.2.2.2.2.2.2.2.2.2.2.2.2.2.2.2.2.2.2.2.2.2.2.2.2.2.2.2.2.2.2.2.2.2.2.2.2.2.2.2.2.2.2.2]))]) := by
  refine KM.of (by decide) (Nat.le_of_ble_eq_true rfl) ?_
  intro p e s m below meth c A ls hx hb hr hts hml hown hlocks hnm hK hP hD hA hS hZ hl
  have hown : s.vm.findClass RX9 = some m.cls := hown
  have hl : lv_has ls 1 [(0, .ref a)] := hl
  refine lv_aload_n hx hb dX9_init_0 rfl (lv_at hl 0 rfl) ?_
  refine W.objInit hx hb hown (hts _ b_109) (hts _ b_oi) (hts _ b_oc) rfl (by rw [hml]; exact hl.1) rfl dX9_init_1 (by decide) (Nat.le_of_ble_eq_true rfl) ?_
  refine W.eq (g2 := F0 m 4 ls []) rfl ?_
  refine lv_aload_n hx hb dX9_init_4 rfl (lv_at hl 0 rfl) ?_
  refine va_new (ci := 6) (fs := df0X6) (C := RX6) (T := TX6) (N := 2) hx hb hts inX6 tyX6 tyX6_ok hown (hts _ b_112) (hts _ b_113) (hts _ b_79) hK hP hD hS hA rfl dfX6 (by decide) (by decide) dX9_init_5 (fun q1 H hP hD hS => ?_)
  refine W.widen (k := 1) (n := 2) (by decide) (by decide) ?_
  have hP : va_P D k_cl [(a, .inr (9, [.null, .null, .null, .null, .null, .null, .null, .null, .null, .null, .null, .int 0, .int 0])), (q1, .inr (6, [.null, .int 0]))] H := hP
  have hD : va_D A [(a, .inr (9, [.null, .null, .null, .null, .null, .null, .null, .null, .null, .null, .null, .int 0, .int 0])), (q1, .inr (6, [.null, .int 0]))] := hD
  refine lv_dup hx hb dX9_init_8 rfl ?_
  refine k_MN (As := []) (rest := [.ref q1, .ref a])  (wr := [(a, .inr (9, [.null, .null, .null, .null, .null, .null, .null, .null, .null, .null, .null, .int 0, .int 0]))]) ⟨hx, hb, hml, hown, hts⟩ (i_Tape l D E sa q1) (by decide) b_115 b_79 b_116 ⟨rfl, hd_X6_init⟩ ⟨⟨by decide, by decide⟩, by decide, by decide⟩ hK hP hD hS hA hZ [1] [0] rfl rfl (by decide) rfl hl.1 (Nat.le_of_ble_eq_true rfl) dX9_init_9 (fun u2 H locs hu hP hD hS _ => ?_)
  obtain ⟨t_bytes3, rfl⟩ : ∃ z, z = u2 := ⟨_, rfl⟩
  refine W.widen (k := 2) (n := 2002) (by decide) (by decide) ?_
  have hP : va_P D k_cl [(a, .inr (9, [.null, .null, .null, .null, .null, .null, .null, .null, .null, .null, .null, .int 0, .int 0])), (q1, .inr (6, [.ref t_bytes3, .int 0])), (t_bytes3, .inl (E 2, 2000, .inl (fun _ => 0)))] H := hP
  have hD : va_D A [(a, .inr (9, [.null, .null, .null, .null, .null, .null, .null, .null, .null, .null, .null, .int 0, .int 0])), (q1, .inr (6, [.ref t_bytes3, .int 0])), (t_bytes3, .inl (E 2, 2000, .inl (fun _ => 0)))] := hD
  refine W.eq (g2 := F0 m 12 ls [.ref q1, .ref a]) rfl ?_
  refine va_putF (D := D) (ci := 9) (v := .ref q1) (ty := (.object "RoutePlanner$Tape")) (C := RX9) (T := TX9) (N := 13) hx hb hts inX9 tyX9 tyX9_ok nmX9 hown hK hP hD hS 0 rfl rfl 0 (by decide) (hts _ b_481) (fun _ h9 => h9) rfl hnm rfl (by decide +kernel) rfl rfl (Nat.le_of_ble_eq_true rfl) dX9_init_12 (fun H locs hP hD hS => ?_)
  have hP : va_P D k_cl [(a, .inr (9, [.ref q1, .null, .null, .null, .null, .null, .null, .null, .null, .null, .null, .int 0, .int 0])), (q1, .inr (6, [.ref t_bytes3, .int 0])), (t_bytes3, .inl (E 2, 2000, .inl (fun _ => 0)))] H := hP
  have hD : va_D A [(a, .inr (9, [.ref q1, .null, .null, .null, .null, .null, .null, .null, .null, .null, .null, .int 0, .int 0])), (q1, .inr (6, [.ref t_bytes3, .int 0])), (t_bytes3, .inl (E 2, 2000, .inl (fun _ => 0)))] := hD
  refine lv_aload_n hx hb dX9_init_15 rfl (lv_at hl 0 rfl) ?_
  refine va_new (ci := 0) (fs := df0X0) (C := RX0) (T := TX0) (N := 10) hx hb hts inX0 tyX0 tyX0_ok hown (hts _ b_129) (hts _ b_130) (hts _ b_80) hK hP hD hS hA rfl dfX0 (by decide) (by decide) dX9_init_16 (fun q4 H hP hD hS => ?_)
  refine W.widen (k := 3) (n := 2012) (by decide) (by decide) ?_
  have hP : va_P D k_cl [(a, .inr (9, [.ref q1, .null, .null, .null, .null, .null, .null, .null, .null, .null, .null, .int 0, .int 0])), (q1, .inr (6, [.ref t_bytes3, .int 0])), (t_bytes3, .inl (E 2, 2000, .inl (fun _ => 0))), (q4, .inr (0, [.null, .null, .null, .null, .null, .null, .null, .int 0, .int 0, .long 0]))] H := hP
  have hD : va_D A [(a, .inr (9, [.ref q1, .null, .null, .null, .null, .null, .null, .null, .null, .null, .null, .int 0, .int 0])), (q1, .inr (6, [.ref t_bytes3, .int 0])), (t_bytes3, .inl (E 2, 2000, .inl (fun _ => 0))), (q4, .inr (0, [.null, .null, .null, .null, .null, .null, .null, .int 0, .int 0, .long 0]))] := hD
  refine lv_dup hx hb dX9_init_19 rfl ?_
  refine k_MN (As := []) (rest := [.ref q4, .ref a])  (wr := [(a, .inr (9, [.ref q1, .null, .null, .null, .null, .null, .null, .null, .null, .null, .null, .int 0, .int 0])), (q1, .inr (6, [.ref t_bytes3, .int 0])), (t_bytes3, .inl (E 2, 2000, .inl (fun _ => 0)))]) ⟨hx, hb, hml, hown, hts⟩ (i_Graph l D E sa q4) (by decide) b_132 b_80 b_133 ⟨rfl, hd_X0_init⟩ ⟨⟨by decide, by decide⟩, by decide, by decide⟩ hK hP hD hS hA hZ [3] [0, 1, 2] rfl rfl (by decide) rfl hl.1 (Nat.le_of_ble_eq_true rfl) dX9_init_20 (fun u5 H locs hu hP hD hS _ => ?_)
  obtain ⟨g_xs6, g_ys7, g_potentials8, g_tails9, g_heads10, g_weights11, g_net12, n_lengths13, n_counts14, n_overs15, n_arcNumbers16, n_left17⟩ := u5
  refine W.widen (k := 15) (n := 5318) (by decide) (by decide) ?_
  have hP : va_P D k_cl [(a, .inr (9, [.ref q1, .null, .null, .null, .null, .null, .null, .null, .null, .null, .null, .int 0, .int 0])), (q1, .inr (6, [.ref t_bytes3, .int 0])), (t_bytes3, .inl (E 2, 2000, .inl (fun _ => 0))), (q4, .inr (0, [.ref g_xs6, .ref g_ys7, .ref g_potentials8, .ref g_tails9, .ref g_heads10, .ref g_weights11, .ref g_net12, .int 0, .int 0, .long 0])), (g_xs6, .inl (E 0, 24, .inl (fun _ => 0))), (g_ys7, .inl (E 0, 24, .inl (fun _ => 0))), (g_potentials8, .inl (E 1, 24, .inr (.inl (fun _ => 0)))), (g_net12, .inr (3, [.ref n_lengths13, .ref n_counts14, .ref n_overs15, .ref n_arcNumbers16, .ref n_left17, .int 0])), (n_lengths13, .inl (E 1, 576, .inr (.inl (fun _ => 0)))), (n_counts14, .inl (E 0, 576, .inl (fun _ => 0))), (n_overs15, .inl (E 0, 576, .inl (fun _ => 0))), (n_arcNumbers16, .inl (E 0, 576, .inl (fun _ => 0))), (n_left17, .inl (E 3, 24, .inl (fun _ => 0)))] H := hP
  have hD : va_D A [(a, .inr (9, [.ref q1, .null, .null, .null, .null, .null, .null, .null, .null, .null, .null, .int 0, .int 0])), (q1, .inr (6, [.ref t_bytes3, .int 0])), (t_bytes3, .inl (E 2, 2000, .inl (fun _ => 0))), (q4, .inr (0, [.ref g_xs6, .ref g_ys7, .ref g_potentials8, .ref g_tails9, .ref g_heads10, .ref g_weights11, .ref g_net12, .int 0, .int 0, .long 0])), (g_xs6, .inl (E 0, 24, .inl (fun _ => 0))), (g_ys7, .inl (E 0, 24, .inl (fun _ => 0))), (g_potentials8, .inl (E 1, 24, .inr (.inl (fun _ => 0)))), (g_net12, .inr (3, [.ref n_lengths13, .ref n_counts14, .ref n_overs15, .ref n_arcNumbers16, .ref n_left17, .int 0])), (n_lengths13, .inl (E 1, 576, .inr (.inl (fun _ => 0)))), (n_counts14, .inl (E 0, 576, .inl (fun _ => 0))), (n_overs15, .inl (E 0, 576, .inl (fun _ => 0))), (n_arcNumbers16, .inl (E 0, 576, .inl (fun _ => 0))), (n_left17, .inl (E 3, 24, .inl (fun _ => 0)))] := hD
  refine W.eq (g2 := F0 m 23 ls [.ref q4, .ref a]) rfl ?_
  refine va_putF (D := D) (ci := 9) (v := .ref q4) (ty := (.object "RoutePlanner$Graph")) (C := RX9) (T := TX9) (N := 13) hx hb hts inX9 tyX9 tyX9_ok nmX9 hown hK hP hD hS 0 rfl rfl 1 (by decide) (hts _ b_482) (fun _ h9 => h9) rfl hnm rfl (by decide +kernel) rfl rfl (Nat.le_of_ble_eq_true rfl) dX9_init_23 (fun H locs hP hD hS => ?_)
  have hP : va_P D k_cl [(a, .inr (9, [.ref q1, .ref q4, .null, .null, .null, .null, .null, .null, .null, .null, .null, .int 0, .int 0])), (q1, .inr (6, [.ref t_bytes3, .int 0])), (t_bytes3, .inl (E 2, 2000, .inl (fun _ => 0))), (q4, .inr (0, [.ref g_xs6, .ref g_ys7, .ref g_potentials8, .ref g_tails9, .ref g_heads10, .ref g_weights11, .ref g_net12, .int 0, .int 0, .long 0])), (g_xs6, .inl (E 0, 24, .inl (fun _ => 0))), (g_ys7, .inl (E 0, 24, .inl (fun _ => 0))), (g_potentials8, .inl (E 1, 24, .inr (.inl (fun _ => 0)))), (g_net12, .inr (3, [.ref n_lengths13, .ref n_counts14, .ref n_overs15, .ref n_arcNumbers16, .ref n_left17, .int 0])), (n_lengths13, .inl (E 1, 576, .inr (.inl (fun _ => 0)))), (n_counts14, .inl (E 0, 576, .inl (fun _ => 0))), (n_overs15, .inl (E 0, 576, .inl (fun _ => 0))), (n_arcNumbers16, .inl (E 0, 576, .inl (fun _ => 0))), (n_left17, .inl (E 3, 24, .inl (fun _ => 0)))] H := hP
  have hD : va_D A [(a, .inr (9, [.ref q1, .ref q4, .null, .null, .null, .null, .null, .null, .null, .null, .null, .int 0, .int 0])), (q1, .inr (6, [.ref t_bytes3, .int 0])), (t_bytes3, .inl (E 2, 2000, .inl (fun _ => 0))), (q4, .inr (0, [.ref g_xs6, .ref g_ys7, .ref g_potentials8, .ref g_tails9, .ref g_heads10, .ref g_weights11, .ref g_net12, .int 0, .int 0, .long 0])), (g_xs6, .inl (E 0, 24, .inl (fun _ => 0))), (g_ys7, .inl (E 0, 24, .inl (fun _ => 0))), (g_potentials8, .inl (E 1, 24, .inr (.inl (fun _ => 0)))), (g_net12, .inr (3, [.ref n_lengths13, .ref n_counts14, .ref n_overs15, .ref n_arcNumbers16, .ref n_left17, .int 0])), (n_lengths13, .inl (E 1, 576, .inr (.inl (fun _ => 0)))), (n_counts14, .inl (E 0, 576, .inl (fun _ => 0))), (n_overs15, .inl (E 0, 576, .inl (fun _ => 0))), (n_arcNumbers16, .inl (E 0, 576, .inl (fun _ => 0))), (n_left17, .inl (E 3, 24, .inl (fun _ => 0)))] := hD
  refine lv_aload_n hx hb dX9_init_26 rfl (lv_at hl 0 rfl) ?_
  refine va_new (ci := 4) (fs := df0X4) (C := RX4) (T := TX4) (N := 9) hx hb hts inX4 tyX4 tyX4_ok hown (hts _ b_225) (hts _ b_226) (hts _ b_82) hK hP hD hS hA rfl dfX4 (by decide) (by decide) dX9_init_27 (fun q18 H hP hD hS => ?_)
  refine W.widen (k := 16) (n := 5327) (by decide) (by decide) ?_
  have hP : va_P D k_cl [(a, .inr (9, [.ref q1, .ref q4, .null, .null, .null, .null, .null, .null, .null, .null, .null, .int 0, .int 0])), (q1, .inr (6, [.ref t_bytes3, .int 0])), (t_bytes3, .inl (E 2, 2000, .inl (fun _ => 0))), (q4, .inr (0, [.ref g_xs6, .ref g_ys7, .ref g_potentials8, .ref g_tails9, .ref g_heads10, .ref g_weights11, .ref g_net12, .int 0, .int 0, .long 0])), (g_xs6, .inl (E 0, 24, .inl (fun _ => 0))), (g_ys7, .inl (E 0, 24, .inl (fun _ => 0))), (g_potentials8, .inl (E 1, 24, .inr (.inl (fun _ => 0)))), (g_net12, .inr (3, [.ref n_lengths13, .ref n_counts14, .ref n_overs15, .ref n_arcNumbers16, .ref n_left17, .int 0])), (n_lengths13, .inl (E 1, 576, .inr (.inl (fun _ => 0)))), (n_counts14, .inl (E 0, 576, .inl (fun _ => 0))), (n_overs15, .inl (E 0, 576, .inl (fun _ => 0))), (n_arcNumbers16, .inl (E 0, 576, .inl (fun _ => 0))), (n_left17, .inl (E 3, 24, .inl (fun _ => 0))), (q18, .inr (4, [.null, .null, .int 0, .int 0, .int 0, .int 0, .int 0, .int 0, .long 0]))] H := hP
  have hD : va_D A [(a, .inr (9, [.ref q1, .ref q4, .null, .null, .null, .null, .null, .null, .null, .null, .null, .int 0, .int 0])), (q1, .inr (6, [.ref t_bytes3, .int 0])), (t_bytes3, .inl (E 2, 2000, .inl (fun _ => 0))), (q4, .inr (0, [.ref g_xs6, .ref g_ys7, .ref g_potentials8, .ref g_tails9, .ref g_heads10, .ref g_weights11, .ref g_net12, .int 0, .int 0, .long 0])), (g_xs6, .inl (E 0, 24, .inl (fun _ => 0))), (g_ys7, .inl (E 0, 24, .inl (fun _ => 0))), (g_potentials8, .inl (E 1, 24, .inr (.inl (fun _ => 0)))), (g_net12, .inr (3, [.ref n_lengths13, .ref n_counts14, .ref n_overs15, .ref n_arcNumbers16, .ref n_left17, .int 0])), (n_lengths13, .inl (E 1, 576, .inr (.inl (fun _ => 0)))), (n_counts14, .inl (E 0, 576, .inl (fun _ => 0))), (n_overs15, .inl (E 0, 576, .inl (fun _ => 0))), (n_arcNumbers16, .inl (E 0, 576, .inl (fun _ => 0))), (n_left17, .inl (E 3, 24, .inl (fun _ => 0))), (q18, .inr (4, [.null, .null, .int 0, .int 0, .int 0, .int 0, .int 0, .int 0, .long 0]))] := hD
  refine lv_dup hx hb dX9_init_30 rfl ?_
  refine lv_aload_n hx hb dX9_init_31 rfl (lv_at hl 0 rfl) ?_
  refine va_get (D := D) (ci := 9) (v := .ref q1) (C := RX9) (T := TX9) (N := 13) hx hb hts inX9 hown hK hP 0 rfl rfl 0 (by decide) (hts _ b_481) (fun _ h9 => h9) rfl dX9_init_32 ?_
  refine lv_aload_n hx hb dX9_init_35 rfl (lv_at hl 0 rfl) ?_
  refine va_get (D := D) (ci := 9) (v := .ref q4) (C := RX9) (T := TX9) (N := 13) hx hb hts inX9 hown hK hP 0 rfl rfl 1 (by decide) (hts _ b_482) (fun _ h9 => h9) rfl dX9_init_36 ?_
  refine k_MI (As := [.ref q1, .ref q4]) (rest := [.ref q18, .ref a])  (wr := [(a, .inr (9, [.ref q1, .ref q4, .null, .null, .null, .null, .null, .null, .null, .null, .null, .int 0, .int 0])), (q1, .inr (6, [.ref t_bytes3, .int 0])), (t_bytes3, .inl (E 2, 2000, .inl (fun _ => 0))), (q4, .inr (0, [.ref g_xs6, .ref g_ys7, .ref g_potentials8, .ref g_tails9, .ref g_heads10, .ref g_weights11, .ref g_net12, .int 0, .int 0, .long 0])), (g_xs6, .inl (E 0, 24, .inl (fun _ => 0))), (g_ys7, .inl (E 0, 24, .inl (fun _ => 0))), (g_potentials8, .inl (E 1, 24, .inr (.inl (fun _ => 0)))), (g_net12, .inr (3, [.ref n_lengths13, .ref n_counts14, .ref n_overs15, .ref n_arcNumbers16, .ref n_left17, .int 0])), (n_lengths13, .inl (E 1, 576, .inr (.inl (fun _ => 0)))), (n_counts14, .inl (E 0, 576, .inl (fun _ => 0))), (n_overs15, .inl (E 0, 576, .inl (fun _ => 0))), (n_arcNumbers16, .inl (E 0, 576, .inl (fun _ => 0))), (n_left17, .inl (E 3, 24, .inl (fun _ => 0)))]) ⟨hx, hb, hml, hown, hts⟩ (i_Reader l D E sa q18 q1 q4) b_227 b_228 b_82 b_229 ⟨rfl, hd_X4_init⟩ ⟨⟨by decide, by decide⟩, by decide, by decide⟩ hK hP hD hS hA hZ [13] [0, 1, 2, 3, 4, 5, 6, 7, 8, 9, 10, 11, 12] rfl rfl (by decide) rfl hl.1 (Nat.le_of_ble_eq_true rfl) dX9_init_39 (fun u19 H locs hu hP hD hS _ => ?_)
  have hP : va_P D k_cl [(a, .inr (9, [.ref q1, .ref q4, .null, .null, .null, .null, .null, .null, .null, .null, .null, .int 0, .int 0])), (q1, .inr (6, [.ref t_bytes3, .int 0])), (t_bytes3, .inl (E 2, 2000, .inl (fun _ => 0))), (q4, .inr (0, [.ref g_xs6, .ref g_ys7, .ref g_potentials8, .ref g_tails9, .ref g_heads10, .ref g_weights11, .ref g_net12, .int 0, .int 0, .long 0])), (g_xs6, .inl (E 0, 24, .inl (fun _ => 0))), (g_ys7, .inl (E 0, 24, .inl (fun _ => 0))), (g_potentials8, .inl (E 1, 24, .inr (.inl (fun _ => 0)))), (g_net12, .inr (3, [.ref n_lengths13, .ref n_counts14, .ref n_overs15, .ref n_arcNumbers16, .ref n_left17, .int 0])), (n_lengths13, .inl (E 1, 576, .inr (.inl (fun _ => 0)))), (n_counts14, .inl (E 0, 576, .inl (fun _ => 0))), (n_overs15, .inl (E 0, 576, .inl (fun _ => 0))), (n_arcNumbers16, .inl (E 0, 576, .inl (fun _ => 0))), (n_left17, .inl (E 3, 24, .inl (fun _ => 0))), (q18, .inr (4, [.ref q1, .ref q4, .int 0, .int 0, .int 0, .int (-1), .int 0, .int 0, .long 0]))] H := hP
  have hD : va_D A [(a, .inr (9, [.ref q1, .ref q4, .null, .null, .null, .null, .null, .null, .null, .null, .null, .int 0, .int 0])), (q1, .inr (6, [.ref t_bytes3, .int 0])), (t_bytes3, .inl (E 2, 2000, .inl (fun _ => 0))), (q4, .inr (0, [.ref g_xs6, .ref g_ys7, .ref g_potentials8, .ref g_tails9, .ref g_heads10, .ref g_weights11, .ref g_net12, .int 0, .int 0, .long 0])), (g_xs6, .inl (E 0, 24, .inl (fun _ => 0))), (g_ys7, .inl (E 0, 24, .inl (fun _ => 0))), (g_potentials8, .inl (E 1, 24, .inr (.inl (fun _ => 0)))), (g_net12, .inr (3, [.ref n_lengths13, .ref n_counts14, .ref n_overs15, .ref n_arcNumbers16, .ref n_left17, .int 0])), (n_lengths13, .inl (E 1, 576, .inr (.inl (fun _ => 0)))), (n_counts14, .inl (E 0, 576, .inl (fun _ => 0))), (n_overs15, .inl (E 0, 576, .inl (fun _ => 0))), (n_arcNumbers16, .inl (E 0, 576, .inl (fun _ => 0))), (n_left17, .inl (E 3, 24, .inl (fun _ => 0))), (q18, .inr (4, [.ref q1, .ref q4, .int 0, .int 0, .int 0, .int (-1), .int 0, .int 0, .long 0]))] := hD
  refine W.eq (g2 := F0 m 42 ls [.ref q18, .ref a]) rfl ?_
  refine va_putF (D := D) (ci := 9) (v := .ref q18) (ty := (.object "RoutePlanner$Reader")) (C := RX9) (T := TX9) (N := 13) hx hb hts inX9 tyX9 tyX9_ok nmX9 hown hK hP hD hS 0 rfl rfl 2 (by decide) (hts _ b_483) (fun _ h9 => h9) rfl hnm rfl (by decide +kernel) rfl rfl (Nat.le_of_ble_eq_true rfl) dX9_init_42 (fun H locs hP hD hS => ?_)
  have hP : va_P D k_cl [(a, .inr (9, [.ref q1, .ref q4, .ref q18, .null, .null, .null, .null, .null, .null, .null, .null, .int 0, .int 0])), (q1, .inr (6, [.ref t_bytes3, .int 0])), (t_bytes3, .inl (E 2, 2000, .inl (fun _ => 0))), (q4, .inr (0, [.ref g_xs6, .ref g_ys7, .ref g_potentials8, .ref g_tails9, .ref g_heads10, .ref g_weights11, .ref g_net12, .int 0, .int 0, .long 0])), (g_xs6, .inl (E 0, 24, .inl (fun _ => 0))), (g_ys7, .inl (E 0, 24, .inl (fun _ => 0))), (g_potentials8, .inl (E 1, 24, .inr (.inl (fun _ => 0)))), (g_net12, .inr (3, [.ref n_lengths13, .ref n_counts14, .ref n_overs15, .ref n_arcNumbers16, .ref n_left17, .int 0])), (n_lengths13, .inl (E 1, 576, .inr (.inl (fun _ => 0)))), (n_counts14, .inl (E 0, 576, .inl (fun _ => 0))), (n_overs15, .inl (E 0, 576, .inl (fun _ => 0))), (n_arcNumbers16, .inl (E 0, 576, .inl (fun _ => 0))), (n_left17, .inl (E 3, 24, .inl (fun _ => 0))), (q18, .inr (4, [.ref q1, .ref q4, .int 0, .int 0, .int 0, .int (-1), .int 0, .int 0, .long 0]))] H := hP
  have hD : va_D A [(a, .inr (9, [.ref q1, .ref q4, .ref q18, .null, .null, .null, .null, .null, .null, .null, .null, .int 0, .int 0])), (q1, .inr (6, [.ref t_bytes3, .int 0])), (t_bytes3, .inl (E 2, 2000, .inl (fun _ => 0))), (q4, .inr (0, [.ref g_xs6, .ref g_ys7, .ref g_potentials8, .ref g_tails9, .ref g_heads10, .ref g_weights11, .ref g_net12, .int 0, .int 0, .long 0])), (g_xs6, .inl (E 0, 24, .inl (fun _ => 0))), (g_ys7, .inl (E 0, 24, .inl (fun _ => 0))), (g_potentials8, .inl (E 1, 24, .inr (.inl (fun _ => 0)))), (g_net12, .inr (3, [.ref n_lengths13, .ref n_counts14, .ref n_overs15, .ref n_arcNumbers16, .ref n_left17, .int 0])), (n_lengths13, .inl (E 1, 576, .inr (.inl (fun _ => 0)))), (n_counts14, .inl (E 0, 576, .inl (fun _ => 0))), (n_overs15, .inl (E 0, 576, .inl (fun _ => 0))), (n_arcNumbers16, .inl (E 0, 576, .inl (fun _ => 0))), (n_left17, .inl (E 3, 24, .inl (fun _ => 0))), (q18, .inr (4, [.ref q1, .ref q4, .int 0, .int 0, .int 0, .int (-1), .int 0, .int 0, .long 0]))] := hD
  refine lv_aload_n hx hb dX9_init_45 rfl (lv_at hl 0 rfl) ?_
  refine va_new (ci := 8) (fs := df0X8) (C := RX8) (T := TX8) (N := 5) hx hb hts inX8 tyX8 tyX8_ok hown (hts _ b_263) (hts _ b_264) (hts _ b_83) hK hP hD hS hA rfl dfX8 (by decide) (by decide) dX9_init_46 (fun q20 H hP hD hS => ?_)
  refine W.widen (k := 17) (n := 5332) (by decide) (by decide) ?_
  have hP : va_P D k_cl [(a, .inr (9, [.ref q1, .ref q4, .ref q18, .null, .null, .null, .null, .null, .null, .null, .null, .int 0, .int 0])), (q1, .inr (6, [.ref t_bytes3, .int 0])), (t_bytes3, .inl (E 2, 2000, .inl (fun _ => 0))), (q4, .inr (0, [.ref g_xs6, .ref g_ys7, .ref g_potentials8, .ref g_tails9, .ref g_heads10, .ref g_weights11, .ref g_net12, .int 0, .int 0, .long 0])), (g_xs6, .inl (E 0, 24, .inl (fun _ => 0))), (g_ys7, .inl (E 0, 24, .inl (fun _ => 0))), (g_potentials8, .inl (E 1, 24, .inr (.inl (fun _ => 0)))), (g_net12, .inr (3, [.ref n_lengths13, .ref n_counts14, .ref n_overs15, .ref n_arcNumbers16, .ref n_left17, .int 0])), (n_lengths13, .inl (E 1, 576, .inr (.inl (fun _ => 0)))), (n_counts14, .inl (E 0, 576, .inl (fun _ => 0))), (n_overs15, .inl (E 0, 576, .inl (fun _ => 0))), (n_arcNumbers16, .inl (E 0, 576, .inl (fun _ => 0))), (n_left17, .inl (E 3, 24, .inl (fun _ => 0))), (q18, .inr (4, [.ref q1, .ref q4, .int 0, .int 0, .int 0, .int (-1), .int 0, .int 0, .long 0])), (q20, .inr (8, [.null, .null, .null, .int 0, .null]))] H := hP
  have hD : va_D A [(a, .inr (9, [.ref q1, .ref q4, .ref q18, .null, .null, .null, .null, .null, .null, .null, .null, .int 0, .int 0])), (q1, .inr (6, [.ref t_bytes3, .int 0])), (t_bytes3, .inl (E 2, 2000, .inl (fun _ => 0))), (q4, .inr (0, [.ref g_xs6, .ref g_ys7, .ref g_potentials8, .ref g_tails9, .ref g_heads10, .ref g_weights11, .ref g_net12, .int 0, .int 0, .long 0])), (g_xs6, .inl (E 0, 24, .inl (fun _ => 0))), (g_ys7, .inl (E 0, 24, .inl (fun _ => 0))), (g_potentials8, .inl (E 1, 24, .inr (.inl (fun _ => 0)))), (g_net12, .inr (3, [.ref n_lengths13, .ref n_counts14, .ref n_overs15, .ref n_arcNumbers16, .ref n_left17, .int 0])), (n_lengths13, .inl (E 1, 576, .inr (.inl (fun _ => 0)))), (n_counts14, .inl (E 0, 576, .inl (fun _ => 0))), (n_overs15, .inl (E 0, 576, .inl (fun _ => 0))), (n_arcNumbers16, .inl (E 0, 576, .inl (fun _ => 0))), (n_left17, .inl (E 3, 24, .inl (fun _ => 0))), (q18, .inr (4, [.ref q1, .ref q4, .int 0, .int 0, .int 0, .int (-1), .int 0, .int 0, .long 0])), (q20, .inr (8, [.null, .null, .null, .int 0, .null]))] := hD
  refine lv_dup hx hb dX9_init_49 rfl ?_
  refine k_MN (As := []) (rest := [.ref q20, .ref a])  (wr := [(a, .inr (9, [.ref q1, .ref q4, .ref q18, .null, .null, .null, .null, .null, .null, .null, .null, .int 0, .int 0])), (q1, .inr (6, [.ref t_bytes3, .int 0])), (t_bytes3, .inl (E 2, 2000, .inl (fun _ => 0))), (q4, .inr (0, [.ref g_xs6, .ref g_ys7, .ref g_potentials8, .ref g_tails9, .ref g_heads10, .ref g_weights11, .ref g_net12, .int 0, .int 0, .long 0])), (g_xs6, .inl (E 0, 24, .inl (fun _ => 0))), (g_ys7, .inl (E 0, 24, .inl (fun _ => 0))), (g_potentials8, .inl (E 1, 24, .inr (.inl (fun _ => 0)))), (g_net12, .inr (3, [.ref n_lengths13, .ref n_counts14, .ref n_overs15, .ref n_arcNumbers16, .ref n_left17, .int 0])), (n_lengths13, .inl (E 1, 576, .inr (.inl (fun _ => 0)))), (n_counts14, .inl (E 0, 576, .inl (fun _ => 0))), (n_overs15, .inl (E 0, 576, .inl (fun _ => 0))), (n_arcNumbers16, .inl (E 0, 576, .inl (fun _ => 0))), (n_left17, .inl (E 3, 24, .inl (fun _ => 0))), (q18, .inr (4, [.ref q1, .ref q4, .int 0, .int 0, .int 0, .int (-1), .int 0, .int 0, .long 0]))]) ⟨hx, hb, hml, hown, hts⟩ (i_Ways l D E sa q20) (by decide) b_266 b_83 b_267 ⟨rfl, hd_X8_init⟩ ⟨⟨by decide, by decide⟩, by decide, by decide⟩ hK hP hD hS hA hZ [14] [0, 1, 2, 3, 4, 5, 6, 7, 8, 9, 10, 11, 12, 13] rfl rfl (by decide) rfl hl.1 (Nat.le_of_ble_eq_true rfl) dX9_init_50 (fun u21 H locs hu hP hD hS _ => ?_)
  refine W.widen (k := 21) (n := 5428) (by decide) (by decide) ?_
  have hP : va_P D k_cl [(a, .inr (9, [.ref q1, .ref q4, .ref q18, .null, .null, .null, .null, .null, .null, .null, .null, .int 0, .int 0])), (q1, .inr (6, [.ref t_bytes3, .int 0])), (t_bytes3, .inl (E 2, 2000, .inl (fun _ => 0))), (q4, .inr (0, [.ref g_xs6, .ref g_ys7, .ref g_potentials8, .ref g_tails9, .ref g_heads10, .ref g_weights11, .ref g_net12, .int 0, .int 0, .long 0])), (g_xs6, .inl (E 0, 24, .inl (fun _ => 0))), (g_ys7, .inl (E 0, 24, .inl (fun _ => 0))), (g_potentials8, .inl (E 1, 24, .inr (.inl (fun _ => 0)))), (g_net12, .inr (3, [.ref n_lengths13, .ref n_counts14, .ref n_overs15, .ref n_arcNumbers16, .ref n_left17, .int 0])), (n_lengths13, .inl (E 1, 576, .inr (.inl (fun _ => 0)))), (n_counts14, .inl (E 0, 576, .inl (fun _ => 0))), (n_overs15, .inl (E 0, 576, .inl (fun _ => 0))), (n_arcNumbers16, .inl (E 0, 576, .inl (fun _ => 0))), (n_left17, .inl (E 3, 24, .inl (fun _ => 0))), (q18, .inr (4, [.ref q1, .ref q4, .int 0, .int 0, .int 0, .int (-1), .int 0, .int 0, .long 0]))] H := hP
  have hD : va_D A [(a, .inr (9, [.ref q1, .ref q4, .ref q18, .null, .null, .null, .null, .null, .null, .null, .null, .int 0, .int 0])), (q1, .inr (6, [.ref t_bytes3, .int 0])), (t_bytes3, .inl (E 2, 2000, .inl (fun _ => 0))), (q4, .inr (0, [.ref g_xs6, .ref g_ys7, .ref g_potentials8, .ref g_tails9, .ref g_heads10, .ref g_weights11, .ref g_net12, .int 0, .int 0, .long 0])), (g_xs6, .inl (E 0, 24, .inl (fun _ => 0))), (g_ys7, .inl (E 0, 24, .inl (fun _ => 0))), (g_potentials8, .inl (E 1, 24, .inr (.inl (fun _ => 0)))), (g_net12, .inr (3, [.ref n_lengths13, .ref n_counts14, .ref n_overs15, .ref n_arcNumbers16, .ref n_left17, .int 0])), (n_lengths13, .inl (E 1, 576, .inr (.inl (fun _ => 0)))), (n_counts14, .inl (E 0, 576, .inl (fun _ => 0))), (n_overs15, .inl (E 0, 576, .inl (fun _ => 0))), (n_arcNumbers16, .inl (E 0, 576, .inl (fun _ => 0))), (n_left17, .inl (E 3, 24, .inl (fun _ => 0))), (q18, .inr (4, [.ref q1, .ref q4, .int 0, .int 0, .int 0, .int (-1), .int 0, .int 0, .long 0]))] := hD
  refine W.eq (g2 := F0 m 53 ls [.ref q20, .ref a]) rfl ?_
  refine va_putF (D := D) (ci := 9) (v := .ref q20) (ty := (.object "RoutePlanner$Ways")) (C := RX9) (T := TX9) (N := 13) hx hb hts inX9 tyX9 tyX9_ok nmX9 hown hK hP hD hS 0 rfl rfl 3 (by decide) (hts _ b_484) (fun _ h9 => h9) rfl hnm rfl (by decide +kernel) rfl rfl (Nat.le_of_ble_eq_true rfl) dX9_init_53 (fun H locs hP hD hS => ?_)
  have hP : va_P D k_cl [(a, .inr (9, [.ref q1, .ref q4, .ref q18, .ref q20, .null, .null, .null, .null, .null, .null, .null, .int 0, .int 0])), (q1, .inr (6, [.ref t_bytes3, .int 0])), (t_bytes3, .inl (E 2, 2000, .inl (fun _ => 0))), (q4, .inr (0, [.ref g_xs6, .ref g_ys7, .ref g_potentials8, .ref g_tails9, .ref g_heads10, .ref g_weights11, .ref g_net12, .int 0, .int 0, .long 0])), (g_xs6, .inl (E 0, 24, .inl (fun _ => 0))), (g_ys7, .inl (E 0, 24, .inl (fun _ => 0))), (g_potentials8, .inl (E 1, 24, .inr (.inl (fun _ => 0)))), (g_net12, .inr (3, [.ref n_lengths13, .ref n_counts14, .ref n_overs15, .ref n_arcNumbers16, .ref n_left17, .int 0])), (n_lengths13, .inl (E 1, 576, .inr (.inl (fun _ => 0)))), (n_counts14, .inl (E 0, 576, .inl (fun _ => 0))), (n_overs15, .inl (E 0, 576, .inl (fun _ => 0))), (n_arcNumbers16, .inl (E 0, 576, .inl (fun _ => 0))), (n_left17, .inl (E 3, 24, .inl (fun _ => 0))), (q18, .inr (4, [.ref q1, .ref q4, .int 0, .int 0, .int 0, .int (-1), .int 0, .int 0, .long 0]))] H := hP
  have hD : va_D A [(a, .inr (9, [.ref q1, .ref q4, .ref q18, .ref q20, .null, .null, .null, .null, .null, .null, .null, .int 0, .int 0])), (q1, .inr (6, [.ref t_bytes3, .int 0])), (t_bytes3, .inl (E 2, 2000, .inl (fun _ => 0))), (q4, .inr (0, [.ref g_xs6, .ref g_ys7, .ref g_potentials8, .ref g_tails9, .ref g_heads10, .ref g_weights11, .ref g_net12, .int 0, .int 0, .long 0])), (g_xs6, .inl (E 0, 24, .inl (fun _ => 0))), (g_ys7, .inl (E 0, 24, .inl (fun _ => 0))), (g_potentials8, .inl (E 1, 24, .inr (.inl (fun _ => 0)))), (g_net12, .inr (3, [.ref n_lengths13, .ref n_counts14, .ref n_overs15, .ref n_arcNumbers16, .ref n_left17, .int 0])), (n_lengths13, .inl (E 1, 576, .inr (.inl (fun _ => 0)))), (n_counts14, .inl (E 0, 576, .inl (fun _ => 0))), (n_overs15, .inl (E 0, 576, .inl (fun _ => 0))), (n_arcNumbers16, .inl (E 0, 576, .inl (fun _ => 0))), (n_left17, .inl (E 3, 24, .inl (fun _ => 0))), (q18, .inr (4, [.ref q1, .ref q4, .int 0, .int 0, .int 0, .int (-1), .int 0, .int 0, .long 0]))] := hD
  refine lv_aload_n hx hb dX9_init_56 rfl (lv_at hl 0 rfl) ?_
  refine va_new (ci := 8) (fs := df0X8) (C := RX8) (T := TX8) (N := 5) hx hb hts inX8 tyX8 tyX8_ok hown (hts _ b_263) (hts _ b_264) (hts _ b_83) hK hP hD hS hA rfl dfX8 (by decide) (by decide) dX9_init_57 (fun q22 H hP hD hS => ?_)
  refine W.widen (k := 22) (n := 5433) (by decide) (by decide) ?_
  have hP : va_P D k_cl [(a, .inr (9, [.ref q1, .ref q4, .ref q18, .ref q20, .null, .null, .null, .null, .null, .null, .null, .int 0, .int 0])), (q1, .inr (6, [.ref t_bytes3, .int 0])), (t_bytes3, .inl (E 2, 2000, .inl (fun _ => 0))), (q4, .inr (0, [.ref g_xs6, .ref g_ys7, .ref g_potentials8, .ref g_tails9, .ref g_heads10, .ref g_weights11, .ref g_net12, .int 0, .int 0, .long 0])), (g_xs6, .inl (E 0, 24, .inl (fun _ => 0))), (g_ys7, .inl (E 0, 24, .inl (fun _ => 0))), (g_potentials8, .inl (E 1, 24, .inr (.inl (fun _ => 0)))), (g_net12, .inr (3, [.ref n_lengths13, .ref n_counts14, .ref n_overs15, .ref n_arcNumbers16, .ref n_left17, .int 0])), (n_lengths13, .inl (E 1, 576, .inr (.inl (fun _ => 0)))), (n_counts14, .inl (E 0, 576, .inl (fun _ => 0))), (n_overs15, .inl (E 0, 576, .inl (fun _ => 0))), (n_arcNumbers16, .inl (E 0, 576, .inl (fun _ => 0))), (n_left17, .inl (E 3, 24, .inl (fun _ => 0))), (q18, .inr (4, [.ref q1, .ref q4, .int 0, .int 0, .int 0, .int (-1), .int 0, .int 0, .long 0])), (q22, .inr (8, [.null, .null, .null, .int 0, .null]))] H := hP
  have hD : va_D A [(a, .inr (9, [.ref q1, .ref q4, .ref q18, .ref q20, .null, .null, .null, .null, .null, .null, .null, .int 0, .int 0])), (q1, .inr (6, [.ref t_bytes3, .int 0])), (t_bytes3, .inl (E 2, 2000, .inl (fun _ => 0))), (q4, .inr (0, [.ref g_xs6, .ref g_ys7, .ref g_potentials8, .ref g_tails9, .ref g_heads10, .ref g_weights11, .ref g_net12, .int 0, .int 0, .long 0])), (g_xs6, .inl (E 0, 24, .inl (fun _ => 0))), (g_ys7, .inl (E 0, 24, .inl (fun _ => 0))), (g_potentials8, .inl (E 1, 24, .inr (.inl (fun _ => 0)))), (g_net12, .inr (3, [.ref n_lengths13, .ref n_counts14, .ref n_overs15, .ref n_arcNumbers16, .ref n_left17, .int 0])), (n_lengths13, .inl (E 1, 576, .inr (.inl (fun _ => 0)))), (n_counts14, .inl (E 0, 576, .inl (fun _ => 0))), (n_overs15, .inl (E 0, 576, .inl (fun _ => 0))), (n_arcNumbers16, .inl (E 0, 576, .inl (fun _ => 0))), (n_left17, .inl (E 3, 24, .inl (fun _ => 0))), (q18, .inr (4, [.ref q1, .ref q4, .int 0, .int 0, .int 0, .int (-1), .int 0, .int 0, .long 0])), (q22, .inr (8, [.null, .null, .null, .int 0, .null]))] := hD
  refine lv_dup hx hb dX9_init_60 rfl ?_
  refine k_MN (As := []) (rest := [.ref q22, .ref a])  (wr := [(a, .inr (9, [.ref q1, .ref q4, .ref q18, .ref q20, .null, .null, .null, .null, .null, .null, .null, .int 0, .int 0])), (q1, .inr (6, [.ref t_bytes3, .int 0])), (t_bytes3, .inl (E 2, 2000, .inl (fun _ => 0))), (q4, .inr (0, [.ref g_xs6, .ref g_ys7, .ref g_potentials8, .ref g_tails9, .ref g_heads10, .ref g_weights11, .ref g_net12, .int 0, .int 0, .long 0])), (g_xs6, .inl (E 0, 24, .inl (fun _ => 0))), (g_ys7, .inl (E 0, 24, .inl (fun _ => 0))), (g_potentials8, .inl (E 1, 24, .inr (.inl (fun _ => 0)))), (g_net12, .inr (3, [.ref n_lengths13, .ref n_counts14, .ref n_overs15, .ref n_arcNumbers16, .ref n_left17, .int 0])), (n_lengths13, .inl (E 1, 576, .inr (.inl (fun _ => 0)))), (n_counts14, .inl (E 0, 576, .inl (fun _ => 0))), (n_overs15, .inl (E 0, 576, .inl (fun _ => 0))), (n_arcNumbers16, .inl (E 0, 576, .inl (fun _ => 0))), (n_left17, .inl (E 3, 24, .inl (fun _ => 0))), (q18, .inr (4, [.ref q1, .ref q4, .int 0, .int 0, .int 0, .int (-1), .int 0, .int 0, .long 0]))]) ⟨hx, hb, hml, hown, hts⟩ (i_Ways l D E sa q22) (by decide) b_266 b_83 b_267 ⟨rfl, hd_X8_init⟩ ⟨⟨by decide, by decide⟩, by decide, by decide⟩ hK hP hD hS hA hZ [14] [0, 1, 2, 3, 4, 5, 6, 7, 8, 9, 10, 11, 12, 13] rfl rfl (by decide) rfl hl.1 (Nat.le_of_ble_eq_true rfl) dX9_init_61 (fun u23 H locs hu hP hD hS _ => ?_)
  refine W.widen (k := 26) (n := 5529) (by decide) (by decide) ?_
  have hP : va_P D k_cl [(a, .inr (9, [.ref q1, .ref q4, .ref q18, .ref q20, .null, .null, .null, .null, .null, .null, .null, .int 0, .int 0])), (q1, .inr (6, [.ref t_bytes3, .int 0])), (t_bytes3, .inl (E 2, 2000, .inl (fun _ => 0))), (q4, .inr (0, [.ref g_xs6, .ref g_ys7, .ref g_potentials8, .ref g_tails9, .ref g_heads10, .ref g_weights11, .ref g_net12, .int 0, .int 0, .long 0])), (g_xs6, .inl (E 0, 24, .inl (fun _ => 0))), (g_ys7, .inl (E 0, 24, .inl (fun _ => 0))), (g_potentials8, .inl (E 1, 24, .inr (.inl (fun _ => 0)))), (g_net12, .inr (3, [.ref n_lengths13, .ref n_counts14, .ref n_overs15, .ref n_arcNumbers16, .ref n_left17, .int 0])), (n_lengths13, .inl (E 1, 576, .inr (.inl (fun _ => 0)))), (n_counts14, .inl (E 0, 576, .inl (fun _ => 0))), (n_overs15, .inl (E 0, 576, .inl (fun _ => 0))), (n_arcNumbers16, .inl (E 0, 576, .inl (fun _ => 0))), (n_left17, .inl (E 3, 24, .inl (fun _ => 0))), (q18, .inr (4, [.ref q1, .ref q4, .int 0, .int 0, .int 0, .int (-1), .int 0, .int 0, .long 0]))] H := hP
  have hD : va_D A [(a, .inr (9, [.ref q1, .ref q4, .ref q18, .ref q20, .null, .null, .null, .null, .null, .null, .null, .int 0, .int 0])), (q1, .inr (6, [.ref t_bytes3, .int 0])), (t_bytes3, .inl (E 2, 2000, .inl (fun _ => 0))), (q4, .inr (0, [.ref g_xs6, .ref g_ys7, .ref g_potentials8, .ref g_tails9, .ref g_heads10, .ref g_weights11, .ref g_net12, .int 0, .int 0, .long 0])), (g_xs6, .inl (E 0, 24, .inl (fun _ => 0))), (g_ys7, .inl (E 0, 24, .inl (fun _ => 0))), (g_potentials8, .inl (E 1, 24, .inr (.inl (fun _ => 0)))), (g_net12, .inr (3, [.ref n_lengths13, .ref n_counts14, .ref n_overs15, .ref n_arcNumbers16, .ref n_left17, .int 0])), (n_lengths13, .inl (E 1, 576, .inr (.inl (fun _ => 0)))), (n_counts14, .inl (E 0, 576, .inl (fun _ => 0))), (n_overs15, .inl (E 0, 576, .inl (fun _ => 0))), (n_arcNumbers16, .inl (E 0, 576, .inl (fun _ => 0))), (n_left17, .inl (E 3, 24, .inl (fun _ => 0))), (q18, .inr (4, [.ref q1, .ref q4, .int 0, .int 0, .int 0, .int (-1), .int 0, .int 0, .long 0]))] := hD
  refine W.eq (g2 := F0 m 64 ls [.ref q22, .ref a]) rfl ?_
  refine va_putF (D := D) (ci := 9) (v := .ref q22) (ty := (.object "RoutePlanner$Ways")) (C := RX9) (T := TX9) (N := 13) hx hb hts inX9 tyX9 tyX9_ok nmX9 hown hK hP hD hS 0 rfl rfl 4 (by decide) (hts _ b_485) (fun _ h9 => h9) rfl hnm rfl (by decide +kernel) rfl rfl (Nat.le_of_ble_eq_true rfl) dX9_init_64 (fun H locs hP hD hS => ?_)
  have hP : va_P D k_cl [(a, .inr (9, [.ref q1, .ref q4, .ref q18, .ref q20, .ref q22, .null, .null, .null, .null, .null, .null, .int 0, .int 0])), (q1, .inr (6, [.ref t_bytes3, .int 0])), (t_bytes3, .inl (E 2, 2000, .inl (fun _ => 0))), (q4, .inr (0, [.ref g_xs6, .ref g_ys7, .ref g_potentials8, .ref g_tails9, .ref g_heads10, .ref g_weights11, .ref g_net12, .int 0, .int 0, .long 0])), (g_xs6, .inl (E 0, 24, .inl (fun _ => 0))), (g_ys7, .inl (E 0, 24, .inl (fun _ => 0))), (g_potentials8, .inl (E 1, 24, .inr (.inl (fun _ => 0)))), (g_net12, .inr (3, [.ref n_lengths13, .ref n_counts14, .ref n_overs15, .ref n_arcNumbers16, .ref n_left17, .int 0])), (n_lengths13, .inl (E 1, 576, .inr (.inl (fun _ => 0)))), (n_counts14, .inl (E 0, 576, .inl (fun _ => 0))), (n_overs15, .inl (E 0, 576, .inl (fun _ => 0))), (n_arcNumbers16, .inl (E 0, 576, .inl (fun _ => 0))), (n_left17, .inl (E 3, 24, .inl (fun _ => 0))), (q18, .inr (4, [.ref q1, .ref q4, .int 0, .int 0, .int 0, .int (-1), .int 0, .int 0, .long 0]))] H := hP
  have hD : va_D A [(a, .inr (9, [.ref q1, .ref q4, .ref q18, .ref q20, .ref q22, .null, .null, .null, .null, .null, .null, .int 0, .int 0])), (q1, .inr (6, [.ref t_bytes3, .int 0])), (t_bytes3, .inl (E 2, 2000, .inl (fun _ => 0))), (q4, .inr (0, [.ref g_xs6, .ref g_ys7, .ref g_potentials8, .ref g_tails9, .ref g_heads10, .ref g_weights11, .ref g_net12, .int 0, .int 0, .long 0])), (g_xs6, .inl (E 0, 24, .inl (fun _ => 0))), (g_ys7, .inl (E 0, 24, .inl (fun _ => 0))), (g_potentials8, .inl (E 1, 24, .inr (.inl (fun _ => 0)))), (g_net12, .inr (3, [.ref n_lengths13, .ref n_counts14, .ref n_overs15, .ref n_arcNumbers16, .ref n_left17, .int 0])), (n_lengths13, .inl (E 1, 576, .inr (.inl (fun _ => 0)))), (n_counts14, .inl (E 0, 576, .inl (fun _ => 0))), (n_overs15, .inl (E 0, 576, .inl (fun _ => 0))), (n_arcNumbers16, .inl (E 0, 576, .inl (fun _ => 0))), (n_left17, .inl (E 3, 24, .inl (fun _ => 0))), (q18, .inr (4, [.ref q1, .ref q4, .int 0, .int 0, .int 0, .int (-1), .int 0, .int 0, .long 0]))] := hD
  refine lv_aload_n hx hb dX9_init_67 rfl (lv_at hl 0 rfl) ?_
  refine va_new (ci := 7) (fs := df0X7) (C := RX7) (T := TX7) (N := 5) hx hb hts inX7 tyX7 tyX7_ok hown (hts _ b_293) (hts _ b_294) (hts _ b_84) hK hP hD hS hA rfl dfX7 (by decide) (by decide) dX9_init_68 (fun q24 H hP hD hS => ?_)
  refine W.widen (k := 27) (n := 5534) (by decide) (by decide) ?_
  have hP : va_P D k_cl [(a, .inr (9, [.ref q1, .ref q4, .ref q18, .ref q20, .ref q22, .null, .null, .null, .null, .null, .null, .int 0, .int 0])), (q1, .inr (6, [.ref t_bytes3, .int 0])), (t_bytes3, .inl (E 2, 2000, .inl (fun _ => 0))), (q4, .inr (0, [.ref g_xs6, .ref g_ys7, .ref g_potentials8, .ref g_tails9, .ref g_heads10, .ref g_weights11, .ref g_net12, .int 0, .int 0, .long 0])), (g_xs6, .inl (E 0, 24, .inl (fun _ => 0))), (g_ys7, .inl (E 0, 24, .inl (fun _ => 0))), (g_potentials8, .inl (E 1, 24, .inr (.inl (fun _ => 0)))), (g_net12, .inr (3, [.ref n_lengths13, .ref n_counts14, .ref n_overs15, .ref n_arcNumbers16, .ref n_left17, .int 0])), (n_lengths13, .inl (E 1, 576, .inr (.inl (fun _ => 0)))), (n_counts14, .inl (E 0, 576, .inl (fun _ => 0))), (n_overs15, .inl (E 0, 576, .inl (fun _ => 0))), (n_arcNumbers16, .inl (E 0, 576, .inl (fun _ => 0))), (n_left17, .inl (E 3, 24, .inl (fun _ => 0))), (q18, .inr (4, [.ref q1, .ref q4, .int 0, .int 0, .int 0, .int (-1), .int 0, .int 0, .long 0])), (q24, .inr (7, [.null, .null, .null, .int 0, .null]))] H := hP
  have hD : va_D A [(a, .inr (9, [.ref q1, .ref q4, .ref q18, .ref q20, .ref q22, .null, .null, .null, .null, .null, .null, .int 0, .int 0])), (q1, .inr (6, [.ref t_bytes3, .int 0])), (t_bytes3, .inl (E 2, 2000, .inl (fun _ => 0))), (q4, .inr (0, [.ref g_xs6, .ref g_ys7, .ref g_potentials8, .ref g_tails9, .ref g_heads10, .ref g_weights11, .ref g_net12, .int 0, .int 0, .long 0])), (g_xs6, .inl (E 0, 24, .inl (fun _ => 0))), (g_ys7, .inl (E 0, 24, .inl (fun _ => 0))), (g_potentials8, .inl (E 1, 24, .inr (.inl (fun _ => 0)))), (g_net12, .inr (3, [.ref n_lengths13, .ref n_counts14, .ref n_overs15, .ref n_arcNumbers16, .ref n_left17, .int 0])), (n_lengths13, .inl (E 1, 576, .inr (.inl (fun _ => 0)))), (n_counts14, .inl (E 0, 576, .inl (fun _ => 0))), (n_overs15, .inl (E 0, 576, .inl (fun _ => 0))), (n_arcNumbers16, .inl (E 0, 576, .inl (fun _ => 0))), (n_left17, .inl (E 3, 24, .inl (fun _ => 0))), (q18, .inr (4, [.ref q1, .ref q4, .int 0, .int 0, .int 0, .int (-1), .int 0, .int 0, .long 0])), (q24, .inr (7, [.null, .null, .null, .int 0, .null]))] := hD
  refine lv_dup hx hb dX9_init_71 rfl ?_
  refine k_MN (As := []) (rest := [.ref q24, .ref a])  (wr := [(a, .inr (9, [.ref q1, .ref q4, .ref q18, .ref q20, .ref q22, .null, .null, .null, .null, .null, .null, .int 0, .int 0])), (q1, .inr (6, [.ref t_bytes3, .int 0])), (t_bytes3, .inl (E 2, 2000, .inl (fun _ => 0))), (q4, .inr (0, [.ref g_xs6, .ref g_ys7, .ref g_potentials8, .ref g_tails9, .ref g_heads10, .ref g_weights11, .ref g_net12, .int 0, .int 0, .long 0])), (g_xs6, .inl (E 0, 24, .inl (fun _ => 0))), (g_ys7, .inl (E 0, 24, .inl (fun _ => 0))), (g_potentials8, .inl (E 1, 24, .inr (.inl (fun _ => 0)))), (g_net12, .inr (3, [.ref n_lengths13, .ref n_counts14, .ref n_overs15, .ref n_arcNumbers16, .ref n_left17, .int 0])), (n_lengths13, .inl (E 1, 576, .inr (.inl (fun _ => 0)))), (n_counts14, .inl (E 0, 576, .inl (fun _ => 0))), (n_overs15, .inl (E 0, 576, .inl (fun _ => 0))), (n_arcNumbers16, .inl (E 0, 576, .inl (fun _ => 0))), (n_left17, .inl (E 3, 24, .inl (fun _ => 0))), (q18, .inr (4, [.ref q1, .ref q4, .int 0, .int 0, .int 0, .int (-1), .int 0, .int 0, .long 0]))]) ⟨hx, hb, hml, hown, hts⟩ (i_Trail l D E sa q24) (by decide) b_296 b_84 b_297 ⟨rfl, hd_X7_init⟩ ⟨⟨by decide, by decide⟩, by decide, by decide⟩ hK hP hD hS hA hZ [14] [0, 1, 2, 3, 4, 5, 6, 7, 8, 9, 10, 11, 12, 13] rfl rfl (by decide) rfl hl.1 (Nat.le_of_ble_eq_true rfl) dX9_init_72 (fun u25 H locs hu hP hD hS _ => ?_)
  obtain ⟨r_nodes26, r_lengths27, r_counts28, r_seen29⟩ := u25
  refine W.widen (k := 31) (n := 5702) (by decide) (by decide) ?_
  have hP : va_P D k_cl [(a, .inr (9, [.ref q1, .ref q4, .ref q18, .ref q20, .ref q22, .null, .null, .null, .null, .null, .null, .int 0, .int 0])), (q1, .inr (6, [.ref t_bytes3, .int 0])), (t_bytes3, .inl (E 2, 2000, .inl (fun _ => 0))), (q4, .inr (0, [.ref g_xs6, .ref g_ys7, .ref g_potentials8, .ref g_tails9, .ref g_heads10, .ref g_weights11, .ref g_net12, .int 0, .int 0, .long 0])), (g_xs6, .inl (E 0, 24, .inl (fun _ => 0))), (g_ys7, .inl (E 0, 24, .inl (fun _ => 0))), (g_potentials8, .inl (E 1, 24, .inr (.inl (fun _ => 0)))), (g_net12, .inr (3, [.ref n_lengths13, .ref n_counts14, .ref n_overs15, .ref n_arcNumbers16, .ref n_left17, .int 0])), (n_lengths13, .inl (E 1, 576, .inr (.inl (fun _ => 0)))), (n_counts14, .inl (E 0, 576, .inl (fun _ => 0))), (n_overs15, .inl (E 0, 576, .inl (fun _ => 0))), (n_arcNumbers16, .inl (E 0, 576, .inl (fun _ => 0))), (n_left17, .inl (E 3, 24, .inl (fun _ => 0))), (q18, .inr (4, [.ref q1, .ref q4, .int 0, .int 0, .int 0, .int (-1), .int 0, .int 0, .long 0])), (q24, .inr (7, [.ref r_nodes26, .ref r_lengths27, .ref r_counts28, .int 0, .ref r_seen29]))] H := hP
  have hD : va_D A [(a, .inr (9, [.ref q1, .ref q4, .ref q18, .ref q20, .ref q22, .null, .null, .null, .null, .null, .null, .int 0, .int 0])), (q1, .inr (6, [.ref t_bytes3, .int 0])), (t_bytes3, .inl (E 2, 2000, .inl (fun _ => 0))), (q4, .inr (0, [.ref g_xs6, .ref g_ys7, .ref g_potentials8, .ref g_tails9, .ref g_heads10, .ref g_weights11, .ref g_net12, .int 0, .int 0, .long 0])), (g_xs6, .inl (E 0, 24, .inl (fun _ => 0))), (g_ys7, .inl (E 0, 24, .inl (fun _ => 0))), (g_potentials8, .inl (E 1, 24, .inr (.inl (fun _ => 0)))), (g_net12, .inr (3, [.ref n_lengths13, .ref n_counts14, .ref n_overs15, .ref n_arcNumbers16, .ref n_left17, .int 0])), (n_lengths13, .inl (E 1, 576, .inr (.inl (fun _ => 0)))), (n_counts14, .inl (E 0, 576, .inl (fun _ => 0))), (n_overs15, .inl (E 0, 576, .inl (fun _ => 0))), (n_arcNumbers16, .inl (E 0, 576, .inl (fun _ => 0))), (n_left17, .inl (E 3, 24, .inl (fun _ => 0))), (q18, .inr (4, [.ref q1, .ref q4, .int 0, .int 0, .int 0, .int (-1), .int 0, .int 0, .long 0])), (q24, .inr (7, [.ref r_nodes26, .ref r_lengths27, .ref r_counts28, .int 0, .ref r_seen29]))] := hD
  refine W.eq (g2 := F0 m 75 ls [.ref q24, .ref a]) rfl ?_
  refine va_putF (D := D) (ci := 9) (v := .ref q24) (ty := (.object "RoutePlanner$Trail")) (C := RX9) (T := TX9) (N := 13) hx hb hts inX9 tyX9 tyX9_ok nmX9 hown hK hP hD hS 0 rfl rfl 5 (by decide) (hts _ b_486) (fun _ h9 => h9) rfl hnm rfl (by decide +kernel) rfl rfl (Nat.le_of_ble_eq_true rfl) dX9_init_75 (fun H locs hP hD hS => ?_)
  have hP : va_P D k_cl [(a, .inr (9, [.ref q1, .ref q4, .ref q18, .ref q20, .ref q22, .ref q24, .null, .null, .null, .null, .null, .int 0, .int 0])), (q1, .inr (6, [.ref t_bytes3, .int 0])), (t_bytes3, .inl (E 2, 2000, .inl (fun _ => 0))), (q4, .inr (0, [.ref g_xs6, .ref g_ys7, .ref g_potentials8, .ref g_tails9, .ref g_heads10, .ref g_weights11, .ref g_net12, .int 0, .int 0, .long 0])), (g_xs6, .inl (E 0, 24, .inl (fun _ => 0))), (g_ys7, .inl (E 0, 24, .inl (fun _ => 0))), (g_potentials8, .inl (E 1, 24, .inr (.inl (fun _ => 0)))), (g_net12, .inr (3, [.ref n_lengths13, .ref n_counts14, .ref n_overs15, .ref n_arcNumbers16, .ref n_left17, .int 0])), (n_lengths13, .inl (E 1, 576, .inr (.inl (fun _ => 0)))), (n_counts14, .inl (E 0, 576, .inl (fun _ => 0))), (n_overs15, .inl (E 0, 576, .inl (fun _ => 0))), (n_arcNumbers16, .inl (E 0, 576, .inl (fun _ => 0))), (n_left17, .inl (E 3, 24, .inl (fun _ => 0))), (q18, .inr (4, [.ref q1, .ref q4, .int 0, .int 0, .int 0, .int (-1), .int 0, .int 0, .long 0])), (q24, .inr (7, [.ref r_nodes26, .ref r_lengths27, .ref r_counts28, .int 0, .ref r_seen29]))] H := hP
  have hD : va_D A [(a, .inr (9, [.ref q1, .ref q4, .ref q18, .ref q20, .ref q22, .ref q24, .null, .null, .null, .null, .null, .int 0, .int 0])), (q1, .inr (6, [.ref t_bytes3, .int 0])), (t_bytes3, .inl (E 2, 2000, .inl (fun _ => 0))), (q4, .inr (0, [.ref g_xs6, .ref g_ys7, .ref g_potentials8, .ref g_tails9, .ref g_heads10, .ref g_weights11, .ref g_net12, .int 0, .int 0, .long 0])), (g_xs6, .inl (E 0, 24, .inl (fun _ => 0))), (g_ys7, .inl (E 0, 24, .inl (fun _ => 0))), (g_potentials8, .inl (E 1, 24, .inr (.inl (fun _ => 0)))), (g_net12, .inr (3, [.ref n_lengths13, .ref n_counts14, .ref n_overs15, .ref n_arcNumbers16, .ref n_left17, .int 0])), (n_lengths13, .inl (E 1, 576, .inr (.inl (fun _ => 0)))), (n_counts14, .inl (E 0, 576, .inl (fun _ => 0))), (n_overs15, .inl (E 0, 576, .inl (fun _ => 0))), (n_arcNumbers16, .inl (E 0, 576, .inl (fun _ => 0))), (n_left17, .inl (E 3, 24, .inl (fun _ => 0))), (q18, .inr (4, [.ref q1, .ref q4, .int 0, .int 0, .int 0, .int (-1), .int 0, .int 0, .long 0])), (q24, .inr (7, [.ref r_nodes26, .ref r_lengths27, .ref r_counts28, .int 0, .ref r_seen29]))] := hD
  refine lv_aload_n hx hb dX9_init_78 rfl (lv_at hl 0 rfl) ?_
  refine va_new (ci := 2) (fs := df0X2) (C := RX2) (T := TX2) (N := 5) hx hb hts inX2 tyX2 tyX2_ok hown (hts _ b_319) (hts _ b_320) (hts _ b_85) hK hP hD hS hA rfl dfX2 (by decide) (by decide) dX9_init_79 (fun q30 H hP hD hS => ?_)
  refine W.widen (k := 32) (n := 5707) (by decide) (by decide) ?_
  have hP : va_P D k_cl [(a, .inr (9, [.ref q1, .ref q4, .ref q18, .ref q20, .ref q22, .ref q24, .null, .null, .null, .null, .null, .int 0, .int 0])), (q1, .inr (6, [.ref t_bytes3, .int 0])), (t_bytes3, .inl (E 2, 2000, .inl (fun _ => 0))), (q4, .inr (0, [.ref g_xs6, .ref g_ys7, .ref g_potentials8, .ref g_tails9, .ref g_heads10, .ref g_weights11, .ref g_net12, .int 0, .int 0, .long 0])), (g_xs6, .inl (E 0, 24, .inl (fun _ => 0))), (g_ys7, .inl (E 0, 24, .inl (fun _ => 0))), (g_potentials8, .inl (E 1, 24, .inr (.inl (fun _ => 0)))), (g_net12, .inr (3, [.ref n_lengths13, .ref n_counts14, .ref n_overs15, .ref n_arcNumbers16, .ref n_left17, .int 0])), (n_lengths13, .inl (E 1, 576, .inr (.inl (fun _ => 0)))), (n_counts14, .inl (E 0, 576, .inl (fun _ => 0))), (n_overs15, .inl (E 0, 576, .inl (fun _ => 0))), (n_arcNumbers16, .inl (E 0, 576, .inl (fun _ => 0))), (n_left17, .inl (E 3, 24, .inl (fun _ => 0))), (q18, .inr (4, [.ref q1, .ref q4, .int 0, .int 0, .int 0, .int (-1), .int 0, .int 0, .long 0])), (q24, .inr (7, [.ref r_nodes26, .ref r_lengths27, .ref r_counts28, .int 0, .ref r_seen29])), (q30, .inr (2, [.null, .null, .int 0, .null, .null]))] H := hP
  have hD : va_D A [(a, .inr (9, [.ref q1, .ref q4, .ref q18, .ref q20, .ref q22, .ref q24, .null, .null, .null, .null, .null, .int 0, .int 0])), (q1, .inr (6, [.ref t_bytes3, .int 0])), (t_bytes3, .inl (E 2, 2000, .inl (fun _ => 0))), (q4, .inr (0, [.ref g_xs6, .ref g_ys7, .ref g_potentials8, .ref g_tails9, .ref g_heads10, .ref g_weights11, .ref g_net12, .int 0, .int 0, .long 0])), (g_xs6, .inl (E 0, 24, .inl (fun _ => 0))), (g_ys7, .inl (E 0, 24, .inl (fun _ => 0))), (g_potentials8, .inl (E 1, 24, .inr (.inl (fun _ => 0)))), (g_net12, .inr (3, [.ref n_lengths13, .ref n_counts14, .ref n_overs15, .ref n_arcNumbers16, .ref n_left17, .int 0])), (n_lengths13, .inl (E 1, 576, .inr (.inl (fun _ => 0)))), (n_counts14, .inl (E 0, 576, .inl (fun _ => 0))), (n_overs15, .inl (E 0, 576, .inl (fun _ => 0))), (n_arcNumbers16, .inl (E 0, 576, .inl (fun _ => 0))), (n_left17, .inl (E 3, 24, .inl (fun _ => 0))), (q18, .inr (4, [.ref q1, .ref q4, .int 0, .int 0, .int 0, .int (-1), .int 0, .int 0, .long 0])), (q24, .inr (7, [.ref r_nodes26, .ref r_lengths27, .ref r_counts28, .int 0, .ref r_seen29])), (q30, .inr (2, [.null, .null, .int 0, .null, .null]))] := hD
  refine lv_dup hx hb dX9_init_82 rfl ?_
  refine k_MN (As := []) (rest := [.ref q30, .ref a])  (wr := [(a, .inr (9, [.ref q1, .ref q4, .ref q18, .ref q20, .ref q22, .ref q24, .null, .null, .null, .null, .null, .int 0, .int 0])), (q1, .inr (6, [.ref t_bytes3, .int 0])), (t_bytes3, .inl (E 2, 2000, .inl (fun _ => 0))), (q4, .inr (0, [.ref g_xs6, .ref g_ys7, .ref g_potentials8, .ref g_tails9, .ref g_heads10, .ref g_weights11, .ref g_net12, .int 0, .int 0, .long 0])), (g_xs6, .inl (E 0, 24, .inl (fun _ => 0))), (g_ys7, .inl (E 0, 24, .inl (fun _ => 0))), (g_potentials8, .inl (E 1, 24, .inr (.inl (fun _ => 0)))), (g_net12, .inr (3, [.ref n_lengths13, .ref n_counts14, .ref n_overs15, .ref n_arcNumbers16, .ref n_left17, .int 0])), (n_lengths13, .inl (E 1, 576, .inr (.inl (fun _ => 0)))), (n_counts14, .inl (E 0, 576, .inl (fun _ => 0))), (n_overs15, .inl (E 0, 576, .inl (fun _ => 0))), (n_arcNumbers16, .inl (E 0, 576, .inl (fun _ => 0))), (n_left17, .inl (E 3, 24, .inl (fun _ => 0))), (q18, .inr (4, [.ref q1, .ref q4, .int 0, .int 0, .int 0, .int (-1), .int 0, .int 0, .long 0])), (q24, .inr (7, [.ref r_nodes26, .ref r_lengths27, .ref r_counts28, .int 0, .ref r_seen29]))]) ⟨hx, hb, hml, hown, hts⟩ (i_Landmarks l D E sa q30) (by decide) b_322 b_85 b_323 ⟨rfl, hd_X2_init⟩ ⟨⟨by decide, by decide⟩, by decide, by decide⟩ hK hP hD hS hA hZ [15] [0, 1, 2, 3, 4, 5, 6, 7, 8, 9, 10, 11, 12, 13, 14] rfl rfl (by decide) rfl hl.1 (Nat.le_of_ble_eq_true rfl) dX9_init_83 (fun u31 H locs hu hP hD hS _ => ?_)
  obtain ⟨m_nodes32, m_potentials33, m_from34, m_into35⟩ := u31
  refine W.widen (k := 44) (n := 5937) (by decide) (by decide) ?_
  have hP : va_P D k_cl [(a, .inr (9, [.ref q1, .ref q4, .ref q18, .ref q20, .ref q22, .ref q24, .null, .null, .null, .null, .null, .int 0, .int 0])), (q1, .inr (6, [.ref t_bytes3, .int 0])), (t_bytes3, .inl (E 2, 2000, .inl (fun _ => 0))), (q4, .inr (0, [.ref g_xs6, .ref g_ys7, .ref g_potentials8, .ref g_tails9, .ref g_heads10, .ref g_weights11, .ref g_net12, .int 0, .int 0, .long 0])), (g_xs6, .inl (E 0, 24, .inl (fun _ => 0))), (g_ys7, .inl (E 0, 24, .inl (fun _ => 0))), (g_potentials8, .inl (E 1, 24, .inr (.inl (fun _ => 0)))), (g_net12, .inr (3, [.ref n_lengths13, .ref n_counts14, .ref n_overs15, .ref n_arcNumbers16, .ref n_left17, .int 0])), (n_lengths13, .inl (E 1, 576, .inr (.inl (fun _ => 0)))), (n_counts14, .inl (E 0, 576, .inl (fun _ => 0))), (n_overs15, .inl (E 0, 576, .inl (fun _ => 0))), (n_arcNumbers16, .inl (E 0, 576, .inl (fun _ => 0))), (n_left17, .inl (E 3, 24, .inl (fun _ => 0))), (q18, .inr (4, [.ref q1, .ref q4, .int 0, .int 0, .int 0, .int (-1), .int 0, .int 0, .long 0])), (q24, .inr (7, [.ref r_nodes26, .ref r_lengths27, .ref r_counts28, .int 0, .ref r_seen29])), (q30, .inr (2, [.ref m_nodes32, .ref m_potentials33, .int 0, .ref m_from34, .ref m_into35]))] H := hP
  have hD : va_D A [(a, .inr (9, [.ref q1, .ref q4, .ref q18, .ref q20, .ref q22, .ref q24, .null, .null, .null, .null, .null, .int 0, .int 0])), (q1, .inr (6, [.ref t_bytes3, .int 0])), (t_bytes3, .inl (E 2, 2000, .inl (fun _ => 0))), (q4, .inr (0, [.ref g_xs6, .ref g_ys7, .ref g_potentials8, .ref g_tails9, .ref g_heads10, .ref g_weights11, .ref g_net12, .int 0, .int 0, .long 0])), (g_xs6, .inl (E 0, 24, .inl (fun _ => 0))), (g_ys7, .inl (E 0, 24, .inl (fun _ => 0))), (g_potentials8, .inl (E 1, 24, .inr (.inl (fun _ => 0)))), (g_net12, .inr (3, [.ref n_lengths13, .ref n_counts14, .ref n_overs15, .ref n_arcNumbers16, .ref n_left17, .int 0])), (n_lengths13, .inl (E 1, 576, .inr (.inl (fun _ => 0)))), (n_counts14, .inl (E 0, 576, .inl (fun _ => 0))), (n_overs15, .inl (E 0, 576, .inl (fun _ => 0))), (n_arcNumbers16, .inl (E 0, 576, .inl (fun _ => 0))), (n_left17, .inl (E 3, 24, .inl (fun _ => 0))), (q18, .inr (4, [.ref q1, .ref q4, .int 0, .int 0, .int 0, .int (-1), .int 0, .int 0, .long 0])), (q24, .inr (7, [.ref r_nodes26, .ref r_lengths27, .ref r_counts28, .int 0, .ref r_seen29])), (q30, .inr (2, [.ref m_nodes32, .ref m_potentials33, .int 0, .ref m_from34, .ref m_into35]))] := hD
  refine W.eq (g2 := F0 m 86 ls [.ref q30, .ref a]) rfl ?_
  refine va_putF (D := D) (ci := 9) (v := .ref q30) (ty := (.object "RoutePlanner$Landmarks")) (C := RX9) (T := TX9) (N := 13) hx hb hts inX9 tyX9 tyX9_ok nmX9 hown hK hP hD hS 0 rfl rfl 6 (by decide) (hts _ b_487) (fun _ h9 => h9) rfl hnm rfl (by decide +kernel) rfl rfl (Nat.le_of_ble_eq_true rfl) dX9_init_86 (fun H locs hP hD hS => ?_)
  have hP : va_P D k_cl [(a, .inr (9, [.ref q1, .ref q4, .ref q18, .ref q20, .ref q22, .ref q24, .ref q30, .null, .null, .null, .null, .int 0, .int 0])), (q1, .inr (6, [.ref t_bytes3, .int 0])), (t_bytes3, .inl (E 2, 2000, .inl (fun _ => 0))), (q4, .inr (0, [.ref g_xs6, .ref g_ys7, .ref g_potentials8, .ref g_tails9, .ref g_heads10, .ref g_weights11, .ref g_net12, .int 0, .int 0, .long 0])), (g_xs6, .inl (E 0, 24, .inl (fun _ => 0))), (g_ys7, .inl (E 0, 24, .inl (fun _ => 0))), (g_potentials8, .inl (E 1, 24, .inr (.inl (fun _ => 0)))), (g_net12, .inr (3, [.ref n_lengths13, .ref n_counts14, .ref n_overs15, .ref n_arcNumbers16, .ref n_left17, .int 0])), (n_lengths13, .inl (E 1, 576, .inr (.inl (fun _ => 0)))), (n_counts14, .inl (E 0, 576, .inl (fun _ => 0))), (n_overs15, .inl (E 0, 576, .inl (fun _ => 0))), (n_arcNumbers16, .inl (E 0, 576, .inl (fun _ => 0))), (n_left17, .inl (E 3, 24, .inl (fun _ => 0))), (q18, .inr (4, [.ref q1, .ref q4, .int 0, .int 0, .int 0, .int (-1), .int 0, .int 0, .long 0])), (q24, .inr (7, [.ref r_nodes26, .ref r_lengths27, .ref r_counts28, .int 0, .ref r_seen29])), (q30, .inr (2, [.ref m_nodes32, .ref m_potentials33, .int 0, .ref m_from34, .ref m_into35]))] H := hP
  have hD : va_D A [(a, .inr (9, [.ref q1, .ref q4, .ref q18, .ref q20, .ref q22, .ref q24, .ref q30, .null, .null, .null, .null, .int 0, .int 0])), (q1, .inr (6, [.ref t_bytes3, .int 0])), (t_bytes3, .inl (E 2, 2000, .inl (fun _ => 0))), (q4, .inr (0, [.ref g_xs6, .ref g_ys7, .ref g_potentials8, .ref g_tails9, .ref g_heads10, .ref g_weights11, .ref g_net12, .int 0, .int 0, .long 0])), (g_xs6, .inl (E 0, 24, .inl (fun _ => 0))), (g_ys7, .inl (E 0, 24, .inl (fun _ => 0))), (g_potentials8, .inl (E 1, 24, .inr (.inl (fun _ => 0)))), (g_net12, .inr (3, [.ref n_lengths13, .ref n_counts14, .ref n_overs15, .ref n_arcNumbers16, .ref n_left17, .int 0])), (n_lengths13, .inl (E 1, 576, .inr (.inl (fun _ => 0)))), (n_counts14, .inl (E 0, 576, .inl (fun _ => 0))), (n_overs15, .inl (E 0, 576, .inl (fun _ => 0))), (n_arcNumbers16, .inl (E 0, 576, .inl (fun _ => 0))), (n_left17, .inl (E 3, 24, .inl (fun _ => 0))), (q18, .inr (4, [.ref q1, .ref q4, .int 0, .int 0, .int 0, .int (-1), .int 0, .int 0, .long 0])), (q24, .inr (7, [.ref r_nodes26, .ref r_lengths27, .ref r_counts28, .int 0, .ref r_seen29])), (q30, .inr (2, [.ref m_nodes32, .ref m_potentials33, .int 0, .ref m_from34, .ref m_into35]))] := hD
  refine lv_aload_n hx hb dX9_init_89 rfl (lv_at hl 0 rfl) ?_
  refine va_new (ci := 1) (fs := df0X1) (C := RX1) (T := TX1) (N := 14) hx hb hts inX1 tyX1 tyX1_ok hown (hts _ b_346) (hts _ b_347) (hts _ b_86) hK hP hD hS hA rfl dfX1 (by decide) (by decide) dX9_init_90 (fun q36 H hP hD hS => ?_)
  refine W.widen (k := 45) (n := 5951) (by decide) (by decide) ?_
  have hP : va_P D k_cl [(a, .inr (9, [.ref q1, .ref q4, .ref q18, .ref q20, .ref q22, .ref q24, .ref q30, .null, .null, .null, .null, .int 0, .int 0])), (q1, .inr (6, [.ref t_bytes3, .int 0])), (t_bytes3, .inl (E 2, 2000, .inl (fun _ => 0))), (q4, .inr (0, [.ref g_xs6, .ref g_ys7, .ref g_potentials8, .ref g_tails9, .ref g_heads10, .ref g_weights11, .ref g_net12, .int 0, .int 0, .long 0])), (g_xs6, .inl (E 0, 24, .inl (fun _ => 0))), (g_ys7, .inl (E 0, 24, .inl (fun _ => 0))), (g_potentials8, .inl (E 1, 24, .inr (.inl (fun _ => 0)))), (g_net12, .inr (3, [.ref n_lengths13, .ref n_counts14, .ref n_overs15, .ref n_arcNumbers16, .ref n_left17, .int 0])), (n_lengths13, .inl (E 1, 576, .inr (.inl (fun _ => 0)))), (n_counts14, .inl (E 0, 576, .inl (fun _ => 0))), (n_overs15, .inl (E 0, 576, .inl (fun _ => 0))), (n_arcNumbers16, .inl (E 0, 576, .inl (fun _ => 0))), (n_left17, .inl (E 3, 24, .inl (fun _ => 0))), (q18, .inr (4, [.ref q1, .ref q4, .int 0, .int 0, .int 0, .int (-1), .int 0, .int 0, .long 0])), (q24, .inr (7, [.ref r_nodes26, .ref r_lengths27, .ref r_counts28, .int 0, .ref r_seen29])), (q30, .inr (2, [.ref m_nodes32, .ref m_potentials33, .int 0, .ref m_from34, .ref m_into35])), (q36, .inr (1, [.null, .null, .null, .int 0, .int 0, .int 0, .int 0, .int 0, .int 0, .null, .null, .null, .null, .int 0]))] H := hP
  have hD : va_D A [(a, .inr (9, [.ref q1, .ref q4, .ref q18, .ref q20, .ref q22, .ref q24, .ref q30, .null, .null, .null, .null, .int 0, .int 0])), (q1, .inr (6, [.ref t_bytes3, .int 0])), (t_bytes3, .inl (E 2, 2000, .inl (fun _ => 0))), (q4, .inr (0, [.ref g_xs6, .ref g_ys7, .ref g_potentials8, .ref g_tails9, .ref g_heads10, .ref g_weights11, .ref g_net12, .int 0, .int 0, .long 0])), (g_xs6, .inl (E 0, 24, .inl (fun _ => 0))), (g_ys7, .inl (E 0, 24, .inl (fun _ => 0))), (g_potentials8, .inl (E 1, 24, .inr (.inl (fun _ => 0)))), (g_net12, .inr (3, [.ref n_lengths13, .ref n_counts14, .ref n_overs15, .ref n_arcNumbers16, .ref n_left17, .int 0])), (n_lengths13, .inl (E 1, 576, .inr (.inl (fun _ => 0)))), (n_counts14, .inl (E 0, 576, .inl (fun _ => 0))), (n_overs15, .inl (E 0, 576, .inl (fun _ => 0))), (n_arcNumbers16, .inl (E 0, 576, .inl (fun _ => 0))), (n_left17, .inl (E 3, 24, .inl (fun _ => 0))), (q18, .inr (4, [.ref q1, .ref q4, .int 0, .int 0, .int 0, .int (-1), .int 0, .int 0, .long 0])), (q24, .inr (7, [.ref r_nodes26, .ref r_lengths27, .ref r_counts28, .int 0, .ref r_seen29])), (q30, .inr (2, [.ref m_nodes32, .ref m_potentials33, .int 0, .ref m_from34, .ref m_into35])), (q36, .inr (1, [.null, .null, .null, .int 0, .int 0, .int 0, .int 0, .int 0, .int 0, .null, .null, .null, .null, .int 0]))] := hD
  refine lv_dup hx hb dX9_init_93 rfl ?_
  refine k_MN (As := []) (rest := [.ref q36, .ref a])  (wr := [(a, .inr (9, [.ref q1, .ref q4, .ref q18, .ref q20, .ref q22, .ref q24, .ref q30, .null, .null, .null, .null, .int 0, .int 0])), (q1, .inr (6, [.ref t_bytes3, .int 0])), (t_bytes3, .inl (E 2, 2000, .inl (fun _ => 0))), (q4, .inr (0, [.ref g_xs6, .ref g_ys7, .ref g_potentials8, .ref g_tails9, .ref g_heads10, .ref g_weights11, .ref g_net12, .int 0, .int 0, .long 0])), (g_xs6, .inl (E 0, 24, .inl (fun _ => 0))), (g_ys7, .inl (E 0, 24, .inl (fun _ => 0))), (g_potentials8, .inl (E 1, 24, .inr (.inl (fun _ => 0)))), (g_net12, .inr (3, [.ref n_lengths13, .ref n_counts14, .ref n_overs15, .ref n_arcNumbers16, .ref n_left17, .int 0])), (n_lengths13, .inl (E 1, 576, .inr (.inl (fun _ => 0)))), (n_counts14, .inl (E 0, 576, .inl (fun _ => 0))), (n_overs15, .inl (E 0, 576, .inl (fun _ => 0))), (n_arcNumbers16, .inl (E 0, 576, .inl (fun _ => 0))), (n_left17, .inl (E 3, 24, .inl (fun _ => 0))), (q18, .inr (4, [.ref q1, .ref q4, .int 0, .int 0, .int 0, .int (-1), .int 0, .int 0, .long 0])), (q24, .inr (7, [.ref r_nodes26, .ref r_lengths27, .ref r_counts28, .int 0, .ref r_seen29])), (q30, .inr (2, [.ref m_nodes32, .ref m_potentials33, .int 0, .ref m_from34, .ref m_into35]))]) ⟨hx, hb, hml, hown, hts⟩ (i_Hierarchy l D E sa q36) (by decide) b_349 b_86 b_350 ⟨rfl, hd_X1_init⟩ ⟨⟨by decide, by decide⟩, by decide, by decide⟩ hK hP hD hS hA hZ [16] [0, 1, 2, 3, 4, 5, 6, 7, 8, 9, 10, 11, 12, 13, 14, 15] rfl rfl (by decide) rfl hl.1 (Nat.le_of_ble_eq_true rfl) dX9_init_94 (fun u37 H locs hu hP hD hS _ => ?_)
  obtain ⟨h_net38, h_ranks39, h_row40, h_witnesses41, h_contractedBeside42, h_wantedFrom43, h_wantedTo44, n_lengths45, n_counts46, n_overs47, n_arcNumbers48, n_left49⟩ := u37
  refine W.widen (k := 61) (n := 9610) (by decide) (by decide) ?_
  have hP : va_P D k_cl [(a, .inr (9, [.ref q1, .ref q4, .ref q18, .ref q20, .ref q22, .ref q24, .ref q30, .null, .null, .null, .null, .int 0, .int 0])), (q1, .inr (6, [.ref t_bytes3, .int 0])), (t_bytes3, .inl (E 2, 2000, .inl (fun _ => 0))), (q4, .inr (0, [.ref g_xs6, .ref g_ys7, .ref g_potentials8, .ref g_tails9, .ref g_heads10, .ref g_weights11, .ref g_net12, .int 0, .int 0, .long 0])), (g_xs6, .inl (E 0, 24, .inl (fun _ => 0))), (g_ys7, .inl (E 0, 24, .inl (fun _ => 0))), (g_potentials8, .inl (E 1, 24, .inr (.inl (fun _ => 0)))), (g_net12, .inr (3, [.ref n_lengths13, .ref n_counts14, .ref n_overs15, .ref n_arcNumbers16, .ref n_left17, .int 0])), (n_lengths13, .inl (E 1, 576, .inr (.inl (fun _ => 0)))), (n_counts14, .inl (E 0, 576, .inl (fun _ => 0))), (n_overs15, .inl (E 0, 576, .inl (fun _ => 0))), (n_arcNumbers16, .inl (E 0, 576, .inl (fun _ => 0))), (n_left17, .inl (E 3, 24, .inl (fun _ => 0))), (q18, .inr (4, [.ref q1, .ref q4, .int 0, .int 0, .int 0, .int (-1), .int 0, .int 0, .long 0])), (q24, .inr (7, [.ref r_nodes26, .ref r_lengths27, .ref r_counts28, .int 0, .ref r_seen29])), (q30, .inr (2, [.ref m_nodes32, .ref m_potentials33, .int 0, .ref m_from34, .ref m_into35])), (q36, .inr (1, [.ref h_net38, .ref h_ranks39, .ref h_row40, .int 0, .int 0, .int 0, .int 4, .int 2, .int 1, .ref h_witnesses41, .ref h_contractedBeside42, .ref h_wantedFrom43, .ref h_wantedTo44, .int 0])), (h_contractedBeside42, .inl (E 0, 24, .inl (fun _ => 0))), (h_net38, .inr (3, [.ref n_lengths45, .ref n_counts46, .ref n_overs47, .ref n_arcNumbers48, .ref n_left49, .int 0])), (n_lengths45, .inl (E 1, 576, .inr (.inl (fun _ => 0)))), (n_counts46, .inl (E 0, 576, .inl (fun _ => 0))), (n_overs47, .inl (E 0, 576, .inl (fun _ => 0))), (n_arcNumbers48, .inl (E 0, 576, .inl (fun _ => 0))), (n_left49, .inl (E 3, 24, .inl (fun _ => 0)))] H := hP
  have hD : va_D A [(a, .inr (9, [.ref q1, .ref q4, .ref q18, .ref q20, .ref q22, .ref q24, .ref q30, .null, .null, .null, .null, .int 0, .int 0])), (q1, .inr (6, [.ref t_bytes3, .int 0])), (t_bytes3, .inl (E 2, 2000, .inl (fun _ => 0))), (q4, .inr (0, [.ref g_xs6, .ref g_ys7, .ref g_potentials8, .ref g_tails9, .ref g_heads10, .ref g_weights11, .ref g_net12, .int 0, .int 0, .long 0])), (g_xs6, .inl (E 0, 24, .inl (fun _ => 0))), (g_ys7, .inl (E 0, 24, .inl (fun _ => 0))), (g_potentials8, .inl (E 1, 24, .inr (.inl (fun _ => 0)))), (g_net12, .inr (3, [.ref n_lengths13, .ref n_counts14, .ref n_overs15, .ref n_arcNumbers16, .ref n_left17, .int 0])), (n_lengths13, .inl (E 1, 576, .inr (.inl (fun _ => 0)))), (n_counts14, .inl (E 0, 576, .inl (fun _ => 0))), (n_overs15, .inl (E 0, 576, .inl (fun _ => 0))), (n_arcNumbers16, .inl (E 0, 576, .inl (fun _ => 0))), (n_left17, .inl (E 3, 24, .inl (fun _ => 0))), (q18, .inr (4, [.ref q1, .ref q4, .int 0, .int 0, .int 0, .int (-1), .int 0, .int 0, .long 0])), (q24, .inr (7, [.ref r_nodes26, .ref r_lengths27, .ref r_counts28, .int 0, .ref r_seen29])), (q30, .inr (2, [.ref m_nodes32, .ref m_potentials33, .int 0, .ref m_from34, .ref m_into35])), (q36, .inr (1, [.ref h_net38, .ref h_ranks39, .ref h_row40, .int 0, .int 0, .int 0, .int 4, .int 2, .int 1, .ref h_witnesses41, .ref h_contractedBeside42, .ref h_wantedFrom43, .ref h_wantedTo44, .int 0])), (h_contractedBeside42, .inl (E 0, 24, .inl (fun _ => 0))), (h_net38, .inr (3, [.ref n_lengths45, .ref n_counts46, .ref n_overs47, .ref n_arcNumbers48, .ref n_left49, .int 0])), (n_lengths45, .inl (E 1, 576, .inr (.inl (fun _ => 0)))), (n_counts46, .inl (E 0, 576, .inl (fun _ => 0))), (n_overs47, .inl (E 0, 576, .inl (fun _ => 0))), (n_arcNumbers48, .inl (E 0, 576, .inl (fun _ => 0))), (n_left49, .inl (E 3, 24, .inl (fun _ => 0)))] := hD
  refine W.eq (g2 := F0 m 97 ls [.ref q36, .ref a]) rfl ?_
  refine va_putF (D := D) (ci := 9) (v := .ref q36) (ty := (.object "RoutePlanner$Hierarchy")) (C := RX9) (T := TX9) (N := 13) hx hb hts inX9 tyX9 tyX9_ok nmX9 hown hK hP hD hS 0 rfl rfl 7 (by decide) (hts _ b_488) (fun _ h9 => h9) rfl hnm rfl (by decide +kernel) rfl rfl (Nat.le_of_ble_eq_true rfl) dX9_init_97 (fun H locs hP hD hS => ?_)
  have hP : va_P D k_cl [(a, .inr (9, [.ref q1, .ref q4, .ref q18, .ref q20, .ref q22, .ref q24, .ref q30, .ref q36, .null, .null, .null, .int 0, .int 0])), (q1, .inr (6, [.ref t_bytes3, .int 0])), (t_bytes3, .inl (E 2, 2000, .inl (fun _ => 0))), (q4, .inr (0, [.ref g_xs6, .ref g_ys7, .ref g_potentials8, .ref g_tails9, .ref g_heads10, .ref g_weights11, .ref g_net12, .int 0, .int 0, .long 0])), (g_xs6, .inl (E 0, 24, .inl (fun _ => 0))), (g_ys7, .inl (E 0, 24, .inl (fun _ => 0))), (g_potentials8, .inl (E 1, 24, .inr (.inl (fun _ => 0)))), (g_net12, .inr (3, [.ref n_lengths13, .ref n_counts14, .ref n_overs15, .ref n_arcNumbers16, .ref n_left17, .int 0])), (n_lengths13, .inl (E 1, 576, .inr (.inl (fun _ => 0)))), (n_counts14, .inl (E 0, 576, .inl (fun _ => 0))), (n_overs15, .inl (E 0, 576, .inl (fun _ => 0))), (n_arcNumbers16, .inl (E 0, 576, .inl (fun _ => 0))), (n_left17, .inl (E 3, 24, .inl (fun _ => 0))), (q18, .inr (4, [.ref q1, .ref q4, .int 0, .int 0, .int 0, .int (-1), .int 0, .int 0, .long 0])), (q24, .inr (7, [.ref r_nodes26, .ref r_lengths27, .ref r_counts28, .int 0, .ref r_seen29])), (q30, .inr (2, [.ref m_nodes32, .ref m_potentials33, .int 0, .ref m_from34, .ref m_into35])), (q36, .inr (1, [.ref h_net38, .ref h_ranks39, .ref h_row40, .int 0, .int 0, .int 0, .int 4, .int 2, .int 1, .ref h_witnesses41, .ref h_contractedBeside42, .ref h_wantedFrom43, .ref h_wantedTo44, .int 0])), (h_contractedBeside42, .inl (E 0, 24, .inl (fun _ => 0))), (h_net38, .inr (3, [.ref n_lengths45, .ref n_counts46, .ref n_overs47, .ref n_arcNumbers48, .ref n_left49, .int 0])), (n_lengths45, .inl (E 1, 576, .inr (.inl (fun _ => 0)))), (n_counts46, .inl (E 0, 576, .inl (fun _ => 0))), (n_overs47, .inl (E 0, 576, .inl (fun _ => 0))), (n_arcNumbers48, .inl (E 0, 576, .inl (fun _ => 0))), (n_left49, .inl (E 3, 24, .inl (fun _ => 0)))] H := hP
  have hD : va_D A [(a, .inr (9, [.ref q1, .ref q4, .ref q18, .ref q20, .ref q22, .ref q24, .ref q30, .ref q36, .null, .null, .null, .int 0, .int 0])), (q1, .inr (6, [.ref t_bytes3, .int 0])), (t_bytes3, .inl (E 2, 2000, .inl (fun _ => 0))), (q4, .inr (0, [.ref g_xs6, .ref g_ys7, .ref g_potentials8, .ref g_tails9, .ref g_heads10, .ref g_weights11, .ref g_net12, .int 0, .int 0, .long 0])), (g_xs6, .inl (E 0, 24, .inl (fun _ => 0))), (g_ys7, .inl (E 0, 24, .inl (fun _ => 0))), (g_potentials8, .inl (E 1, 24, .inr (.inl (fun _ => 0)))), (g_net12, .inr (3, [.ref n_lengths13, .ref n_counts14, .ref n_overs15, .ref n_arcNumbers16, .ref n_left17, .int 0])), (n_lengths13, .inl (E 1, 576, .inr (.inl (fun _ => 0)))), (n_counts14, .inl (E 0, 576, .inl (fun _ => 0))), (n_overs15, .inl (E 0, 576, .inl (fun _ => 0))), (n_arcNumbers16, .inl (E 0, 576, .inl (fun _ => 0))), (n_left17, .inl (E 3, 24, .inl (fun _ => 0))), (q18, .inr (4, [.ref q1, .ref q4, .int 0, .int 0, .int 0, .int (-1), .int 0, .int 0, .long 0])), (q24, .inr (7, [.ref r_nodes26, .ref r_lengths27, .ref r_counts28, .int 0, .ref r_seen29])), (q30, .inr (2, [.ref m_nodes32, .ref m_potentials33, .int 0, .ref m_from34, .ref m_into35])), (q36, .inr (1, [.ref h_net38, .ref h_ranks39, .ref h_row40, .int 0, .int 0, .int 0, .int 4, .int 2, .int 1, .ref h_witnesses41, .ref h_contractedBeside42, .ref h_wantedFrom43, .ref h_wantedTo44, .int 0])), (h_contractedBeside42, .inl (E 0, 24, .inl (fun _ => 0))), (h_net38, .inr (3, [.ref n_lengths45, .ref n_counts46, .ref n_overs47, .ref n_arcNumbers48, .ref n_left49, .int 0])), (n_lengths45, .inl (E 1, 576, .inr (.inl (fun _ => 0)))), (n_counts46, .inl (E 0, 576, .inl (fun _ => 0))), (n_overs47, .inl (E 0, 576, .inl (fun _ => 0))), (n_arcNumbers48, .inl (E 0, 576, .inl (fun _ => 0))), (n_left49, .inl (E 3, 24, .inl (fun _ => 0)))] := hD
  refine lv_aload_n hx hb dX9_init_100 rfl (lv_at hl 0 rfl) ?_
  refine va_new (ci := 5) (fs := df0X5) (C := RX5) (T := TX5) (N := 17) hx hb hts inX5 tyX5 tyX5_ok hown (hts _ b_411) (hts _ b_412) (hts _ b_87) hK hP hD hS hA rfl dfX5 (by decide) (by decide) dX9_init_101 (fun q50 H hP hD hS => ?_)
  refine W.widen (k := 62) (n := 9627) (by decide) (by decide) ?_
  have hP : va_P D k_cl [(a, .inr (9, [.ref q1, .ref q4, .ref q18, .ref q20, .ref q22, .ref q24, .ref q30, .ref q36, .null, .null, .null, .int 0, .int 0])), (q1, .inr (6, [.ref t_bytes3, .int 0])), (t_bytes3, .inl (E 2, 2000, .inl (fun _ => 0))), (q4, .inr (0, [.ref g_xs6, .ref g_ys7, .ref g_potentials8, .ref g_tails9, .ref g_heads10, .ref g_weights11, .ref g_net12, .int 0, .int 0, .long 0])), (g_xs6, .inl (E 0, 24, .inl (fun _ => 0))), (g_ys7, .inl (E 0, 24, .inl (fun _ => 0))), (g_potentials8, .inl (E 1, 24, .inr (.inl (fun _ => 0)))), (g_net12, .inr (3, [.ref n_lengths13, .ref n_counts14, .ref n_overs15, .ref n_arcNumbers16, .ref n_left17, .int 0])), (n_lengths13, .inl (E 1, 576, .inr (.inl (fun _ => 0)))), (n_counts14, .inl (E 0, 576, .inl (fun _ => 0))), (n_overs15, .inl (E 0, 576, .inl (fun _ => 0))), (n_arcNumbers16, .inl (E 0, 576, .inl (fun _ => 0))), (n_left17, .inl (E 3, 24, .inl (fun _ => 0))), (q18, .inr (4, [.ref q1, .ref q4, .int 0, .int 0, .int 0, .int (-1), .int 0, .int 0, .long 0])), (q24, .inr (7, [.ref r_nodes26, .ref r_lengths27, .ref r_counts28, .int 0, .ref r_seen29])), (q30, .inr (2, [.ref m_nodes32, .ref m_potentials33, .int 0, .ref m_from34, .ref m_into35])), (q36, .inr (1, [.ref h_net38, .ref h_ranks39, .ref h_row40, .int 0, .int 0, .int 0, .int 4, .int 2, .int 1, .ref h_witnesses41, .ref h_contractedBeside42, .ref h_wantedFrom43, .ref h_wantedTo44, .int 0])), (h_contractedBeside42, .inl (E 0, 24, .inl (fun _ => 0))), (h_net38, .inr (3, [.ref n_lengths45, .ref n_counts46, .ref n_overs47, .ref n_arcNumbers48, .ref n_left49, .int 0])), (n_lengths45, .inl (E 1, 576, .inr (.inl (fun _ => 0)))), (n_counts46, .inl (E 0, 576, .inl (fun _ => 0))), (n_overs47, .inl (E 0, 576, .inl (fun _ => 0))), (n_arcNumbers48, .inl (E 0, 576, .inl (fun _ => 0))), (n_left49, .inl (E 3, 24, .inl (fun _ => 0))), (q50, .inr (5, [.null, .null, .null, .int 0, .int 0, .int 0, .int 0, .int 0, .int 0, .int 0, .int 0, .long 0, .null, .null, .null, .null, .null]))] H := hP
  have hD : va_D A [(a, .inr (9, [.ref q1, .ref q4, .ref q18, .ref q20, .ref q22, .ref q24, .ref q30, .ref q36, .null, .null, .null, .int 0, .int 0])), (q1, .inr (6, [.ref t_bytes3, .int 0])), (t_bytes3, .inl (E 2, 2000, .inl (fun _ => 0))), (q4, .inr (0, [.ref g_xs6, .ref g_ys7, .ref g_potentials8, .ref g_tails9, .ref g_heads10, .ref g_weights11, .ref g_net12, .int 0, .int 0, .long 0])), (g_xs6, .inl (E 0, 24, .inl (fun _ => 0))), (g_ys7, .inl (E 0, 24, .inl (fun _ => 0))), (g_potentials8, .inl (E 1, 24, .inr (.inl (fun _ => 0)))), (g_net12, .inr (3, [.ref n_lengths13, .ref n_counts14, .ref n_overs15, .ref n_arcNumbers16, .ref n_left17, .int 0])), (n_lengths13, .inl (E 1, 576, .inr (.inl (fun _ => 0)))), (n_counts14, .inl (E 0, 576, .inl (fun _ => 0))), (n_overs15, .inl (E 0, 576, .inl (fun _ => 0))), (n_arcNumbers16, .inl (E 0, 576, .inl (fun _ => 0))), (n_left17, .inl (E 3, 24, .inl (fun _ => 0))), (q18, .inr (4, [.ref q1, .ref q4, .int 0, .int 0, .int 0, .int (-1), .int 0, .int 0, .long 0])), (q24, .inr (7, [.ref r_nodes26, .ref r_lengths27, .ref r_counts28, .int 0, .ref r_seen29])), (q30, .inr (2, [.ref m_nodes32, .ref m_potentials33, .int 0, .ref m_from34, .ref m_into35])), (q36, .inr (1, [.ref h_net38, .ref h_ranks39, .ref h_row40, .int 0, .int 0, .int 0, .int 4, .int 2, .int 1, .ref h_witnesses41, .ref h_contractedBeside42, .ref h_wantedFrom43, .ref h_wantedTo44, .int 0])), (h_contractedBeside42, .inl (E 0, 24, .inl (fun _ => 0))), (h_net38, .inr (3, [.ref n_lengths45, .ref n_counts46, .ref n_overs47, .ref n_arcNumbers48, .ref n_left49, .int 0])), (n_lengths45, .inl (E 1, 576, .inr (.inl (fun _ => 0)))), (n_counts46, .inl (E 0, 576, .inl (fun _ => 0))), (n_overs47, .inl (E 0, 576, .inl (fun _ => 0))), (n_arcNumbers48, .inl (E 0, 576, .inl (fun _ => 0))), (n_left49, .inl (E 3, 24, .inl (fun _ => 0))), (q50, .inr (5, [.null, .null, .null, .int 0, .int 0, .int 0, .int 0, .int 0, .int 0, .int 0, .int 0, .long 0, .null, .null, .null, .null, .null]))] := hD
  refine lv_dup hx hb dX9_init_104 rfl ?_
  refine k_MN (As := []) (rest := [.ref q50, .ref a])  (wr := [(a, .inr (9, [.ref q1, .ref q4, .ref q18, .ref q20, .ref q22, .ref q24, .ref q30, .ref q36, .null, .null, .null, .int 0, .int 0])), (q1, .inr (6, [.ref t_bytes3, .int 0])), (t_bytes3, .inl (E 2, 2000, .inl (fun _ => 0))), (q4, .inr (0, [.ref g_xs6, .ref g_ys7, .ref g_potentials8, .ref g_tails9, .ref g_heads10, .ref g_weights11, .ref g_net12, .int 0, .int 0, .long 0])), (g_xs6, .inl (E 0, 24, .inl (fun _ => 0))), (g_ys7, .inl (E 0, 24, .inl (fun _ => 0))), (g_potentials8, .inl (E 1, 24, .inr (.inl (fun _ => 0)))), (g_net12, .inr (3, [.ref n_lengths13, .ref n_counts14, .ref n_overs15, .ref n_arcNumbers16, .ref n_left17, .int 0])), (n_lengths13, .inl (E 1, 576, .inr (.inl (fun _ => 0)))), (n_counts14, .inl (E 0, 576, .inl (fun _ => 0))), (n_overs15, .inl (E 0, 576, .inl (fun _ => 0))), (n_arcNumbers16, .inl (E 0, 576, .inl (fun _ => 0))), (n_left17, .inl (E 3, 24, .inl (fun _ => 0))), (q18, .inr (4, [.ref q1, .ref q4, .int 0, .int 0, .int 0, .int (-1), .int 0, .int 0, .long 0])), (q24, .inr (7, [.ref r_nodes26, .ref r_lengths27, .ref r_counts28, .int 0, .ref r_seen29])), (q30, .inr (2, [.ref m_nodes32, .ref m_potentials33, .int 0, .ref m_from34, .ref m_into35])), (q36, .inr (1, [.ref h_net38, .ref h_ranks39, .ref h_row40, .int 0, .int 0, .int 0, .int 4, .int 2, .int 1, .ref h_witnesses41, .ref h_contractedBeside42, .ref h_wantedFrom43, .ref h_wantedTo44, .int 0])), (h_contractedBeside42, .inl (E 0, 24, .inl (fun _ => 0))), (h_net38, .inr (3, [.ref n_lengths45, .ref n_counts46, .ref n_overs47, .ref n_arcNumbers48, .ref n_left49, .int 0])), (n_lengths45, .inl (E 1, 576, .inr (.inl (fun _ => 0)))), (n_counts46, .inl (E 0, 576, .inl (fun _ => 0))), (n_overs47, .inl (E 0, 576, .inl (fun _ => 0))), (n_arcNumbers48, .inl (E 0, 576, .inl (fun _ => 0))), (n_left49, .inl (E 3, 24, .inl (fun _ => 0)))]) ⟨hx, hb, hml, hown, hts⟩ (i_Route l D E sa q50) (by decide) b_414 b_87 b_415 ⟨rfl, hd_X5_init⟩ ⟨⟨by decide, by decide⟩, by decide, by decide⟩ hK hP hD hS hA hZ [24] [0, 1, 2, 3, 4, 5, 6, 7, 8, 9, 10, 11, 12, 13, 14, 15, 16, 17, 18, 19, 20, 21, 22, 23] rfl rfl (by decide) rfl hl.1 (Nat.le_of_ble_eq_true rfl) dX9_init_105 (fun u51 H locs hu hP hD hS _ => ?_)
  obtain ⟨o_relaxedFrom52, o_relaxedTo53, o_walk54, o_upLengths55, o_upCounts56, o_downLengths57, o_downCounts58, o_chain59⟩ := u51
  refine W.widen (k := 70) (n := 10948) (by decide) (by decide) ?_
  have hP : va_P D k_cl [(a, .inr (9, [.ref q1, .ref q4, .ref q18, .ref q20, .ref q22, .ref q24, .ref q30, .ref q36, .null, .null, .null, .int 0, .int 0])), (q1, .inr (6, [.ref t_bytes3, .int 0])), (t_bytes3, .inl (E 2, 2000, .inl (fun _ => 0))), (q4, .inr (0, [.ref g_xs6, .ref g_ys7, .ref g_potentials8, .ref g_tails9, .ref g_heads10, .ref g_weights11, .ref g_net12, .int 0, .int 0, .long 0])), (g_xs6, .inl (E 0, 24, .inl (fun _ => 0))), (g_ys7, .inl (E 0, 24, .inl (fun _ => 0))), (g_potentials8, .inl (E 1, 24, .inr (.inl (fun _ => 0)))), (g_net12, .inr (3, [.ref n_lengths13, .ref n_counts14, .ref n_overs15, .ref n_arcNumbers16, .ref n_left17, .int 0])), (n_lengths13, .inl (E 1, 576, .inr (.inl (fun _ => 0)))), (n_counts14, .inl (E 0, 576, .inl (fun _ => 0))), (n_overs15, .inl (E 0, 576, .inl (fun _ => 0))), (n_arcNumbers16, .inl (E 0, 576, .inl (fun _ => 0))), (n_left17, .inl (E 3, 24, .inl (fun _ => 0))), (q18, .inr (4, [.ref q1, .ref q4, .int 0, .int 0, .int 0, .int (-1), .int 0, .int 0, .long 0])), (q24, .inr (7, [.ref r_nodes26, .ref r_lengths27, .ref r_counts28, .int 0, .ref r_seen29])), (q30, .inr (2, [.ref m_nodes32, .ref m_potentials33, .int 0, .ref m_from34, .ref m_into35])), (q36, .inr (1, [.ref h_net38, .ref h_ranks39, .ref h_row40, .int 0, .int 0, .int 0, .int 4, .int 2, .int 1, .ref h_witnesses41, .ref h_contractedBeside42, .ref h_wantedFrom43, .ref h_wantedTo44, .int 0])), (h_contractedBeside42, .inl (E 0, 24, .inl (fun _ => 0))), (h_net38, .inr (3, [.ref n_lengths45, .ref n_counts46, .ref n_overs47, .ref n_arcNumbers48, .ref n_left49, .int 0])), (n_lengths45, .inl (E 1, 576, .inr (.inl (fun _ => 0)))), (n_counts46, .inl (E 0, 576, .inl (fun _ => 0))), (n_overs47, .inl (E 0, 576, .inl (fun _ => 0))), (n_arcNumbers48, .inl (E 0, 576, .inl (fun _ => 0))), (n_left49, .inl (E 3, 24, .inl (fun _ => 0))), (q50, .inr (5, [.ref o_relaxedFrom52, .ref o_relaxedTo53, .ref o_walk54, .int 0, .int 0, .int 0, .int 0, .int 0, .int 0, .int 0, .int (-1), .long 0, .ref o_upLengths55, .ref o_upCounts56, .ref o_downLengths57, .ref o_downCounts58, .ref o_chain59]))] H := hP
  have hD : va_D A [(a, .inr (9, [.ref q1, .ref q4, .ref q18, .ref q20, .ref q22, .ref q24, .ref q30, .ref q36, .null, .null, .null, .int 0, .int 0])), (q1, .inr (6, [.ref t_bytes3, .int 0])), (t_bytes3, .inl (E 2, 2000, .inl (fun _ => 0))), (q4, .inr (0, [.ref g_xs6, .ref g_ys7, .ref g_potentials8, .ref g_tails9, .ref g_heads10, .ref g_weights11, .ref g_net12, .int 0, .int 0, .long 0])), (g_xs6, .inl (E 0, 24, .inl (fun _ => 0))), (g_ys7, .inl (E 0, 24, .inl (fun _ => 0))), (g_potentials8, .inl (E 1, 24, .inr (.inl (fun _ => 0)))), (g_net12, .inr (3, [.ref n_lengths13, .ref n_counts14, .ref n_overs15, .ref n_arcNumbers16, .ref n_left17, .int 0])), (n_lengths13, .inl (E 1, 576, .inr (.inl (fun _ => 0)))), (n_counts14, .inl (E 0, 576, .inl (fun _ => 0))), (n_overs15, .inl (E 0, 576, .inl (fun _ => 0))), (n_arcNumbers16, .inl (E 0, 576, .inl (fun _ => 0))), (n_left17, .inl (E 3, 24, .inl (fun _ => 0))), (q18, .inr (4, [.ref q1, .ref q4, .int 0, .int 0, .int 0, .int (-1), .int 0, .int 0, .long 0])), (q24, .inr (7, [.ref r_nodes26, .ref r_lengths27, .ref r_counts28, .int 0, .ref r_seen29])), (q30, .inr (2, [.ref m_nodes32, .ref m_potentials33, .int 0, .ref m_from34, .ref m_into35])), (q36, .inr (1, [.ref h_net38, .ref h_ranks39, .ref h_row40, .int 0, .int 0, .int 0, .int 4, .int 2, .int 1, .ref h_witnesses41, .ref h_contractedBeside42, .ref h_wantedFrom43, .ref h_wantedTo44, .int 0])), (h_contractedBeside42, .inl (E 0, 24, .inl (fun _ => 0))), (h_net38, .inr (3, [.ref n_lengths45, .ref n_counts46, .ref n_overs47, .ref n_arcNumbers48, .ref n_left49, .int 0])), (n_lengths45, .inl (E 1, 576, .inr (.inl (fun _ => 0)))), (n_counts46, .inl (E 0, 576, .inl (fun _ => 0))), (n_overs47, .inl (E 0, 576, .inl (fun _ => 0))), (n_arcNumbers48, .inl (E 0, 576, .inl (fun _ => 0))), (n_left49, .inl (E 3, 24, .inl (fun _ => 0))), (q50, .inr (5, [.ref o_relaxedFrom52, .ref o_relaxedTo53, .ref o_walk54, .int 0, .int 0, .int 0, .int 0, .int 0, .int 0, .int 0, .int (-1), .long 0, .ref o_upLengths55, .ref o_upCounts56, .ref o_downLengths57, .ref o_downCounts58, .ref o_chain59]))] := hD
  refine W.eq (g2 := F0 m 108 ls [.ref q50, .ref a]) rfl ?_
  refine va_putF (D := D) (ci := 9) (v := .ref q50) (ty := (.object "RoutePlanner$Route")) (C := RX9) (T := TX9) (N := 13) hx hb hts inX9 tyX9 tyX9_ok nmX9 hown hK hP hD hS 0 rfl rfl 8 (by decide) (hts _ b_489) (fun _ h9 => h9) rfl hnm rfl (by decide +kernel) rfl rfl (Nat.le_of_ble_eq_true rfl) dX9_init_108 (fun H locs hP hD hS => ?_)
  have hP : va_P D k_cl [(a, .inr (9, [.ref q1, .ref q4, .ref q18, .ref q20, .ref q22, .ref q24, .ref q30, .ref q36, .ref q50, .null, .null, .int 0, .int 0])), (q1, .inr (6, [.ref t_bytes3, .int 0])), (t_bytes3, .inl (E 2, 2000, .inl (fun _ => 0))), (q4, .inr (0, [.ref g_xs6, .ref g_ys7, .ref g_potentials8, .ref g_tails9, .ref g_heads10, .ref g_weights11, .ref g_net12, .int 0, .int 0, .long 0])), (g_xs6, .inl (E 0, 24, .inl (fun _ => 0))), (g_ys7, .inl (E 0, 24, .inl (fun _ => 0))), (g_potentials8, .inl (E 1, 24, .inr (.inl (fun _ => 0)))), (g_net12, .inr (3, [.ref n_lengths13, .ref n_counts14, .ref n_overs15, .ref n_arcNumbers16, .ref n_left17, .int 0])), (n_lengths13, .inl (E 1, 576, .inr (.inl (fun _ => 0)))), (n_counts14, .inl (E 0, 576, .inl (fun _ => 0))), (n_overs15, .inl (E 0, 576, .inl (fun _ => 0))), (n_arcNumbers16, .inl (E 0, 576, .inl (fun _ => 0))), (n_left17, .inl (E 3, 24, .inl (fun _ => 0))), (q18, .inr (4, [.ref q1, .ref q4, .int 0, .int 0, .int 0, .int (-1), .int 0, .int 0, .long 0])), (q24, .inr (7, [.ref r_nodes26, .ref r_lengths27, .ref r_counts28, .int 0, .ref r_seen29])), (q30, .inr (2, [.ref m_nodes32, .ref m_potentials33, .int 0, .ref m_from34, .ref m_into35])), (q36, .inr (1, [.ref h_net38, .ref h_ranks39, .ref h_row40, .int 0, .int 0, .int 0, .int 4, .int 2, .int 1, .ref h_witnesses41, .ref h_contractedBeside42, .ref h_wantedFrom43, .ref h_wantedTo44, .int 0])), (h_contractedBeside42, .inl (E 0, 24, .inl (fun _ => 0))), (h_net38, .inr (3, [.ref n_lengths45, .ref n_counts46, .ref n_overs47, .ref n_arcNumbers48, .ref n_left49, .int 0])), (n_lengths45, .inl (E 1, 576, .inr (.inl (fun _ => 0)))), (n_counts46, .inl (E 0, 576, .inl (fun _ => 0))), (n_overs47, .inl (E 0, 576, .inl (fun _ => 0))), (n_arcNumbers48, .inl (E 0, 576, .inl (fun _ => 0))), (n_left49, .inl (E 3, 24, .inl (fun _ => 0))), (q50, .inr (5, [.ref o_relaxedFrom52, .ref o_relaxedTo53, .ref o_walk54, .int 0, .int 0, .int 0, .int 0, .int 0, .int 0, .int 0, .int (-1), .long 0, .ref o_upLengths55, .ref o_upCounts56, .ref o_downLengths57, .ref o_downCounts58, .ref o_chain59]))] H := hP
  have hD : va_D A [(a, .inr (9, [.ref q1, .ref q4, .ref q18, .ref q20, .ref q22, .ref q24, .ref q30, .ref q36, .ref q50, .null, .null, .int 0, .int 0])), (q1, .inr (6, [.ref t_bytes3, .int 0])), (t_bytes3, .inl (E 2, 2000, .inl (fun _ => 0))), (q4, .inr (0, [.ref g_xs6, .ref g_ys7, .ref g_potentials8, .ref g_tails9, .ref g_heads10, .ref g_weights11, .ref g_net12, .int 0, .int 0, .long 0])), (g_xs6, .inl (E 0, 24, .inl (fun _ => 0))), (g_ys7, .inl (E 0, 24, .inl (fun _ => 0))), (g_potentials8, .inl (E 1, 24, .inr (.inl (fun _ => 0)))), (g_net12, .inr (3, [.ref n_lengths13, .ref n_counts14, .ref n_overs15, .ref n_arcNumbers16, .ref n_left17, .int 0])), (n_lengths13, .inl (E 1, 576, .inr (.inl (fun _ => 0)))), (n_counts14, .inl (E 0, 576, .inl (fun _ => 0))), (n_overs15, .inl (E 0, 576, .inl (fun _ => 0))), (n_arcNumbers16, .inl (E 0, 576, .inl (fun _ => 0))), (n_left17, .inl (E 3, 24, .inl (fun _ => 0))), (q18, .inr (4, [.ref q1, .ref q4, .int 0, .int 0, .int 0, .int (-1), .int 0, .int 0, .long 0])), (q24, .inr (7, [.ref r_nodes26, .ref r_lengths27, .ref r_counts28, .int 0, .ref r_seen29])), (q30, .inr (2, [.ref m_nodes32, .ref m_potentials33, .int 0, .ref m_from34, .ref m_into35])), (q36, .inr (1, [.ref h_net38, .ref h_ranks39, .ref h_row40, .int 0, .int 0, .int 0, .int 4, .int 2, .int 1, .ref h_witnesses41, .ref h_contractedBeside42, .ref h_wantedFrom43, .ref h_wantedTo44, .int 0])), (h_contractedBeside42, .inl (E 0, 24, .inl (fun _ => 0))), (h_net38, .inr (3, [.ref n_lengths45, .ref n_counts46, .ref n_overs47, .ref n_arcNumbers48, .ref n_left49, .int 0])), (n_lengths45, .inl (E 1, 576, .inr (.inl (fun _ => 0)))), (n_counts46, .inl (E 0, 576, .inl (fun _ => 0))), (n_overs47, .inl (E 0, 576, .inl (fun _ => 0))), (n_arcNumbers48, .inl (E 0, 576, .inl (fun _ => 0))), (n_left49, .inl (E 3, 24, .inl (fun _ => 0))), (q50, .inr (5, [.ref o_relaxedFrom52, .ref o_relaxedTo53, .ref o_walk54, .int 0, .int 0, .int 0, .int 0, .int 0, .int 0, .int 0, .int (-1), .long 0, .ref o_upLengths55, .ref o_upCounts56, .ref o_downLengths57, .ref o_downCounts58, .ref o_chain59]))] := hD
  refine lv_aload_n hx hb dX9_init_111 rfl (lv_at hl 0 rfl) ?_
  refine lv_bipush (v := 24) hx hb dX9_init_112 (by decide) ?_
  refine k_newa (E := E) 1 (N9 := 24) hx hb (hts _ b_179) (by rfl) rfl rfl hK hP hD hS hA (a0 := (24, .inr (.inl (fun _ => 0)))) (fun _ => rfl) (by decide) (by decide) (by decide) (by decide) (by decide) dX9_init_114 (fun q60 H hP hD hS => ?_)
  refine W.widen (k := 71) (n := 10972) (by decide) (by decide) ?_
  have hP : va_P D k_cl [(a, .inr (9, [.ref q1, .ref q4, .ref q18, .ref q20, .ref q22, .ref q24, .ref q30, .ref q36, .ref q50, .null, .null, .int 0, .int 0])), (q1, .inr (6, [.ref t_bytes3, .int 0])), (t_bytes3, .inl (E 2, 2000, .inl (fun _ => 0))), (q4, .inr (0, [.ref g_xs6, .ref g_ys7, .ref g_potentials8, .ref g_tails9, .ref g_heads10, .ref g_weights11, .ref g_net12, .int 0, .int 0, .long 0])), (g_xs6, .inl (E 0, 24, .inl (fun _ => 0))), (g_ys7, .inl (E 0, 24, .inl (fun _ => 0))), (g_potentials8, .inl (E 1, 24, .inr (.inl (fun _ => 0)))), (g_net12, .inr (3, [.ref n_lengths13, .ref n_counts14, .ref n_overs15, .ref n_arcNumbers16, .ref n_left17, .int 0])), (n_lengths13, .inl (E 1, 576, .inr (.inl (fun _ => 0)))), (n_counts14, .inl (E 0, 576, .inl (fun _ => 0))), (n_overs15, .inl (E 0, 576, .inl (fun _ => 0))), (n_arcNumbers16, .inl (E 0, 576, .inl (fun _ => 0))), (n_left17, .inl (E 3, 24, .inl (fun _ => 0))), (q18, .inr (4, [.ref q1, .ref q4, .int 0, .int 0, .int 0, .int (-1), .int 0, .int 0, .long 0])), (q24, .inr (7, [.ref r_nodes26, .ref r_lengths27, .ref r_counts28, .int 0, .ref r_seen29])), (q30, .inr (2, [.ref m_nodes32, .ref m_potentials33, .int 0, .ref m_from34, .ref m_into35])), (q36, .inr (1, [.ref h_net38, .ref h_ranks39, .ref h_row40, .int 0, .int 0, .int 0, .int 4, .int 2, .int 1, .ref h_witnesses41, .ref h_contractedBeside42, .ref h_wantedFrom43, .ref h_wantedTo44, .int 0])), (h_contractedBeside42, .inl (E 0, 24, .inl (fun _ => 0))), (h_net38, .inr (3, [.ref n_lengths45, .ref n_counts46, .ref n_overs47, .ref n_arcNumbers48, .ref n_left49, .int 0])), (n_lengths45, .inl (E 1, 576, .inr (.inl (fun _ => 0)))), (n_counts46, .inl (E 0, 576, .inl (fun _ => 0))), (n_overs47, .inl (E 0, 576, .inl (fun _ => 0))), (n_arcNumbers48, .inl (E 0, 576, .inl (fun _ => 0))), (n_left49, .inl (E 3, 24, .inl (fun _ => 0))), (q50, .inr (5, [.ref o_relaxedFrom52, .ref o_relaxedTo53, .ref o_walk54, .int 0, .int 0, .int 0, .int 0, .int 0, .int 0, .int 0, .int (-1), .long 0, .ref o_upLengths55, .ref o_upCounts56, .ref o_downLengths57, .ref o_downCounts58, .ref o_chain59])), (q60, .inl (E 1, 24, .inr (.inl (fun _ => 0))))] H := hP
  have hD : va_D A [(a, .inr (9, [.ref q1, .ref q4, .ref q18, .ref q20, .ref q22, .ref q24, .ref q30, .ref q36, .ref q50, .null, .null, .int 0, .int 0])), (q1, .inr (6, [.ref t_bytes3, .int 0])), (t_bytes3, .inl (E 2, 2000, .inl (fun _ => 0))), (q4, .inr (0, [.ref g_xs6, .ref g_ys7, .ref g_potentials8, .ref g_tails9, .ref g_heads10, .ref g_weights11, .ref g_net12, .int 0, .int 0, .long 0])), (g_xs6, .inl (E 0, 24, .inl (fun _ => 0))), (g_ys7, .inl (E 0, 24, .inl (fun _ => 0))), (g_potentials8, .inl (E 1, 24, .inr (.inl (fun _ => 0)))), (g_net12, .inr (3, [.ref n_lengths13, .ref n_counts14, .ref n_overs15, .ref n_arcNumbers16, .ref n_left17, .int 0])), (n_lengths13, .inl (E 1, 576, .inr (.inl (fun _ => 0)))), (n_counts14, .inl (E 0, 576, .inl (fun _ => 0))), (n_overs15, .inl (E 0, 576, .inl (fun _ => 0))), (n_arcNumbers16, .inl (E 0, 576, .inl (fun _ => 0))), (n_left17, .inl (E 3, 24, .inl (fun _ => 0))), (q18, .inr (4, [.ref q1, .ref q4, .int 0, .int 0, .int 0, .int (-1), .int 0, .int 0, .long 0])), (q24, .inr (7, [.ref r_nodes26, .ref r_lengths27, .ref r_counts28, .int 0, .ref r_seen29])), (q30, .inr (2, [.ref m_nodes32, .ref m_potentials33, .int 0, .ref m_from34, .ref m_into35])), (q36, .inr (1, [.ref h_net38, .ref h_ranks39, .ref h_row40, .int 0, .int 0, .int 0, .int 4, .int 2, .int 1, .ref h_witnesses41, .ref h_contractedBeside42, .ref h_wantedFrom43, .ref h_wantedTo44, .int 0])), (h_contractedBeside42, .inl (E 0, 24, .inl (fun _ => 0))), (h_net38, .inr (3, [.ref n_lengths45, .ref n_counts46, .ref n_overs47, .ref n_arcNumbers48, .ref n_left49, .int 0])), (n_lengths45, .inl (E 1, 576, .inr (.inl (fun _ => 0)))), (n_counts46, .inl (E 0, 576, .inl (fun _ => 0))), (n_overs47, .inl (E 0, 576, .inl (fun _ => 0))), (n_arcNumbers48, .inl (E 0, 576, .inl (fun _ => 0))), (n_left49, .inl (E 3, 24, .inl (fun _ => 0))), (q50, .inr (5, [.ref o_relaxedFrom52, .ref o_relaxedTo53, .ref o_walk54, .int 0, .int 0, .int 0, .int 0, .int 0, .int 0, .int 0, .int (-1), .long 0, .ref o_upLengths55, .ref o_upCounts56, .ref o_downLengths57, .ref o_downCounts58, .ref o_chain59])), (q60, .inl (E 1, 24, .inr (.inl (fun _ => 0))))] := hD
  refine va_putF (D := D) (ci := 9) (v := .ref q60) (ty := (.array .long)) (C := RX9) (T := TX9) (N := 13) hx hb hts inX9 tyX9 tyX9_ok nmX9 hown hK hP hD hS 0 rfl rfl 9 (by decide) (hts _ b_490) (fun _ h9 => h9) rfl hnm rfl (by decide +kernel) rfl rfl (Nat.le_of_ble_eq_true rfl) dX9_init_116 (fun H locs hP hD hS => ?_)
  have hP : va_P D k_cl [(a, .inr (9, [.ref q1, .ref q4, .ref q18, .ref q20, .ref q22, .ref q24, .ref q30, .ref q36, .ref q50, .ref q60, .null, .int 0, .int 0])), (q1, .inr (6, [.ref t_bytes3, .int 0])), (t_bytes3, .inl (E 2, 2000, .inl (fun _ => 0))), (q4, .inr (0, [.ref g_xs6, .ref g_ys7, .ref g_potentials8, .ref g_tails9, .ref g_heads10, .ref g_weights11, .ref g_net12, .int 0, .int 0, .long 0])), (g_xs6, .inl (E 0, 24, .inl (fun _ => 0))), (g_ys7, .inl (E 0, 24, .inl (fun _ => 0))), (g_potentials8, .inl (E 1, 24, .inr (.inl (fun _ => 0)))), (g_net12, .inr (3, [.ref n_lengths13, .ref n_counts14, .ref n_overs15, .ref n_arcNumbers16, .ref n_left17, .int 0])), (n_lengths13, .inl (E 1, 576, .inr (.inl (fun _ => 0)))), (n_counts14, .inl (E 0, 576, .inl (fun _ => 0))), (n_overs15, .inl (E 0, 576, .inl (fun _ => 0))), (n_arcNumbers16, .inl (E 0, 576, .inl (fun _ => 0))), (n_left17, .inl (E 3, 24, .inl (fun _ => 0))), (q18, .inr (4, [.ref q1, .ref q4, .int 0, .int 0, .int 0, .int (-1), .int 0, .int 0, .long 0])), (q24, .inr (7, [.ref r_nodes26, .ref r_lengths27, .ref r_counts28, .int 0, .ref r_seen29])), (q30, .inr (2, [.ref m_nodes32, .ref m_potentials33, .int 0, .ref m_from34, .ref m_into35])), (q36, .inr (1, [.ref h_net38, .ref h_ranks39, .ref h_row40, .int 0, .int 0, .int 0, .int 4, .int 2, .int 1, .ref h_witnesses41, .ref h_contractedBeside42, .ref h_wantedFrom43, .ref h_wantedTo44, .int 0])), (h_contractedBeside42, .inl (E 0, 24, .inl (fun _ => 0))), (h_net38, .inr (3, [.ref n_lengths45, .ref n_counts46, .ref n_overs47, .ref n_arcNumbers48, .ref n_left49, .int 0])), (n_lengths45, .inl (E 1, 576, .inr (.inl (fun _ => 0)))), (n_counts46, .inl (E 0, 576, .inl (fun _ => 0))), (n_overs47, .inl (E 0, 576, .inl (fun _ => 0))), (n_arcNumbers48, .inl (E 0, 576, .inl (fun _ => 0))), (n_left49, .inl (E 3, 24, .inl (fun _ => 0))), (q50, .inr (5, [.ref o_relaxedFrom52, .ref o_relaxedTo53, .ref o_walk54, .int 0, .int 0, .int 0, .int 0, .int 0, .int 0, .int 0, .int (-1), .long 0, .ref o_upLengths55, .ref o_upCounts56, .ref o_downLengths57, .ref o_downCounts58, .ref o_chain59])), (q60, .inl (E 1, 24, .inr (.inl (fun _ => 0))))] H := hP
  have hD : va_D A [(a, .inr (9, [.ref q1, .ref q4, .ref q18, .ref q20, .ref q22, .ref q24, .ref q30, .ref q36, .ref q50, .ref q60, .null, .int 0, .int 0])), (q1, .inr (6, [.ref t_bytes3, .int 0])), (t_bytes3, .inl (E 2, 2000, .inl (fun _ => 0))), (q4, .inr (0, [.ref g_xs6, .ref g_ys7, .ref g_potentials8, .ref g_tails9, .ref g_heads10, .ref g_weights11, .ref g_net12, .int 0, .int 0, .long 0])), (g_xs6, .inl (E 0, 24, .inl (fun _ => 0))), (g_ys7, .inl (E 0, 24, .inl (fun _ => 0))), (g_potentials8, .inl (E 1, 24, .inr (.inl (fun _ => 0)))), (g_net12, .inr (3, [.ref n_lengths13, .ref n_counts14, .ref n_overs15, .ref n_arcNumbers16, .ref n_left17, .int 0])), (n_lengths13, .inl (E 1, 576, .inr (.inl (fun _ => 0)))), (n_counts14, .inl (E 0, 576, .inl (fun _ => 0))), (n_overs15, .inl (E 0, 576, .inl (fun _ => 0))), (n_arcNumbers16, .inl (E 0, 576, .inl (fun _ => 0))), (n_left17, .inl (E 3, 24, .inl (fun _ => 0))), (q18, .inr (4, [.ref q1, .ref q4, .int 0, .int 0, .int 0, .int (-1), .int 0, .int 0, .long 0])), (q24, .inr (7, [.ref r_nodes26, .ref r_lengths27, .ref r_counts28, .int 0, .ref r_seen29])), (q30, .inr (2, [.ref m_nodes32, .ref m_potentials33, .int 0, .ref m_from34, .ref m_into35])), (q36, .inr (1, [.ref h_net38, .ref h_ranks39, .ref h_row40, .int 0, .int 0, .int 0, .int 4, .int 2, .int 1, .ref h_witnesses41, .ref h_contractedBeside42, .ref h_wantedFrom43, .ref h_wantedTo44, .int 0])), (h_contractedBeside42, .inl (E 0, 24, .inl (fun _ => 0))), (h_net38, .inr (3, [.ref n_lengths45, .ref n_counts46, .ref n_overs47, .ref n_arcNumbers48, .ref n_left49, .int 0])), (n_lengths45, .inl (E 1, 576, .inr (.inl (fun _ => 0)))), (n_counts46, .inl (E 0, 576, .inl (fun _ => 0))), (n_overs47, .inl (E 0, 576, .inl (fun _ => 0))), (n_arcNumbers48, .inl (E 0, 576, .inl (fun _ => 0))), (n_left49, .inl (E 3, 24, .inl (fun _ => 0))), (q50, .inr (5, [.ref o_relaxedFrom52, .ref o_relaxedTo53, .ref o_walk54, .int 0, .int 0, .int 0, .int 0, .int 0, .int 0, .int 0, .int (-1), .long 0, .ref o_upLengths55, .ref o_upCounts56, .ref o_downLengths57, .ref o_downCounts58, .ref o_chain59])), (q60, .inl (E 1, 24, .inr (.inl (fun _ => 0))))] := hD
  refine lv_aload_n hx hb dX9_init_119 rfl (lv_at hl 0 rfl) ?_
  refine lv_bipush (v := 24) hx hb dX9_init_120 (by decide) ?_
  refine k_newa (E := E) 0 (N9 := 24) hx hb (hts _ b_178) (by rfl) rfl rfl hK hP hD hS hA (a0 := (24, .inl (fun _ => 0))) (fun _ => rfl) (by decide) (by decide) (by decide) (by decide) (by decide) dX9_init_122 (fun q61 H hP hD hS => ?_)
  refine W.widen (k := 72) (n := 10996) (by decide) (by decide) ?_
  have hP : va_P D k_cl [(a, .inr (9, [.ref q1, .ref q4, .ref q18, .ref q20, .ref q22, .ref q24, .ref q30, .ref q36, .ref q50, .ref q60, .null, .int 0, .int 0])), (q1, .inr (6, [.ref t_bytes3, .int 0])), (t_bytes3, .inl (E 2, 2000, .inl (fun _ => 0))), (q4, .inr (0, [.ref g_xs6, .ref g_ys7, .ref g_potentials8, .ref g_tails9, .ref g_heads10, .ref g_weights11, .ref g_net12, .int 0, .int 0, .long 0])), (g_xs6, .inl (E 0, 24, .inl (fun _ => 0))), (g_ys7, .inl (E 0, 24, .inl (fun _ => 0))), (g_potentials8, .inl (E 1, 24, .inr (.inl (fun _ => 0)))), (g_net12, .inr (3, [.ref n_lengths13, .ref n_counts14, .ref n_overs15, .ref n_arcNumbers16, .ref n_left17, .int 0])), (n_lengths13, .inl (E 1, 576, .inr (.inl (fun _ => 0)))), (n_counts14, .inl (E 0, 576, .inl (fun _ => 0))), (n_overs15, .inl (E 0, 576, .inl (fun _ => 0))), (n_arcNumbers16, .inl (E 0, 576, .inl (fun _ => 0))), (n_left17, .inl (E 3, 24, .inl (fun _ => 0))), (q18, .inr (4, [.ref q1, .ref q4, .int 0, .int 0, .int 0, .int (-1), .int 0, .int 0, .long 0])), (q24, .inr (7, [.ref r_nodes26, .ref r_lengths27, .ref r_counts28, .int 0, .ref r_seen29])), (q30, .inr (2, [.ref m_nodes32, .ref m_potentials33, .int 0, .ref m_from34, .ref m_into35])), (q36, .inr (1, [.ref h_net38, .ref h_ranks39, .ref h_row40, .int 0, .int 0, .int 0, .int 4, .int 2, .int 1, .ref h_witnesses41, .ref h_contractedBeside42, .ref h_wantedFrom43, .ref h_wantedTo44, .int 0])), (h_contractedBeside42, .inl (E 0, 24, .inl (fun _ => 0))), (h_net38, .inr (3, [.ref n_lengths45, .ref n_counts46, .ref n_overs47, .ref n_arcNumbers48, .ref n_left49, .int 0])), (n_lengths45, .inl (E 1, 576, .inr (.inl (fun _ => 0)))), (n_counts46, .inl (E 0, 576, .inl (fun _ => 0))), (n_overs47, .inl (E 0, 576, .inl (fun _ => 0))), (n_arcNumbers48, .inl (E 0, 576, .inl (fun _ => 0))), (n_left49, .inl (E 3, 24, .inl (fun _ => 0))), (q50, .inr (5, [.ref o_relaxedFrom52, .ref o_relaxedTo53, .ref o_walk54, .int 0, .int 0, .int 0, .int 0, .int 0, .int 0, .int 0, .int (-1), .long 0, .ref o_upLengths55, .ref o_upCounts56, .ref o_downLengths57, .ref o_downCounts58, .ref o_chain59])), (q60, .inl (E 1, 24, .inr (.inl (fun _ => 0)))), (q61, .inl (E 0, 24, .inl (fun _ => 0)))] H := hP
  have hD : va_D A [(a, .inr (9, [.ref q1, .ref q4, .ref q18, .ref q20, .ref q22, .ref q24, .ref q30, .ref q36, .ref q50, .ref q60, .null, .int 0, .int 0])), (q1, .inr (6, [.ref t_bytes3, .int 0])), (t_bytes3, .inl (E 2, 2000, .inl (fun _ => 0))), (q4, .inr (0, [.ref g_xs6, .ref g_ys7, .ref g_potentials8, .ref g_tails9, .ref g_heads10, .ref g_weights11, .ref g_net12, .int 0, .int 0, .long 0])), (g_xs6, .inl (E 0, 24, .inl (fun _ => 0))), (g_ys7, .inl (E 0, 24, .inl (fun _ => 0))), (g_potentials8, .inl (E 1, 24, .inr (.inl (fun _ => 0)))), (g_net12, .inr (3, [.ref n_lengths13, .ref n_counts14, .ref n_overs15, .ref n_arcNumbers16, .ref n_left17, .int 0])), (n_lengths13, .inl (E 1, 576, .inr (.inl (fun _ => 0)))), (n_counts14, .inl (E 0, 576, .inl (fun _ => 0))), (n_overs15, .inl (E 0, 576, .inl (fun _ => 0))), (n_arcNumbers16, .inl (E 0, 576, .inl (fun _ => 0))), (n_left17, .inl (E 3, 24, .inl (fun _ => 0))), (q18, .inr (4, [.ref q1, .ref q4, .int 0, .int 0, .int 0, .int (-1), .int 0, .int 0, .long 0])), (q24, .inr (7, [.ref r_nodes26, .ref r_lengths27, .ref r_counts28, .int 0, .ref r_seen29])), (q30, .inr (2, [.ref m_nodes32, .ref m_potentials33, .int 0, .ref m_from34, .ref m_into35])), (q36, .inr (1, [.ref h_net38, .ref h_ranks39, .ref h_row40, .int 0, .int 0, .int 0, .int 4, .int 2, .int 1, .ref h_witnesses41, .ref h_contractedBeside42, .ref h_wantedFrom43, .ref h_wantedTo44, .int 0])), (h_contractedBeside42, .inl (E 0, 24, .inl (fun _ => 0))), (h_net38, .inr (3, [.ref n_lengths45, .ref n_counts46, .ref n_overs47, .ref n_arcNumbers48, .ref n_left49, .int 0])), (n_lengths45, .inl (E 1, 576, .inr (.inl (fun _ => 0)))), (n_counts46, .inl (E 0, 576, .inl (fun _ => 0))), (n_overs47, .inl (E 0, 576, .inl (fun _ => 0))), (n_arcNumbers48, .inl (E 0, 576, .inl (fun _ => 0))), (n_left49, .inl (E 3, 24, .inl (fun _ => 0))), (q50, .inr (5, [.ref o_relaxedFrom52, .ref o_relaxedTo53, .ref o_walk54, .int 0, .int 0, .int 0, .int 0, .int 0, .int 0, .int 0, .int (-1), .long 0, .ref o_upLengths55, .ref o_upCounts56, .ref o_downLengths57, .ref o_downCounts58, .ref o_chain59])), (q60, .inl (E 1, 24, .inr (.inl (fun _ => 0)))), (q61, .inl (E 0, 24, .inl (fun _ => 0)))] := hD
  refine va_putF (D := D) (ci := 9) (v := .ref q61) (ty := (.array .int)) (C := RX9) (T := TX9) (N := 13) hx hb hts inX9 tyX9 tyX9_ok nmX9 hown hK hP hD hS 0 rfl rfl 10 (by decide) (hts _ b_491) (fun _ h9 => h9) rfl hnm rfl (by decide +kernel) rfl rfl (Nat.le_of_ble_eq_true rfl) dX9_init_124 (fun H locs hP hD hS => ?_)
  have hP : va_P D k_cl [(a, .inr (9, [.ref q1, .ref q4, .ref q18, .ref q20, .ref q22, .ref q24, .ref q30, .ref q36, .ref q50, .ref q60, .ref q61, .int 0, .int 0])), (q1, .inr (6, [.ref t_bytes3, .int 0])), (t_bytes3, .inl (E 2, 2000, .inl (fun _ => 0))), (q4, .inr (0, [.ref g_xs6, .ref g_ys7, .ref g_potentials8, .ref g_tails9, .ref g_heads10, .ref g_weights11, .ref g_net12, .int 0, .int 0, .long 0])), (g_xs6, .inl (E 0, 24, .inl (fun _ => 0))), (g_ys7, .inl (E 0, 24, .inl (fun _ => 0))), (g_potentials8, .inl (E 1, 24, .inr (.inl (fun _ => 0)))), (g_net12, .inr (3, [.ref n_lengths13, .ref n_counts14, .ref n_overs15, .ref n_arcNumbers16, .ref n_left17, .int 0])), (n_lengths13, .inl (E 1, 576, .inr (.inl (fun _ => 0)))), (n_counts14, .inl (E 0, 576, .inl (fun _ => 0))), (n_overs15, .inl (E 0, 576, .inl (fun _ => 0))), (n_arcNumbers16, .inl (E 0, 576, .inl (fun _ => 0))), (n_left17, .inl (E 3, 24, .inl (fun _ => 0))), (q18, .inr (4, [.ref q1, .ref q4, .int 0, .int 0, .int 0, .int (-1), .int 0, .int 0, .long 0])), (q24, .inr (7, [.ref r_nodes26, .ref r_lengths27, .ref r_counts28, .int 0, .ref r_seen29])), (q30, .inr (2, [.ref m_nodes32, .ref m_potentials33, .int 0, .ref m_from34, .ref m_into35])), (q36, .inr (1, [.ref h_net38, .ref h_ranks39, .ref h_row40, .int 0, .int 0, .int 0, .int 4, .int 2, .int 1, .ref h_witnesses41, .ref h_contractedBeside42, .ref h_wantedFrom43, .ref h_wantedTo44, .int 0])), (h_contractedBeside42, .inl (E 0, 24, .inl (fun _ => 0))), (h_net38, .inr (3, [.ref n_lengths45, .ref n_counts46, .ref n_overs47, .ref n_arcNumbers48, .ref n_left49, .int 0])), (n_lengths45, .inl (E 1, 576, .inr (.inl (fun _ => 0)))), (n_counts46, .inl (E 0, 576, .inl (fun _ => 0))), (n_overs47, .inl (E 0, 576, .inl (fun _ => 0))), (n_arcNumbers48, .inl (E 0, 576, .inl (fun _ => 0))), (n_left49, .inl (E 3, 24, .inl (fun _ => 0))), (q50, .inr (5, [.ref o_relaxedFrom52, .ref o_relaxedTo53, .ref o_walk54, .int 0, .int 0, .int 0, .int 0, .int 0, .int 0, .int 0, .int (-1), .long 0, .ref o_upLengths55, .ref o_upCounts56, .ref o_downLengths57, .ref o_downCounts58, .ref o_chain59])), (q60, .inl (E 1, 24, .inr (.inl (fun _ => 0)))), (q61, .inl (E 0, 24, .inl (fun _ => 0)))] H := hP
  have hD : va_D A [(a, .inr (9, [.ref q1, .ref q4, .ref q18, .ref q20, .ref q22, .ref q24, .ref q30, .ref q36, .ref q50, .ref q60, .ref q61, .int 0, .int 0])), (q1, .inr (6, [.ref t_bytes3, .int 0])), (t_bytes3, .inl (E 2, 2000, .inl (fun _ => 0))), (q4, .inr (0, [.ref g_xs6, .ref g_ys7, .ref g_potentials8, .ref g_tails9, .ref g_heads10, .ref g_weights11, .ref g_net12, .int 0, .int 0, .long 0])), (g_xs6, .inl (E 0, 24, .inl (fun _ => 0))), (g_ys7, .inl (E 0, 24, .inl (fun _ => 0))), (g_potentials8, .inl (E 1, 24, .inr (.inl (fun _ => 0)))), (g_net12, .inr (3, [.ref n_lengths13, .ref n_counts14, .ref n_overs15, .ref n_arcNumbers16, .ref n_left17, .int 0])), (n_lengths13, .inl (E 1, 576, .inr (.inl (fun _ => 0)))), (n_counts14, .inl (E 0, 576, .inl (fun _ => 0))), (n_overs15, .inl (E 0, 576, .inl (fun _ => 0))), (n_arcNumbers16, .inl (E 0, 576, .inl (fun _ => 0))), (n_left17, .inl (E 3, 24, .inl (fun _ => 0))), (q18, .inr (4, [.ref q1, .ref q4, .int 0, .int 0, .int 0, .int (-1), .int 0, .int 0, .long 0])), (q24, .inr (7, [.ref r_nodes26, .ref r_lengths27, .ref r_counts28, .int 0, .ref r_seen29])), (q30, .inr (2, [.ref m_nodes32, .ref m_potentials33, .int 0, .ref m_from34, .ref m_into35])), (q36, .inr (1, [.ref h_net38, .ref h_ranks39, .ref h_row40, .int 0, .int 0, .int 0, .int 4, .int 2, .int 1, .ref h_witnesses41, .ref h_contractedBeside42, .ref h_wantedFrom43, .ref h_wantedTo44, .int 0])), (h_contractedBeside42, .inl (E 0, 24, .inl (fun _ => 0))), (h_net38, .inr (3, [.ref n_lengths45, .ref n_counts46, .ref n_overs47, .ref n_arcNumbers48, .ref n_left49, .int 0])), (n_lengths45, .inl (E 1, 576, .inr (.inl (fun _ => 0)))), (n_counts46, .inl (E 0, 576, .inl (fun _ => 0))), (n_overs47, .inl (E 0, 576, .inl (fun _ => 0))), (n_arcNumbers48, .inl (E 0, 576, .inl (fun _ => 0))), (n_left49, .inl (E 3, 24, .inl (fun _ => 0))), (q50, .inr (5, [.ref o_relaxedFrom52, .ref o_relaxedTo53, .ref o_walk54, .int 0, .int 0, .int 0, .int 0, .int 0, .int 0, .int 0, .int (-1), .long 0, .ref o_upLengths55, .ref o_upCounts56, .ref o_downLengths57, .ref o_downCounts58, .ref o_chain59])), (q60, .inl (E 1, 24, .inr (.inl (fun _ => 0)))), (q61, .inl (E 0, 24, .inl (fun _ => 0)))] := hD
  refine lv_aload_n hx hb dX9_init_127 rfl (lv_at hl 0 rfl) ?_
  refine lv_iconst (v := 0) hx hb dX9_init_128 (by decide) ?_
  refine va_put (D := D) (ci := 9) (v := .int 0) (ty := .int) (C := RX9) (T := TX9) (N := 13) hx hb hts inX9 tyX9 tyX9_ok nmX9 hown hK hP hD hS 0 rfl rfl 11 (by decide) (hts _ b_492) (fun _ h9 => h9) rfl (by decide +kernel) rfl rfl (Nat.le_of_ble_eq_true rfl) dX9_init_129 (fun H locs hP hD hS => ?_)
  have hP : va_P D k_cl [(a, .inr (9, [.ref q1, .ref q4, .ref q18, .ref q20, .ref q22, .ref q24, .ref q30, .ref q36, .ref q50, .ref q60, .ref q61, .int 0, .int 0])), (q1, .inr (6, [.ref t_bytes3, .int 0])), (t_bytes3, .inl (E 2, 2000, .inl (fun _ => 0))), (q4, .inr (0, [.ref g_xs6, .ref g_ys7, .ref g_potentials8, .ref g_tails9, .ref g_heads10, .ref g_weights11, .ref g_net12, .int 0, .int 0, .long 0])), (g_xs6, .inl (E 0, 24, .inl (fun _ => 0))), (g_ys7, .inl (E 0, 24, .inl (fun _ => 0))), (g_potentials8, .inl (E 1, 24, .inr (.inl (fun _ => 0)))), (g_net12, .inr (3, [.ref n_lengths13, .ref n_counts14, .ref n_overs15, .ref n_arcNumbers16, .ref n_left17, .int 0])), (n_lengths13, .inl (E 1, 576, .inr (.inl (fun _ => 0)))), (n_counts14, .inl (E 0, 576, .inl (fun _ => 0))), (n_overs15, .inl (E 0, 576, .inl (fun _ => 0))), (n_arcNumbers16, .inl (E 0, 576, .inl (fun _ => 0))), (n_left17, .inl (E 3, 24, .inl (fun _ => 0))), (q18, .inr (4, [.ref q1, .ref q4, .int 0, .int 0, .int 0, .int (-1), .int 0, .int 0, .long 0])), (q24, .inr (7, [.ref r_nodes26, .ref r_lengths27, .ref r_counts28, .int 0, .ref r_seen29])), (q30, .inr (2, [.ref m_nodes32, .ref m_potentials33, .int 0, .ref m_from34, .ref m_into35])), (q36, .inr (1, [.ref h_net38, .ref h_ranks39, .ref h_row40, .int 0, .int 0, .int 0, .int 4, .int 2, .int 1, .ref h_witnesses41, .ref h_contractedBeside42, .ref h_wantedFrom43, .ref h_wantedTo44, .int 0])), (h_contractedBeside42, .inl (E 0, 24, .inl (fun _ => 0))), (h_net38, .inr (3, [.ref n_lengths45, .ref n_counts46, .ref n_overs47, .ref n_arcNumbers48, .ref n_left49, .int 0])), (n_lengths45, .inl (E 1, 576, .inr (.inl (fun _ => 0)))), (n_counts46, .inl (E 0, 576, .inl (fun _ => 0))), (n_overs47, .inl (E 0, 576, .inl (fun _ => 0))), (n_arcNumbers48, .inl (E 0, 576, .inl (fun _ => 0))), (n_left49, .inl (E 3, 24, .inl (fun _ => 0))), (q50, .inr (5, [.ref o_relaxedFrom52, .ref o_relaxedTo53, .ref o_walk54, .int 0, .int 0, .int 0, .int 0, .int 0, .int 0, .int 0, .int (-1), .long 0, .ref o_upLengths55, .ref o_upCounts56, .ref o_downLengths57, .ref o_downCounts58, .ref o_chain59])), (q60, .inl (E 1, 24, .inr (.inl (fun _ => 0)))), (q61, .inl (E 0, 24, .inl (fun _ => 0)))] H := hP
  have hD : va_D A [(a, .inr (9, [.ref q1, .ref q4, .ref q18, .ref q20, .ref q22, .ref q24, .ref q30, .ref q36, .ref q50, .ref q60, .ref q61, .int 0, .int 0])), (q1, .inr (6, [.ref t_bytes3, .int 0])), (t_bytes3, .inl (E 2, 2000, .inl (fun _ => 0))), (q4, .inr (0, [.ref g_xs6, .ref g_ys7, .ref g_potentials8, .ref g_tails9, .ref g_heads10, .ref g_weights11, .ref g_net12, .int 0, .int 0, .long 0])), (g_xs6, .inl (E 0, 24, .inl (fun _ => 0))), (g_ys7, .inl (E 0, 24, .inl (fun _ => 0))), (g_potentials8, .inl (E 1, 24, .inr (.inl (fun _ => 0)))), (g_net12, .inr (3, [.ref n_lengths13, .ref n_counts14, .ref n_overs15, .ref n_arcNumbers16, .ref n_left17, .int 0])), (n_lengths13, .inl (E 1, 576, .inr (.inl (fun _ => 0)))), (n_counts14, .inl (E 0, 576, .inl (fun _ => 0))), (n_overs15, .inl (E 0, 576, .inl (fun _ => 0))), (n_arcNumbers16, .inl (E 0, 576, .inl (fun _ => 0))), (n_left17, .inl (E 3, 24, .inl (fun _ => 0))), (q18, .inr (4, [.ref q1, .ref q4, .int 0, .int 0, .int 0, .int (-1), .int 0, .int 0, .long 0])), (q24, .inr (7, [.ref r_nodes26, .ref r_lengths27, .ref r_counts28, .int 0, .ref r_seen29])), (q30, .inr (2, [.ref m_nodes32, .ref m_potentials33, .int 0, .ref m_from34, .ref m_into35])), (q36, .inr (1, [.ref h_net38, .ref h_ranks39, .ref h_row40, .int 0, .int 0, .int 0, .int 4, .int 2, .int 1, .ref h_witnesses41, .ref h_contractedBeside42, .ref h_wantedFrom43, .ref h_wantedTo44, .int 0])), (h_contractedBeside42, .inl (E 0, 24, .inl (fun _ => 0))), (h_net38, .inr (3, [.ref n_lengths45, .ref n_counts46, .ref n_overs47, .ref n_arcNumbers48, .ref n_left49, .int 0])), (n_lengths45, .inl (E 1, 576, .inr (.inl (fun _ => 0)))), (n_counts46, .inl (E 0, 576, .inl (fun _ => 0))), (n_overs47, .inl (E 0, 576, .inl (fun _ => 0))), (n_arcNumbers48, .inl (E 0, 576, .inl (fun _ => 0))), (n_left49, .inl (E 3, 24, .inl (fun _ => 0))), (q50, .inr (5, [.ref o_relaxedFrom52, .ref o_relaxedTo53, .ref o_walk54, .int 0, .int 0, .int 0, .int 0, .int 0, .int 0, .int 0, .int (-1), .long 0, .ref o_upLengths55, .ref o_upCounts56, .ref o_downLengths57, .ref o_downCounts58, .ref o_chain59])), (q60, .inl (E 1, 24, .inr (.inl (fun _ => 0)))), (q61, .inl (E 0, 24, .inl (fun _ => 0)))] := hD
  refine lv_aload_n hx hb dX9_init_132 rfl (lv_at hl 0 rfl) ?_
  refine lv_iconst (v := 0) hx hb dX9_init_133 (by decide) ?_
  refine va_put (D := D) (ci := 9) (v := .int 0) (ty := .int) (C := RX9) (T := TX9) (N := 13) hx hb hts inX9 tyX9 tyX9_ok nmX9 hown hK hP hD hS 0 rfl rfl 12 (by decide) (hts _ b_493) (fun _ h9 => h9) rfl (by decide +kernel) rfl rfl (Nat.le_of_ble_eq_true rfl) dX9_init_134 (fun H locs hP hD hS => ?_)
  have hP : va_P D k_cl [(a, .inr (9, [.ref q1, .ref q4, .ref q18, .ref q20, .ref q22, .ref q24, .ref q30, .ref q36, .ref q50, .ref q60, .ref q61, .int 0, .int 0])), (q1, .inr (6, [.ref t_bytes3, .int 0])), (t_bytes3, .inl (E 2, 2000, .inl (fun _ => 0))), (q4, .inr (0, [.ref g_xs6, .ref g_ys7, .ref g_potentials8, .ref g_tails9, .ref g_heads10, .ref g_weights11, .ref g_net12, .int 0, .int 0, .long 0])), (g_xs6, .inl (E 0, 24, .inl (fun _ => 0))), (g_ys7, .inl (E 0, 24, .inl (fun _ => 0))), (g_potentials8, .inl (E 1, 24, .inr (.inl (fun _ => 0)))), (g_net12, .inr (3, [.ref n_lengths13, .ref n_counts14, .ref n_overs15, .ref n_arcNumbers16, .ref n_left17, .int 0])), (n_lengths13, .inl (E 1, 576, .inr (.inl (fun _ => 0)))), (n_counts14, .inl (E 0, 576, .inl (fun _ => 0))), (n_overs15, .inl (E 0, 576, .inl (fun _ => 0))), (n_arcNumbers16, .inl (E 0, 576, .inl (fun _ => 0))), (n_left17, .inl (E 3, 24, .inl (fun _ => 0))), (q18, .inr (4, [.ref q1, .ref q4, .int 0, .int 0, .int 0, .int (-1), .int 0, .int 0, .long 0])), (q24, .inr (7, [.ref r_nodes26, .ref r_lengths27, .ref r_counts28, .int 0, .ref r_seen29])), (q30, .inr (2, [.ref m_nodes32, .ref m_potentials33, .int 0, .ref m_from34, .ref m_into35])), (q36, .inr (1, [.ref h_net38, .ref h_ranks39, .ref h_row40, .int 0, .int 0, .int 0, .int 4, .int 2, .int 1, .ref h_witnesses41, .ref h_contractedBeside42, .ref h_wantedFrom43, .ref h_wantedTo44, .int 0])), (h_contractedBeside42, .inl (E 0, 24, .inl (fun _ => 0))), (h_net38, .inr (3, [.ref n_lengths45, .ref n_counts46, .ref n_overs47, .ref n_arcNumbers48, .ref n_left49, .int 0])), (n_lengths45, .inl (E 1, 576, .inr (.inl (fun _ => 0)))), (n_counts46, .inl (E 0, 576, .inl (fun _ => 0))), (n_overs47, .inl (E 0, 576, .inl (fun _ => 0))), (n_arcNumbers48, .inl (E 0, 576, .inl (fun _ => 0))), (n_left49, .inl (E 3, 24, .inl (fun _ => 0))), (q50, .inr (5, [.ref o_relaxedFrom52, .ref o_relaxedTo53, .ref o_walk54, .int 0, .int 0, .int 0, .int 0, .int 0, .int 0, .int 0, .int (-1), .long 0, .ref o_upLengths55, .ref o_upCounts56, .ref o_downLengths57, .ref o_downCounts58, .ref o_chain59])), (q60, .inl (E 1, 24, .inr (.inl (fun _ => 0)))), (q61, .inl (E 0, 24, .inl (fun _ => 0)))] H := hP
  have hD : va_D A [(a, .inr (9, [.ref q1, .ref q4, .ref q18, .ref q20, .ref q22, .ref q24, .ref q30, .ref q36, .ref q50, .ref q60, .ref q61, .int 0, .int 0])), (q1, .inr (6, [.ref t_bytes3, .int 0])), (t_bytes3, .inl (E 2, 2000, .inl (fun _ => 0))), (q4, .inr (0, [.ref g_xs6, .ref g_ys7, .ref g_potentials8, .ref g_tails9, .ref g_heads10, .ref g_weights11, .ref g_net12, .int 0, .int 0, .long 0])), (g_xs6, .inl (E 0, 24, .inl (fun _ => 0))), (g_ys7, .inl (E 0, 24, .inl (fun _ => 0))), (g_potentials8, .inl (E 1, 24, .inr (.inl (fun _ => 0)))), (g_net12, .inr (3, [.ref n_lengths13, .ref n_counts14, .ref n_overs15, .ref n_arcNumbers16, .ref n_left17, .int 0])), (n_lengths13, .inl (E 1, 576, .inr (.inl (fun _ => 0)))), (n_counts14, .inl (E 0, 576, .inl (fun _ => 0))), (n_overs15, .inl (E 0, 576, .inl (fun _ => 0))), (n_arcNumbers16, .inl (E 0, 576, .inl (fun _ => 0))), (n_left17, .inl (E 3, 24, .inl (fun _ => 0))), (q18, .inr (4, [.ref q1, .ref q4, .int 0, .int 0, .int 0, .int (-1), .int 0, .int 0, .long 0])), (q24, .inr (7, [.ref r_nodes26, .ref r_lengths27, .ref r_counts28, .int 0, .ref r_seen29])), (q30, .inr (2, [.ref m_nodes32, .ref m_potentials33, .int 0, .ref m_from34, .ref m_into35])), (q36, .inr (1, [.ref h_net38, .ref h_ranks39, .ref h_row40, .int 0, .int 0, .int 0, .int 4, .int 2, .int 1, .ref h_witnesses41, .ref h_contractedBeside42, .ref h_wantedFrom43, .ref h_wantedTo44, .int 0])), (h_contractedBeside42, .inl (E 0, 24, .inl (fun _ => 0))), (h_net38, .inr (3, [.ref n_lengths45, .ref n_counts46, .ref n_overs47, .ref n_arcNumbers48, .ref n_left49, .int 0])), (n_lengths45, .inl (E 1, 576, .inr (.inl (fun _ => 0)))), (n_counts46, .inl (E 0, 576, .inl (fun _ => 0))), (n_overs47, .inl (E 0, 576, .inl (fun _ => 0))), (n_arcNumbers48, .inl (E 0, 576, .inl (fun _ => 0))), (n_left49, .inl (E 3, 24, .inl (fun _ => 0))), (q50, .inr (5, [.ref o_relaxedFrom52, .ref o_relaxedTo53, .ref o_walk54, .int 0, .int 0, .int 0, .int 0, .int 0, .int 0, .int 0, .int (-1), .long 0, .ref o_upLengths55, .ref o_upCounts56, .ref o_downLengths57, .ref o_downCounts58, .ref o_chain59])), (q60, .inl (E 1, 24, .inr (.inl (fun _ => 0)))), (q61, .inl (E 0, 24, .inl (fun _ => 0)))] := hD
  exact m_v ⟨q1, q4, q18, q20, q22, q24, q30, q36, q50, q60, q61, t_bytes3, g_xs6, g_ys7, g_potentials8, g_tails9, g_heads10, g_weights11, g_net12, n_lengths13, n_counts14, n_overs15, n_arcNumbers16, n_left17, r_nodes26, r_lengths27, r_counts28, r_seen29, m_nodes32, m_potentials33, m_from34, m_into35, h_net38, h_ranks39, h_row40, h_witnesses41, h_contractedBeside42, h_wantedFrom43, h_wantedTo44, n_lengths45, n_counts46, n_overs47, n_arcNumbers48, n_left49, o_relaxedFrom52, o_relaxedTo53, o_walk54, o_upLengths55, o_upCounts56, o_downLengths57, o_downCounts58, o_chain59⟩ hx hb hr hlocks rfl trivial (hP.sub [0, 1, 2, 3, 4, 5, 6, 7, 8, 9, 10, 11, 12, 13, 14, 15, 16, 17, 18, 19, 20, 21, 22, 23, 24] rfl) (hD.sub [0, 1, 2, 3, 4, 5, 6, 7, 8, 9, 10, 11, 12, 13, 14, 15, 16, 17, 18, 19, 20, 21, 22, 23, 24] (by decide) rfl) hS (by decide) (by decide) dX9_init_137
end
section
/-! the words and decode rows that the rows of the next part take -/
theorem b_13 : Cond.selects RX9 yX9_findWays yX9_findWays ∈ TB := tb_of 13 (by decide +kernel)
theorem b_17 : Cond.selects RX9 yX9_findEdge yX9_findEdge ∈ TB := tb_of 17 (by decide +kernel)
theorem b_121 : Cond.fieldLink RX9 87 "RoutePlanner$Tape" "size" "I" ∈ TB := tb_of 121 (by decide +kernel)
theorem b_186 : Cond.fieldLink RX9 226 "RoutePlanner$Graph" "potentials" "[J" ∈ TB := tb_of 186 (by decide +kernel)
theorem b_197 : Cond.fieldLink RX9 113 "RoutePlanner$Graph" "nodes" "I" ∈ TB := tb_of 197 (by decide +kernel)
theorem b_200 : Cond.fieldLink RX9 117 "RoutePlanner$Graph" "arcs" "I" ∈ TB := tb_of 200 (by decide +kernel)
theorem b_237 : Cond.fieldLink RX9 129 "RoutePlanner$Reader" "faultPlace" "I" ∈ TB := tb_of 237 (by decide +kernel)
theorem b_306 : Cond.fieldLink RX9 387 "RoutePlanner$Trail" "size" "I" ∈ TB := tb_of 306 (by decide +kernel)
theorem b_332 : Cond.fieldLink RX9 202 "RoutePlanner$Landmarks" "size" "I" ∈ TB := tb_of 332 (by decide +kernel)
theorem b_365 : Cond.fieldLink RX9 193 "RoutePlanner$Hierarchy" "made" "Z" ∈ TB := tb_of 365 (by decide +kernel)
theorem b_424 : Cond.fieldLink RX9 349 "RoutePlanner$Route" "asked" "Z" ∈ TB := tb_of 424 (by decide +kernel)
theorem b_694 : Cond.constantLong RX9 200 (-1) ∈ TB := tb_of 694 (by decide +kernel)
theorem b_703 : Cond.methodLink RX9 246 yX7_has ∈ TB := tb_of 703 (by decide +kernel)
theorem b_704 : Cond.instanceMethod yX7_has ∈ TB := tb_of 704 (by decide +kernel)
theorem b_705 : Cond.selects RX7 yX7_has yX7_has ∈ TB := tb_of 705 (by decide +kernel)
theorem b_706 : Cond.code yX7_has cX7_has 2 (some .boolean) ∈ TB := tb_of 706 (by decide +kernel)
theorem b_719 : Cond.methodLink RX9 257 yX9_findWays ∈ TB := tb_of 719 (by decide +kernel)
theorem b_721 : Cond.instanceMethod yX9_findWays ∈ TB := tb_of 721 (by decide +kernel)
theorem b_722 : Cond.code yX9_findWays cX9_findWays 3 (some .boolean) ∈ TB := tb_of 722 (by decide +kernel)
theorem b_751 : Cond.methodLink RX9 229 yX0_firstInconsistent ∈ TB := tb_of 751 (by decide +kernel)
theorem b_752 : Cond.instanceMethod yX0_firstInconsistent ∈ TB := tb_of 752 (by decide +kernel)
theorem b_753 : Cond.selects RX0 yX0_firstInconsistent yX0_firstInconsistent ∈ TB := tb_of 753 (by decide +kernel)
theorem b_754 : Cond.code yX0_firstInconsistent cX0_firstInconsistent 3 (some .int) ∈ TB := tb_of 754 (by decide +kernel)
theorem b_798 : Cond.methodLink RX9 328 yX9_findEdge ∈ TB := tb_of 798 (by decide +kernel)
theorem b_800 : Cond.instanceMethod yX9_findEdge ∈ TB := tb_of 800 (by decide +kernel)
theorem b_801 : Cond.code yX9_findEdge cX9_findEdge 4 (some .int) ∈ TB := tb_of 801 (by decide +kernel)
theorem hd_X7_has : k_hd yX7_has 1 := by decide +kernel
theorem hd_X9_findWays : k_hd yX9_findWays 2 := by decide +kernel
theorem hd_X0_firstInconsistent : k_hd yX0_firstInconsistent 1 := by decide +kernel
theorem hd_X9_findEdge : k_hd yX9_findEdge 3 := by decide +kernel
theorem dX7_has_0 : decode cX7_has 0 = .ok (.iload_n 1, 1) := by decide +kernel
theorem dX7_has_1 : decode cX7_has 1 = .ok (.ifCond .lt 15, 3) := by decide +kernel
theorem dX7_has_4 : decode cX7_has 4 = .ok (.iload_n 1, 1) := by decide +kernel
theorem dX7_has_5 : decode cX7_has 5 = .ok (.aload_n 0, 1) := by decide +kernel
theorem dX7_has_6 : decode cX7_has 6 = .ok (.getfield 22, 3) := by decide +kernel
theorem dX7_has_9 : decode cX7_has 9 = .ok (.if_icmp .ge 7, 3) := by decide +kernel
theorem dX7_has_16 : decode cX7_has 16 = .ok (.iconst 0, 1) := by decide +kernel
theorem dX7_has_17 : decode cX7_has 17 = .ok (.ireturn, 1) := by decide +kernel
theorem dX0_firstInconsistent_0 : decode cX0_firstInconsistent 0 = .ok (.iconst 0, 1) := by decide +kernel
theorem dX0_firstInconsistent_1 : decode cX0_firstInconsistent 1 = .ok (.istore_n 2, 1) := by decide +kernel
theorem dX0_firstInconsistent_2 : decode cX0_firstInconsistent 2 = .ok (.iload_n 2, 1) := by decide +kernel
theorem dX0_firstInconsistent_3 : decode cX0_firstInconsistent 3 = .ok (.aload_n 0, 1) := by decide +kernel
theorem dX0_firstInconsistent_4 : decode cX0_firstInconsistent 4 = .ok (.getfield 42, 3) := by decide +kernel
theorem dX0_firstInconsistent_7 : decode cX0_firstInconsistent 7 = .ok (.if_icmp .ge 38, 3) := by decide +kernel
theorem dX0_firstInconsistent_45 : decode cX0_firstInconsistent 45 = .ok (.iconst (-1), 1) := by decide +kernel
theorem dX0_firstInconsistent_46 : decode cX0_firstInconsistent 46 = .ok (.ireturn, 1) := by decide +kernel
theorem dX9_findWays_0 : decode cX9_findWays 0 = .ok (.aload_n 0, 1) := by decide +kernel
theorem dX9_findWays_1 : decode cX9_findWays 1 = .ok (.getfield 21, 3) := by decide +kernel
theorem dX9_findWays_4 : decode cX9_findWays 4 = .ok (.iload_n 1, 1) := by decide +kernel
theorem dX9_findWays_5 : decode cX9_findWays 5 = .ok (.invokevirtual 180, 3) := by decide +kernel
theorem dX9_findWays_8 : decode cX9_findWays 8 = .ok (.ifCond .eq 14, 3) := by decide +kernel
theorem dX9_findWays_22 : decode cX9_findWays 22 = .ok (.iconst 0, 1) := by decide +kernel
theorem dX9_findWays_23 : decode cX9_findWays 23 = .ok (.ireturn, 1) := by decide +kernel
theorem dX9_findEdge_0 : decode cX9_findEdge 0 = .ok (.aload_n 0, 1) := by decide +kernel
theorem dX9_findEdge_1 : decode cX9_findEdge 1 = .ok (.getfield 61, 3) := by decide +kernel
theorem dX9_findEdge_4 : decode cX9_findEdge 4 = .ok (.getfield 193, 3) := by decide +kernel
theorem dX9_findEdge_7 : decode cX9_findEdge 7 = .ok (.ifCond .eq 31, 3) := by decide +kernel
theorem dX9_findEdge_38 : decode cX9_findEdge 38 = .ok (.iconst (-1), 1) := by decide +kernel
theorem dX9_findEdge_39 : decode cX9_findEdge 39 = .ok (.ireturn, 1) := by decide +kernel
theorem dX9_place_0 : decode cX9_place 0 = .ok (.aload_n 0, 1) := by decide +kernel
theorem dX9_place_1 : decode cX9_place 1 = .ok (.getfield 30, 3) := by decide +kernel
theorem dX9_place_4 : decode cX9_place 4 = .ok (.getfield 129, 3) := by decide +kernel
theorem dX9_place_7 : decode cX9_place 7 = .ok (.ireturn, 1) := by decide +kernel
theorem dX9_about_0 : decode cX9_about 0 = .ok (.iload_n 2, 1) := by decide +kernel
theorem dX9_about_1 : decode cX9_about 1 = .ok (.ifCond .eq 8, 3) := by decide +kernel
theorem dX9_about_4 : decode cX9_about 4 = .ok (.iload_n 2, 1) := by decide +kernel
theorem dX9_about_5 : decode cX9_about 5 = .ok (.iconst 1, 1) := by decide +kernel
theorem dX9_about_6 : decode cX9_about 6 = .ok (.if_icmp .ne 44, 3) := by decide +kernel
theorem dX9_about_9 : decode cX9_about 9 = .ok (.aload_n 0, 1) := by decide +kernel
theorem dX9_about_10 : decode cX9_about 10 = .ok (.getfield 21, 3) := by decide +kernel
theorem dX9_about_13 : decode cX9_about 13 = .ok (.iload_n 1, 1) := by decide +kernel
theorem dX9_about_14 : decode cX9_about 14 = .ok (.invokevirtual 162, 3) := by decide +kernel
theorem dX9_about_17 : decode cX9_about 17 = .ok (.ifCond .eq 31, 3) := by decide +kernel
theorem dX9_about_48 : decode cX9_about 48 = .ok (.iconst (-1), 1) := by decide +kernel
theorem dX9_about_49 : decode cX9_about 49 = .ok (.ireturn, 1) := by decide +kernel
theorem dX9_about_50 : decode cX9_about 50 = .ok (.aload_n 0, 1) := by decide +kernel
theorem dX9_about_51 : decode cX9_about 51 = .ok (.getfield 21, 3) := by decide +kernel
theorem dX9_about_54 : decode cX9_about 54 = .ok (.iload_n 1, 1) := by decide +kernel
theorem dX9_about_55 : decode cX9_about 55 = .ok (.invokevirtual 180, 3) := by decide +kernel
theorem dX9_about_58 : decode cX9_about 58 = .ok (.ifCond .ne 5, 3) := by decide +kernel
theorem dX9_about_61 : decode cX9_about 61 = .ok (.iconst (-1), 1) := by decide +kernel
theorem dX9_about_62 : decode cX9_about 62 = .ok (.ireturn, 1) := by decide +kernel
theorem dX9_weight_0 : decode cX9_weight 0 = .ok (.aload_n 0, 1) := by decide +kernel
theorem dX9_weight_1 : decode cX9_weight 1 = .ok (.getfield 21, 3) := by decide +kernel
theorem dX9_weight_4 : decode cX9_weight 4 = .ok (.iload_n 1, 1) := by decide +kernel
theorem dX9_weight_5 : decode cX9_weight 5 = .ok (.invokevirtual 162, 3) := by decide +kernel
theorem dX9_weight_8 : decode cX9_weight 8 = .ok (.ifCond .eq 15, 3) := by decide +kernel
theorem dX9_weight_23 : decode cX9_weight 23 = .ok (.ldc2_w 200, 3) := by decide +kernel
theorem dX9_weight_26 : decode cX9_weight 26 = .ok (.lreturn, 1) := by decide +kernel
theorem dX9_settled_0 : decode cX9_settled 0 = .ok (.aload_n 0, 1) := by decide +kernel
theorem dX9_settled_1 : decode cX9_settled 1 = .ok (.getfield 47, 3) := by decide +kernel
theorem dX9_settled_4 : decode cX9_settled 4 = .ok (.iload_n 1, 1) := by decide +kernel
theorem dX9_settled_5 : decode cX9_settled 5 = .ok (.invokevirtual 246, 3) := by decide +kernel
theorem dX9_settled_8 : decode cX9_settled 8 = .ok (.ifCond .eq 15, 3) := by decide +kernel
theorem dX9_settled_23 : decode cX9_settled 23 = .ok (.iconst (-1), 1) := by decide +kernel
theorem dX9_settled_24 : decode cX9_settled 24 = .ok (.ireturn, 1) := by decide +kernel
theorem dX9_length_0 : decode cX9_length 0 = .ok (.aload_n 0, 1) := by decide +kernel
theorem dX9_length_1 : decode cX9_length 1 = .ok (.getfield 47, 3) := by decide +kernel
theorem dX9_length_4 : decode cX9_length 4 = .ok (.iload_n 1, 1) := by decide +kernel
theorem dX9_length_5 : decode cX9_length 5 = .ok (.invokevirtual 246, 3) := by decide +kernel
theorem dX9_length_8 : decode cX9_length 8 = .ok (.ifCond .eq 15, 3) := by decide +kernel
theorem dX9_length_23 : decode cX9_length 23 = .ok (.ldc2_w 200, 3) := by decide +kernel
theorem dX9_length_26 : decode cX9_length 26 = .ok (.lreturn, 1) := by decide +kernel
theorem dX9_count_0 : decode cX9_count 0 = .ok (.aload_n 0, 1) := by decide +kernel
theorem dX9_count_1 : decode cX9_count 1 = .ok (.getfield 47, 3) := by decide +kernel
theorem dX9_count_4 : decode cX9_count 4 = .ok (.iload_n 1, 1) := by decide +kernel
theorem dX9_count_5 : decode cX9_count 5 = .ok (.invokevirtual 246, 3) := by decide +kernel
theorem dX9_count_8 : decode cX9_count 8 = .ok (.ifCond .eq 15, 3) := by decide +kernel
theorem dX9_count_23 : decode cX9_count 23 = .ok (.iconst (-1), 1) := by decide +kernel
theorem dX9_count_24 : decode cX9_count 24 = .ok (.ireturn, 1) := by decide +kernel
theorem dX9_distance_0 : decode cX9_distance 0 = .ok (.aload_n 0, 1) := by decide +kernel
theorem dX9_distance_1 : decode cX9_distance 1 = .ok (.iload_n 1, 1) := by decide +kernel
theorem dX9_distance_2 : decode cX9_distance 2 = .ok (.iload_n 2, 1) := by decide +kernel
theorem dX9_distance_3 : decode cX9_distance 3 = .ok (.invokevirtual 257, 3) := by decide +kernel
theorem dX9_distance_6 : decode cX9_distance 6 = .ok (.ifCond .eq 15, 3) := by decide +kernel
theorem dX9_distance_21 : decode cX9_distance 21 = .ok (.ldc2_w 200, 3) := by decide +kernel
theorem dX9_distance_24 : decode cX9_distance 24 = .ok (.lreturn, 1) := by decide +kernel
theorem dX9_arcs_0 : decode cX9_arcs 0 = .ok (.aload_n 0, 1) := by decide +kernel
theorem dX9_arcs_1 : decode cX9_arcs 1 = .ok (.iload_n 1, 1) := by decide +kernel
theorem dX9_arcs_2 : decode cX9_arcs 2 = .ok (.iload_n 2, 1) := by decide +kernel
theorem dX9_arcs_3 : decode cX9_arcs 3 = .ok (.invokevirtual 257, 3) := by decide +kernel
theorem dX9_arcs_6 : decode cX9_arcs 6 = .ok (.ifCond .eq 15, 3) := by decide +kernel
theorem dX9_arcs_21 : decode cX9_arcs 21 = .ok (.iconst (-1), 1) := by decide +kernel
theorem dX9_arcs_22 : decode cX9_arcs 22 = .ok (.ireturn, 1) := by decide +kernel
theorem dX9_inconsistent_0 : decode cX9_inconsistent 0 = .ok (.aload_n 0, 1) := by decide +kernel
theorem dX9_inconsistent_1 : decode cX9_inconsistent 1 = .ok (.getfield 21, 3) := by decide +kernel
theorem dX9_inconsistent_4 : decode cX9_inconsistent 4 = .ok (.aload_n 0, 1) := by decide +kernel
theorem dX9_inconsistent_5 : decode cX9_inconsistent 5 = .ok (.getfield 21, 3) := by decide +kernel
theorem dX9_inconsistent_8 : decode cX9_inconsistent 8 = .ok (.getfield 226, 3) := by decide +kernel
theorem dX9_inconsistent_11 : decode cX9_inconsistent 11 = .ok (.invokevirtual 229, 3) := by decide +kernel
theorem dX9_inconsistent_14 : decode cX9_inconsistent 14 = .ok (.ireturn, 1) := by decide +kernel
theorem dX9_bound_0 : decode cX9_bound 0 = .ok (.aload_n 0, 1) := by decide +kernel
theorem dX9_bound_1 : decode cX9_bound 1 = .ok (.getfield 21, 3) := by decide +kernel
theorem dX9_bound_4 : decode cX9_bound 4 = .ok (.iload_n 1, 1) := by decide +kernel
theorem dX9_bound_5 : decode cX9_bound 5 = .ok (.invokevirtual 180, 3) := by decide +kernel
theorem dX9_bound_8 : decode cX9_bound 8 = .ok (.ifCond .eq 24, 3) := by decide +kernel
theorem dX9_bound_32 : decode cX9_bound 32 = .ok (.ldc2_w 200, 3) := by decide +kernel
theorem dX9_bound_35 : decode cX9_bound 35 = .ok (.lreturn, 1) := by decide +kernel
theorem dX9_ready_0 : decode cX9_ready 0 = .ok (.aload_n 0, 1) := by decide +kernel
theorem dX9_ready_1 : decode cX9_ready 1 = .ok (.getfield 61, 3) := by decide +kernel
theorem dX9_ready_4 : decode cX9_ready 4 = .ok (.getfield 193, 3) := by decide +kernel
theorem dX9_ready_7 : decode cX9_ready 7 = .ok (.ifCond .eq 7, 3) := by decide +kernel
theorem dX9_ready_14 : decode cX9_ready 14 = .ok (.iconst 0, 1) := by decide +kernel
theorem dX9_ready_15 : decode cX9_ready 15 = .ok (.ireturn, 1) := by decide +kernel
theorem dX9_ranked_0 : decode cX9_ranked 0 = .ok (.aload_n 0, 1) := by decide +kernel
theorem dX9_ranked_1 : decode cX9_ranked 1 = .ok (.getfield 61, 3) := by decide +kernel
theorem dX9_ranked_4 : decode cX9_ranked 4 = .ok (.getfield 193, 3) := by decide +kernel
theorem dX9_ranked_7 : decode cX9_ranked 7 = .ok (.ifCond .eq 30, 3) := by decide +kernel
theorem dX9_ranked_37 : decode cX9_ranked 37 = .ok (.iconst (-1), 1) := by decide +kernel
theorem dX9_ranked_38 : decode cX9_ranked 38 = .ok (.ireturn, 1) := by decide +kernel
theorem dX9_edge_0 : decode cX9_edge 0 = .ok (.aload_n 0, 1) := by decide +kernel
theorem dX9_edge_1 : decode cX9_edge 1 = .ok (.iload_n 1, 1) := by decide +kernel
theorem dX9_edge_2 : decode cX9_edge 2 = .ok (.iload_n 2, 1) := by decide +kernel
theorem dX9_edge_3 : decode cX9_edge 3 = .ok (.iload_n 3, 1) := by decide +kernel
theorem dX9_edge_4 : decode cX9_edge 4 = .ok (.invokevirtual 328, 3) := by decide +kernel
theorem dX9_edge_7 : decode cX9_edge 7 = .ok (.istore 5, 2) := by decide +kernel
theorem dX9_edge_9 : decode cX9_edge 9 = .ok (.iload 5, 2) := by decide +kernel
theorem dX9_edge_11 : decode cX9_edge 11 = .ok (.iconst (-1), 1) := by decide +kernel
theorem dX9_edge_12 : decode cX9_edge 12 = .ok (.if_icmp .ne 5, 3) := by decide +kernel
theorem dX9_edge_15 : decode cX9_edge 15 = .ok (.iconst (-1), 1) := by decide +kernel
theorem dX9_edge_16 : decode cX9_edge 16 = .ok (.ireturn, 1) := by decide +kernel
theorem dX9_edgeLength_0 : decode cX9_edgeLength 0 = .ok (.aload_n 0, 1) := by decide +kernel
theorem dX9_edgeLength_1 : decode cX9_edgeLength 1 = .ok (.iload_n 1, 1) := by decide +kernel
theorem dX9_edgeLength_2 : decode cX9_edgeLength 2 = .ok (.iload_n 2, 1) := by decide +kernel
theorem dX9_edgeLength_3 : decode cX9_edgeLength 3 = .ok (.iload_n 3, 1) := by decide +kernel
theorem dX9_edgeLength_4 : decode cX9_edgeLength 4 = .ok (.invokevirtual 328, 3) := by decide +kernel
theorem dX9_edgeLength_7 : decode cX9_edgeLength 7 = .ok (.istore 4, 2) := by decide +kernel
theorem dX9_edgeLength_9 : decode cX9_edgeLength 9 = .ok (.iload 4, 2) := by decide +kernel
theorem dX9_edgeLength_11 : decode cX9_edgeLength 11 = .ok (.iconst (-1), 1) := by decide +kernel
theorem dX9_edgeLength_12 : decode cX9_edgeLength 12 = .ok (.if_icmp .ne 9, 3) := by decide +kernel
theorem dX9_edgeLength_15 : decode cX9_edgeLength 15 = .ok (.ldc2_w 200, 3) := by decide +kernel
theorem dX9_edgeLength_18 : decode cX9_edgeLength 18 = .ok (.goto 16, 3) := by decide +kernel
theorem dX9_edgeLength_34 : decode cX9_edgeLength 34 = .ok (.lreturn, 1) := by decide +kernel
theorem dX9_told_0 : decode cX9_told 0 = .ok (.aload_n 0, 1) := by decide +kernel
theorem dX9_told_1 : decode cX9_told 1 = .ok (.getfield 68, 3) := by decide +kernel
theorem dX9_told_4 : decode cX9_told 4 = .ok (.getfield 349, 3) := by decide +kernel
theorem dX9_told_7 : decode cX9_told 7 = .ok (.ifCond .ne 5, 3) := by decide +kernel
theorem dX9_told_10 : decode cX9_told 10 = .ok (.iconst (-1), 1) := by decide +kernel
theorem dX9_told_11 : decode cX9_told 11 = .ok (.ireturn, 1) := by decide +kernel
theorem dX9_found_0 : decode cX9_found 0 = .ok (.aload_n 0, 1) := by decide +kernel
theorem dX9_found_1 : decode cX9_found 1 = .ok (.getfield 68, 3) := by decide +kernel
theorem dX9_found_4 : decode cX9_found 4 = .ok (.getfield 349, 3) := by decide +kernel
theorem dX9_found_7 : decode cX9_found 7 = .ok (.ifCond .eq 24, 3) := by decide +kernel
theorem dX9_found_31 : decode cX9_found 31 = .ok (.ldc2_w 200, 3) := by decide +kernel
theorem dX9_found_34 : decode cX9_found 34 = .ok (.lreturn, 1) := by decide +kernel
theorem dX9_step_0 : decode cX9_step 0 = .ok (.aload_n 0, 1) := by decide +kernel
theorem dX9_step_1 : decode cX9_step 1 = .ok (.getfield 68, 3) := by decide +kernel
theorem dX9_step_4 : decode cX9_step 4 = .ok (.getfield 349, 3) := by decide +kernel
theorem dX9_step_7 : decode cX9_step 7 = .ok (.ifCond .eq 30, 3) := by decide +kernel
theorem dX9_step_37 : decode cX9_step 37 = .ok (.iconst (-1), 1) := by decide +kernel
theorem dX9_step_38 : decode cX9_step 38 = .ok (.ireturn, 1) := by decide +kernel
theorem dX9_relaxed_0 : decode cX9_relaxed 0 = .ok (.aload_n 0, 1) := by decide +kernel
theorem dX9_relaxed_1 : decode cX9_relaxed 1 = .ok (.getfield 68, 3) := by decide +kernel
theorem dX9_relaxed_4 : decode cX9_relaxed 4 = .ok (.getfield 349, 3) := by decide +kernel
theorem dX9_relaxed_7 : decode cX9_relaxed 7 = .ok (.ifCond .eq 18, 3) := by decide +kernel
theorem dX9_relaxed_25 : decode cX9_relaxed 25 = .ok (.iconst (-1), 1) := by decide +kernel
theorem dX9_relaxed_26 : decode cX9_relaxed 26 = .ok (.ireturn, 1) := by decide +kernel
theorem dX9_reached_0 : decode cX9_reached 0 = .ok (.aload_n 0, 1) := by decide +kernel
theorem dX9_reached_1 : decode cX9_reached 1 = .ok (.getfield 21, 3) := by decide +kernel
theorem dX9_reached_4 : decode cX9_reached 4 = .ok (.iload_n 1, 1) := by decide +kernel
theorem dX9_reached_5 : decode cX9_reached 5 = .ok (.invokevirtual 180, 3) := by decide +kernel
theorem dX9_reached_8 : decode cX9_reached 8 = .ok (.ifCond .eq 7, 3) := by decide +kernel
theorem dX9_reached_15 : decode cX9_reached 15 = .ok (.iconst (-1), 1) := by decide +kernel
theorem dX9_reached_16 : decode cX9_reached 16 = .ok (.ireturn, 1) := by decide +kernel
theorem dX9_total_0 : decode cX9_total 0 = .ok (.iload_n 1, 1) := by decide +kernel
theorem dX9_total_1 : decode cX9_total 1 = .ok (.tableswitch 153 0 8 #[51, 59, 67, 75, 80, 88, 93, 119, 145], 51) := by decide +kernel
theorem dX9_total_52 : decode cX9_total 52 = .ok (.aload_n 0, 1) := by decide +kernel
theorem dX9_total_53 : decode cX9_total 53 = .ok (.getfield 21, 3) := by decide +kernel
theorem dX9_total_56 : decode cX9_total 56 = .ok (.getfield 113, 3) := by decide +kernel
theorem dX9_total_59 : decode cX9_total 59 = .ok (.ireturn, 1) := by decide +kernel
theorem dX9_total_60 : decode cX9_total 60 = .ok (.aload_n 0, 1) := by decide +kernel
theorem dX9_total_61 : decode cX9_total 61 = .ok (.getfield 21, 3) := by decide +kernel
theorem dX9_total_64 : decode cX9_total 64 = .ok (.getfield 117, 3) := by decide +kernel
theorem dX9_total_67 : decode cX9_total 67 = .ok (.ireturn, 1) := by decide +kernel
theorem dX9_total_68 : decode cX9_total 68 = .ok (.aload_n 0, 1) := by decide +kernel
theorem dX9_total_69 : decode cX9_total 69 = .ok (.getfield 14, 3) := by decide +kernel
theorem dX9_total_72 : decode cX9_total 72 = .ok (.getfield 87, 3) := by decide +kernel
theorem dX9_total_75 : decode cX9_total 75 = .ok (.ireturn, 1) := by decide +kernel
theorem dX9_total_76 : decode cX9_total 76 = .ok (.aload_n 0, 1) := by decide +kernel
theorem dX9_total_77 : decode cX9_total 77 = .ok (.getfield 84, 3) := by decide +kernel
theorem dX9_total_80 : decode cX9_total 80 = .ok (.ireturn, 1) := by decide +kernel
theorem dX9_total_81 : decode cX9_total 81 = .ok (.aload_n 0, 1) := by decide +kernel
theorem dX9_total_82 : decode cX9_total 82 = .ok (.getfield 54, 3) := by decide +kernel
theorem dX9_total_85 : decode cX9_total 85 = .ok (.getfield 202, 3) := by decide +kernel
theorem dX9_total_88 : decode cX9_total 88 = .ok (.ireturn, 1) := by decide +kernel
theorem dX9_total_89 : decode cX9_total 89 = .ok (.aload_n 0, 1) := by decide +kernel
theorem dX9_total_90 : decode cX9_total 90 = .ok (.getfield 80, 3) := by decide +kernel
theorem dX9_total_93 : decode cX9_total 93 = .ok (.ireturn, 1) := by decide +kernel
theorem dX9_total_94 : decode cX9_total 94 = .ok (.aload_n 0, 1) := by decide +kernel
theorem dX9_total_95 : decode cX9_total 95 = .ok (.getfield 61, 3) := by decide +kernel
theorem dX9_total_98 : decode cX9_total 98 = .ok (.getfield 193, 3) := by decide +kernel
theorem dX9_total_101 : decode cX9_total 101 = .ok (.ifCond .eq 17, 3) := by decide +kernel
theorem dX9_total_118 : decode cX9_total 118 = .ok (.iconst 0, 1) := by decide +kernel
theorem dX9_total_119 : decode cX9_total 119 = .ok (.ireturn, 1) := by decide +kernel
theorem dX9_total_120 : decode cX9_total 120 = .ok (.aload_n 0, 1) := by decide +kernel
theorem dX9_total_121 : decode cX9_total 121 = .ok (.getfield 61, 3) := by decide +kernel
theorem dX9_total_124 : decode cX9_total 124 = .ok (.getfield 193, 3) := by decide +kernel
theorem dX9_total_127 : decode cX9_total 127 = .ok (.ifCond .eq 17, 3) := by decide +kernel
theorem dX9_total_144 : decode cX9_total 144 = .ok (.iconst 0, 1) := by decide +kernel
theorem dX9_total_145 : decode cX9_total 145 = .ok (.ireturn, 1) := by decide +kernel
theorem dX9_total_146 : decode cX9_total 146 = .ok (.aload_n 0, 1) := by decide +kernel
theorem dX9_total_147 : decode cX9_total 147 = .ok (.getfield 47, 3) := by decide +kernel
theorem dX9_total_150 : decode cX9_total 150 = .ok (.getfield 387, 3) := by decide +kernel
theorem dX9_total_153 : decode cX9_total 153 = .ok (.ireturn, 1) := by decide +kernel
theorem dX9_total_154 : decode cX9_total 154 = .ok (.iconst (-1), 1) := by decide +kernel
theorem dX9_total_155 : decode cX9_total 155 = .ok (.ireturn, 1) := by decide +kernel
theorem dX9_isWithin_0 : decode cX9_isWithin 0 = .ok (.iload_n 0, 1) := by decide +kernel
theorem dX9_isWithin_1 : decode cX9_isWithin 1 = .ok (.iload_n 1, 1) := by decide +kernel
theorem dX9_isWithin_2 : decode cX9_isWithin 2 = .ok (.ineg, 1) := by decide +kernel
theorem dX9_isWithin_3 : decode cX9_isWithin 3 = .ok (.if_icmp .lt 12, 3) := by decide +kernel
theorem dX9_isWithin_6 : decode cX9_isWithin 6 = .ok (.iload_n 0, 1) := by decide +kernel
theorem dX9_isWithin_7 : decode cX9_isWithin 7 = .ok (.iload_n 1, 1) := by decide +kernel
theorem dX9_isWithin_8 : decode cX9_isWithin 8 = .ok (.if_icmp .gt 7, 3) := by decide +kernel
theorem dX9_isWithin_11 : decode cX9_isWithin 11 = .ok (.iconst 1, 1) := by decide +kernel
theorem dX9_isWithin_12 : decode cX9_isWithin 12 = .ok (.goto 4, 3) := by decide +kernel
theorem dX9_isWithin_15 : decode cX9_isWithin 15 = .ok (.iconst 0, 1) := by decide +kernel
theorem dX9_isWithin_16 : decode cX9_isWithin 16 = .ok (.ireturn, 1) := by decide +kernel
theorem dX9_isFactor_0 : decode cX9_isFactor 0 = .ok (.iload_n 0, 1) := by decide +kernel
theorem dX9_isFactor_1 : decode cX9_isFactor 1 = .ok (.ifCond .lt 13, 3) := by decide +kernel
theorem dX9_isFactor_4 : decode cX9_isFactor 4 = .ok (.iload_n 0, 1) := by decide +kernel
theorem dX9_isFactor_5 : decode cX9_isFactor 5 = .ok (.bipush 9, 2) := by decide +kernel
theorem dX9_isFactor_7 : decode cX9_isFactor 7 = .ok (.if_icmp .gt 7, 3) := by decide +kernel
theorem dX9_isFactor_10 : decode cX9_isFactor 10 = .ok (.iconst 1, 1) := by decide +kernel
theorem dX9_isFactor_11 : decode cX9_isFactor 11 = .ok (.goto 4, 3) := by decide +kernel
theorem dX9_isFactor_14 : decode cX9_isFactor 14 = .ok (.iconst 0, 1) := by decide +kernel
theorem dX9_isFactor_15 : decode cX9_isFactor 15 = .ok (.ireturn, 1) := by decide +kernel
end
section
set_option maxRecDepth 20000 in
set_option maxHeartbeats 2000000 in
theorem c_has (l : Launch) (D : va_G) (E : Nat → ClassId) (b : Nat) (r_nodes : Nat) (r_lengths : Nat) (r_counts : Nat) (r_seen : Nat) (v : Int32) : KR l yX7_has cX7_has 2 (some .boolean) 12 400 D E [.ref b, .int v] [(b, .inr (7, [.ref r_nodes, .ref r_lengths, .ref r_counts, .int 0, .ref r_seen]))] (some (.int 0)) := by
  refine KR.of (by decide) (Nat.le_of_ble_eq_true rfl) ?_
  intro p e s m below meth c ls hx hb hr hts hml hown hlocks hK hP hl
  have hown : s.vm.findClass RX7 = some m.cls := hown
  have hl : lv_has ls 2 [(0, .ref b), (1, .int v)] := hl
  refine lv_iload_n hx hb dX7_has_0 rfl (lv_at hl 1 rfl) ?_
  refine lv_if_lt (tgt := 16) hx hb dX7_has_1 (by decide) (fun c1 => ?_) (fun c1 => ?_)
  · refine lv_iconst (v := 0) hx hb dX7_has_16 (by decide) ?_
    exact r_z hx hb hr hlocks rfl rfl dX7_has_17
  · refine lv_iload_n hx hb dX7_has_4 rfl (lv_at hl 1 rfl) ?_
    refine lv_aload_n hx hb dX7_has_5 rfl (lv_at hl 0 rfl) ?_
    refine va_get (D := D) (ci := 7) (v := .int 0) (C := RX7) (T := TX7) (N := 5) hx hb hts inX7 hown hK hP 0 rfl rfl 3 (by decide) (hts _ b_305) (fun _ h9 => h9) rfl dX7_has_6 ?_
    refine lv_icmp_ge (tgt := 16) hx hb dX7_has_9 (by decide) (fun _ => ?_) (fun h9 => absurd (Int32.not_lt.mp c1) h9)
    refine lv_iconst (v := 0) hx hb dX7_has_16 (by decide) ?_
    exact r_z hx hb hr hlocks rfl rfl dX7_has_17
set_option maxRecDepth 20000 in
set_option maxHeartbeats 2000000 in
theorem c_firstInc (l : Launch) (D : va_G) (E : Nat → ClassId) (b : Nat) (z : Nat) (g_xs : Nat) (g_ys : Nat) (g_potentials : Nat) (g_tails : Nat) (g_heads : Nat) (g_weights : Nat) (g_net : Nat) : KR l yX0_firstInconsistent cX0_firstInconsistent 3 (some .int) 12 400 D E [.ref b, .ref z] [(b, .inr (0, [.ref g_xs, .ref g_ys, .ref g_potentials, .ref g_tails, .ref g_heads, .ref g_weights, .ref g_net, .int 0, .int 0, .long 0]))] (some (.int (-1))) := by
  refine KR.of (by decide) (Nat.le_of_ble_eq_true rfl) ?_
  intro p e s m below meth c ls hx hb hr hts hml hown hlocks hK hP hl
  have hown : s.vm.findClass RX0 = some m.cls := hown
  have hl : lv_has ls 3 [(0, .ref b), (1, .ref z)] := hl
  refine lv_iconst (v := 0) hx hb dX0_firstInconsistent_0 (by decide) ?_
  refine lv_istore_n (lv' := [(2, .int 0), (0, .ref b), (1, .ref z)]) hx hb dX0_firstInconsistent_1 rfl hl (by decide) rfl (fun ls hl => ?_)
  refine lv_iload_n hx hb dX0_firstInconsistent_2 rfl (lv_at hl 0 rfl) ?_
  refine lv_aload_n hx hb dX0_firstInconsistent_3 rfl (lv_at hl 1 rfl) ?_
  refine va_get (D := D) (ci := 0) (v := .int 0) (C := RX0) (T := TX0) (N := 10) hx hb hts inX0 hown hK hP 0 rfl rfl 8 (by decide) (hts _ b_198) (fun _ h9 => h9) rfl dX0_firstInconsistent_4 ?_
  refine lv_icmp_ge (tgt := 45) hx hb dX0_firstInconsistent_7 (by decide) (fun _ => ?_) (fun h9 => absurd (by decide) h9)
  refine lv_iconst (v := -1) hx hb dX0_firstInconsistent_45 (by decide) ?_
  exact r_i hx hb hr hlocks rfl dX0_firstInconsistent_46
set_option maxRecDepth 20000 in
set_option maxHeartbeats 2000000 in
theorem c_findWays (l : Launch) (D : va_G) (E : Nat → ClassId) (a : Nat) (p_tape : Nat) (p_graph : Nat) (p_reader : Nat) (p_ahead : Nat) (p_back : Nat) (p_trail : Nat) (p_landmarks : Nat) (p_hierarchy : Nat) (p_route : Nat) (p_scratch : Nat) (p_toldRow : Nat) (g_xs : Nat) (g_ys : Nat) (g_potentials : Nat) (g_tails : Nat) (g_heads : Nat) (g_weights : Nat) (g_net : Nat) (v : Int32) (w : Int32) : KR l yX9_findWays cX9_findWays 3 (some .boolean) 25 821 D E [.ref a, .int v, .int w] [(a, .inr (9, [.ref p_tape, .ref p_graph, .ref p_reader, .ref p_ahead, .ref p_back, .ref p_trail, .ref p_landmarks, .ref p_hierarchy, .ref p_route, .ref p_scratch, .ref p_toldRow, .int 0, .int 0])), (p_graph, .inr (0, [.ref g_xs, .ref g_ys, .ref g_potentials, .ref g_tails, .ref g_heads, .ref g_weights, .ref g_net, .int 0, .int 0, .long 0]))] (some (.int 0)) := by
  refine KR.of (by decide) (Nat.le_of_ble_eq_true rfl) ?_
  intro p e s m below meth c ls hx hb hr hts hml hown hlocks hK hP hl
  have hown : s.vm.findClass RX9 = some m.cls := hown
  have hl : lv_has ls 3 [(0, .ref a), (1, .int v), (2, .int w)] := hl
  refine lv_aload_n hx hb dX9_findWays_0 rfl (lv_at hl 0 rfl) ?_
  refine va_get (D := D) (ci := 9) (v := .ref p_graph) (C := RX9) (T := TX9) (N := 13) hx hb hts inX9 hown hK hP 0 rfl rfl 1 (by decide) (hts _ b_482) (fun _ h9 => h9) rfl dX9_findWays_1 ?_
  refine lv_iload_n hx hb dX9_findWays_4 rfl (lv_at hl 1 rfl) ?_
  refine k_RV (As := [.int v]) (rest := []) (ci := 0) (q0 := 1) ⟨hx, hb, hml, hown, hts⟩ (c_hasNode l D E p_graph g_xs g_ys g_potentials g_tails g_heads g_weights g_net v) b_682 b_683 b_684 b_80 b_685 ⟨rfl, hd_X0_hasNode⟩ ⟨⟨by decide, by decide⟩, by decide, by decide⟩ hK hP [1] rfl rfl rfl rfl hl.1 (Nat.le_of_ble_eq_true rfl) dX9_findWays_5 ?_
  refine lv_if_eq (tgt := 22) hx hb dX9_findWays_8 (by decide) (fun _ => ?_) (fun h9 => absurd (by decide) h9)
  refine lv_iconst (v := 0) hx hb dX9_findWays_22 (by decide) ?_
  exact r_z hx hb hr hlocks rfl rfl dX9_findWays_23
set_option maxRecDepth 20000 in
set_option maxHeartbeats 2000000 in
theorem c_findEdge (l : Launch) (D : va_G) (E : Nat → ClassId) (a : Nat) (p_tape : Nat) (p_graph : Nat) (p_reader : Nat) (p_ahead : Nat) (p_back : Nat) (p_trail : Nat) (p_landmarks : Nat) (p_hierarchy : Nat) (p_route : Nat) (p_scratch : Nat) (p_toldRow : Nat) (h_net : Nat) (h_ranks : Nat) (h_row : Nat) (h_witnesses : Nat) (h_contractedBeside : Nat) (h_wantedFrom : Nat) (h_wantedTo : Nat) (v : Int32) (d : Int32) (i : Int32) : KR l yX9_findEdge cX9_findEdge 4 (some .int) 12 400 D E [.ref a, .int v, .int d, .int i] [(a, .inr (9, [.ref p_tape, .ref p_graph, .ref p_reader, .ref p_ahead, .ref p_back, .ref p_trail, .ref p_landmarks, .ref p_hierarchy, .ref p_route, .ref p_scratch, .ref p_toldRow, .int 0, .int 0])), (p_hierarchy, .inr (1, [.ref h_net, .ref h_ranks, .ref h_row, .int 0, .int 0, .int 0, .int 4, .int 2, .int 1, .ref h_witnesses, .ref h_contractedBeside, .ref h_wantedFrom, .ref h_wantedTo, .int 0]))] (some (.int (-1))) := by
  refine KR.of (by decide) (Nat.le_of_ble_eq_true rfl) ?_
  intro p e s m below meth c ls hx hb hr hts hml hown hlocks hK hP hl
  have hown : s.vm.findClass RX9 = some m.cls := hown
  have hl : lv_has ls 4 [(0, .ref a), (1, .int v), (2, .int d), (3, .int i)] := hl
  refine lv_aload_n hx hb dX9_findEdge_0 rfl (lv_at hl 0 rfl) ?_
  refine va_get (D := D) (ci := 9) (v := .ref p_hierarchy) (C := RX9) (T := TX9) (N := 13) hx hb hts inX9 hown hK hP 0 rfl rfl 7 (by decide) (hts _ b_488) (fun _ h9 => h9) rfl dX9_findEdge_1 ?_
  refine va_get (D := D) (ci := 1) (v := .int 0) (C := RX1) (T := TX1) (N := 14) hx hb hts inX1 hown hK hP 1 rfl rfl 3 (by decide) (hts _ b_365) (fun _ h9 => h9) rfl dX9_findEdge_4 ?_
  refine lv_if_eq (tgt := 38) hx hb dX9_findEdge_7 (by decide) (fun _ => ?_) (fun h9 => absurd (by decide) h9)
  refine lv_iconst (v := -1) hx hb dX9_findEdge_38 (by decide) ?_
  exact r_i hx hb hr hlocks rfl dX9_findEdge_39
set_option maxRecDepth 20000 in
set_option maxHeartbeats 2000000 in
theorem c_place (l : Launch) (D : va_G) (E : Nat → ClassId) (a : Nat) (p_tape : Nat) (p_graph : Nat) (p_reader : Nat) (p_ahead : Nat) (p_back : Nat) (p_trail : Nat) (p_landmarks : Nat) (p_hierarchy : Nat) (p_route : Nat) (p_scratch : Nat) (p_toldRow : Nat) (e_tape : Nat) (e_graph : Nat) : KR l yX9_place cX9_place 1 (some .int) 12 400 D E [.ref a] [(a, .inr (9, [.ref p_tape, .ref p_graph, .ref p_reader, .ref p_ahead, .ref p_back, .ref p_trail, .ref p_landmarks, .ref p_hierarchy, .ref p_route, .ref p_scratch, .ref p_toldRow, .int 0, .int 0])), (p_reader, .inr (4, [.ref e_tape, .ref e_graph, .int 0, .int 0, .int 0, .int (-1), .int 0, .int 0, .long 0]))] (some (.int (-1))) := by
  refine KR.of (by decide) (Nat.le_of_ble_eq_true rfl) ?_
  intro p e s m below meth c ls hx hb hr hts hml hown hlocks hK hP hl
  have hown : s.vm.findClass RX9 = some m.cls := hown
  have hl : lv_has ls 1 [(0, .ref a)] := hl
  refine lv_aload_n hx hb dX9_place_0 rfl (lv_at hl 0 rfl) ?_
  refine va_get (D := D) (ci := 9) (v := .ref p_reader) (C := RX9) (T := TX9) (N := 13) hx hb hts inX9 hown hK hP 0 rfl rfl 2 (by decide) (hts _ b_483) (fun _ h9 => h9) rfl dX9_place_1 ?_
  refine va_get (D := D) (ci := 4) (v := .int (-1)) (C := RX4) (T := TX4) (N := 9) hx hb hts inX4 hown hK hP 1 rfl rfl 5 (by decide) (hts _ b_237) (fun _ h9 => h9) rfl dX9_place_4 ?_
  exact r_i hx hb hr hlocks rfl dX9_place_7
set_option maxRecDepth 20000 in
set_option maxHeartbeats 2000000 in
theorem c_about (l : Launch) (D : va_G) (E : Nat → ClassId) (a : Nat) (p_tape : Nat) (p_graph : Nat) (p_reader : Nat) (p_ahead : Nat) (p_back : Nat) (p_trail : Nat) (p_landmarks : Nat) (p_hierarchy : Nat) (p_route : Nat) (p_scratch : Nat) (p_toldRow : Nat) (g_xs : Nat) (g_ys : Nat) (g_potentials : Nat) (g_tails : Nat) (g_heads : Nat) (g_weights : Nat) (g_net : Nat) (k : Int32) (w : Int32) : KR l yX9_about cX9_about 3 (some .int) 25 821 D E [.ref a, .int k, .int w] [(a, .inr (9, [.ref p_tape, .ref p_graph, .ref p_reader, .ref p_ahead, .ref p_back, .ref p_trail, .ref p_landmarks, .ref p_hierarchy, .ref p_route, .ref p_scratch, .ref p_toldRow, .int 0, .int 0])), (p_graph, .inr (0, [.ref g_xs, .ref g_ys, .ref g_potentials, .ref g_tails, .ref g_heads, .ref g_weights, .ref g_net, .int 0, .int 0, .long 0]))] (some (.int (-1))) := by
  refine KR.of (by decide) (Nat.le_of_ble_eq_true rfl) ?_
  intro p e s m below meth c ls hx hb hr hts hml hown hlocks hK hP hl
  have hown : s.vm.findClass RX9 = some m.cls := hown
  have hl : lv_has ls 3 [(0, .ref a), (1, .int k), (2, .int w)] := hl
  refine lv_iload_n hx hb dX9_about_0 rfl (lv_at hl 2 rfl) ?_
  refine lv_if_eq (tgt := 9) hx hb dX9_about_1 (by decide) (fun c1 => ?_) (fun c1 => ?_)
  · refine lv_aload_n hx hb dX9_about_9 rfl (lv_at hl 0 rfl) ?_
    refine va_get (D := D) (ci := 9) (v := .ref p_graph) (C := RX9) (T := TX9) (N := 13) hx hb hts inX9 hown hK hP 0 rfl rfl 1 (by decide) (hts _ b_482) (fun _ h9 => h9) rfl dX9_about_10 ?_
    refine lv_iload_n hx hb dX9_about_13 rfl (lv_at hl 1 rfl) ?_
    refine k_RV (As := [.int k]) (rest := []) (ci := 0) (q0 := 1) ⟨hx, hb, hml, hown, hts⟩ (c_hasArc l D E p_graph g_xs g_ys g_potentials g_tails g_heads g_weights g_net k) b_678 b_679 b_680 b_80 b_681 ⟨rfl, hd_X0_hasArc⟩ ⟨⟨by decide, by decide⟩, by decide, by decide⟩ hK hP [1] rfl rfl rfl rfl hl.1 (Nat.le_of_ble_eq_true rfl) dX9_about_14 ?_
    refine lv_if_eq (tgt := 48) hx hb dX9_about_17 (by decide) (fun _ => ?_) (fun h9 => absurd (by decide) h9)
    refine lv_iconst (v := -1) hx hb dX9_about_48 (by decide) ?_
    exact r_i hx hb hr hlocks rfl dX9_about_49
  · refine lv_iload_n hx hb dX9_about_4 rfl (lv_at hl 2 rfl) ?_
    refine lv_iconst (v := 1) hx hb dX9_about_5 (by decide) ?_
    refine lv_icmp_ne (tgt := 50) hx hb dX9_about_6 (by decide) (fun c2 => ?_) (fun c2 => ?_)
    · refine lv_aload_n hx hb dX9_about_50 rfl (lv_at hl 0 rfl) ?_
      refine va_get (D := D) (ci := 9) (v := .ref p_graph) (C := RX9) (T := TX9) (N := 13) hx hb hts inX9 hown hK hP 0 rfl rfl 1 (by decide) (hts _ b_482) (fun _ h9 => h9) rfl dX9_about_51 ?_
      refine lv_iload_n hx hb dX9_about_54 rfl (lv_at hl 1 rfl) ?_
      refine k_RV (As := [.int k]) (rest := []) (ci := 0) (q0 := 1) ⟨hx, hb, hml, hown, hts⟩ (c_hasNode l D E p_graph g_xs g_ys g_potentials g_tails g_heads g_weights g_net k) b_682 b_683 b_684 b_80 b_685 ⟨rfl, hd_X0_hasNode⟩ ⟨⟨by decide, by decide⟩, by decide, by decide⟩ hK hP [1] rfl rfl rfl rfl hl.1 (Nat.le_of_ble_eq_true rfl) dX9_about_55 ?_
      refine lv_if_ne (tgt := 63) hx hb dX9_about_58 (by decide) (fun h9 => absurd h9 (by decide)) (fun _ => ?_)
      refine lv_iconst (v := -1) hx hb dX9_about_61 (by decide) ?_
      exact r_i hx hb hr hlocks rfl dX9_about_62
    · refine lv_aload_n hx hb dX9_about_9 rfl (lv_at hl 0 rfl) ?_
      refine va_get (D := D) (ci := 9) (v := .ref p_graph) (C := RX9) (T := TX9) (N := 13) hx hb hts inX9 hown hK hP 0 rfl rfl 1 (by decide) (hts _ b_482) (fun _ h9 => h9) rfl dX9_about_10 ?_
      refine lv_iload_n hx hb dX9_about_13 rfl (lv_at hl 1 rfl) ?_
      refine k_RV (As := [.int k]) (rest := []) (ci := 0) (q0 := 1) ⟨hx, hb, hml, hown, hts⟩ (c_hasArc l D E p_graph g_xs g_ys g_potentials g_tails g_heads g_weights g_net k) b_678 b_679 b_680 b_80 b_681 ⟨rfl, hd_X0_hasArc⟩ ⟨⟨by decide, by decide⟩, by decide, by decide⟩ hK hP [1] rfl rfl rfl rfl hl.1 (Nat.le_of_ble_eq_true rfl) dX9_about_14 ?_
      refine lv_if_eq (tgt := 48) hx hb dX9_about_17 (by decide) (fun _ => ?_) (fun h9 => absurd (by decide) h9)
      refine lv_iconst (v := -1) hx hb dX9_about_48 (by decide) ?_
      exact r_i hx hb hr hlocks rfl dX9_about_49
set_option maxRecDepth 20000 in
set_option maxHeartbeats 2000000 in
theorem c_weight (l : Launch) (D : va_G) (E : Nat → ClassId) (a : Nat) (p_tape : Nat) (p_graph : Nat) (p_reader : Nat) (p_ahead : Nat) (p_back : Nat) (p_trail : Nat) (p_landmarks : Nat) (p_hierarchy : Nat) (p_route : Nat) (p_scratch : Nat) (p_toldRow : Nat) (g_xs : Nat) (g_ys : Nat) (g_potentials : Nat) (g_tails : Nat) (g_heads : Nat) (g_weights : Nat) (g_net : Nat) (k : Int32) : KR l yX9_weight cX9_weight 2 (some .long) 25 821 D E [.ref a, .int k] [(a, .inr (9, [.ref p_tape, .ref p_graph, .ref p_reader, .ref p_ahead, .ref p_back, .ref p_trail, .ref p_landmarks, .ref p_hierarchy, .ref p_route, .ref p_scratch, .ref p_toldRow, .int 0, .int 0])), (p_graph, .inr (0, [.ref g_xs, .ref g_ys, .ref g_potentials, .ref g_tails, .ref g_heads, .ref g_weights, .ref g_net, .int 0, .int 0, .long 0]))] (some (.long (-1))) := by
  refine KR.of (by decide) (Nat.le_of_ble_eq_true rfl) ?_
  intro p e s m below meth c ls hx hb hr hts hml hown hlocks hK hP hl
  have hown : s.vm.findClass RX9 = some m.cls := hown
  have hl : lv_has ls 2 [(0, .ref a), (1, .int k)] := hl
  refine lv_aload_n hx hb dX9_weight_0 rfl (lv_at hl 0 rfl) ?_
  refine va_get (D := D) (ci := 9) (v := .ref p_graph) (C := RX9) (T := TX9) (N := 13) hx hb hts inX9 hown hK hP 0 rfl rfl 1 (by decide) (hts _ b_482) (fun _ h9 => h9) rfl dX9_weight_1 ?_
  refine lv_iload_n hx hb dX9_weight_4 rfl (lv_at hl 1 rfl) ?_
  refine k_RV (As := [.int k]) (rest := []) (ci := 0) (q0 := 1) ⟨hx, hb, hml, hown, hts⟩ (c_hasArc l D E p_graph g_xs g_ys g_potentials g_tails g_heads g_weights g_net k) b_678 b_679 b_680 b_80 b_681 ⟨rfl, hd_X0_hasArc⟩ ⟨⟨by decide, by decide⟩, by decide, by decide⟩ hK hP [1] rfl rfl rfl rfl hl.1 (Nat.le_of_ble_eq_true rfl) dX9_weight_5 ?_
  refine lv_if_eq (tgt := 23) hx hb dX9_weight_8 (by decide) (fun _ => ?_) (fun h9 => absurd (by decide) h9)
  refine lv_ldc2 hx hb hown (hts _ b_694) dX9_weight_23 ?_
  exact r_l hx hb hr hlocks rfl dX9_weight_26
set_option maxRecDepth 20000 in
set_option maxHeartbeats 2000000 in
theorem c_settled (l : Launch) (D : va_G) (E : Nat → ClassId) (a : Nat) (p_tape : Nat) (p_graph : Nat) (p_reader : Nat) (p_ahead : Nat) (p_back : Nat) (p_trail : Nat) (p_landmarks : Nat) (p_hierarchy : Nat) (p_route : Nat) (p_scratch : Nat) (p_toldRow : Nat) (r_nodes : Nat) (r_lengths : Nat) (r_counts : Nat) (r_seen : Nat) (k : Int32) : KR l yX9_settled cX9_settled 2 (some .int) 25 821 D E [.ref a, .int k] [(a, .inr (9, [.ref p_tape, .ref p_graph, .ref p_reader, .ref p_ahead, .ref p_back, .ref p_trail, .ref p_landmarks, .ref p_hierarchy, .ref p_route, .ref p_scratch, .ref p_toldRow, .int 0, .int 0])), (p_trail, .inr (7, [.ref r_nodes, .ref r_lengths, .ref r_counts, .int 0, .ref r_seen]))] (some (.int (-1))) := by
  refine KR.of (by decide) (Nat.le_of_ble_eq_true rfl) ?_
  intro p e s m below meth c ls hx hb hr hts hml hown hlocks hK hP hl
  have hown : s.vm.findClass RX9 = some m.cls := hown
  have hl : lv_has ls 2 [(0, .ref a), (1, .int k)] := hl
  refine lv_aload_n hx hb dX9_settled_0 rfl (lv_at hl 0 rfl) ?_
  refine va_get (D := D) (ci := 9) (v := .ref p_trail) (C := RX9) (T := TX9) (N := 13) hx hb hts inX9 hown hK hP 0 rfl rfl 5 (by decide) (hts _ b_486) (fun _ h9 => h9) rfl dX9_settled_1 ?_
  refine lv_iload_n hx hb dX9_settled_4 rfl (lv_at hl 1 rfl) ?_
  refine k_RV (As := [.int k]) (rest := []) (ci := 7) (q0 := 1) ⟨hx, hb, hml, hown, hts⟩ (c_has l D E p_trail r_nodes r_lengths r_counts r_seen k) b_703 b_704 b_705 b_84 b_706 ⟨rfl, hd_X7_has⟩ ⟨⟨by decide, by decide⟩, by decide, by decide⟩ hK hP [1] rfl rfl rfl rfl hl.1 (Nat.le_of_ble_eq_true rfl) dX9_settled_5 ?_
  refine lv_if_eq (tgt := 23) hx hb dX9_settled_8 (by decide) (fun _ => ?_) (fun h9 => absurd (by decide) h9)
  refine lv_iconst (v := -1) hx hb dX9_settled_23 (by decide) ?_
  exact r_i hx hb hr hlocks rfl dX9_settled_24
set_option maxRecDepth 20000 in
set_option maxHeartbeats 2000000 in
theorem c_length (l : Launch) (D : va_G) (E : Nat → ClassId) (a : Nat) (p_tape : Nat) (p_graph : Nat) (p_reader : Nat) (p_ahead : Nat) (p_back : Nat) (p_trail : Nat) (p_landmarks : Nat) (p_hierarchy : Nat) (p_route : Nat) (p_scratch : Nat) (p_toldRow : Nat) (r_nodes : Nat) (r_lengths : Nat) (r_counts : Nat) (r_seen : Nat) (k : Int32) : KR l yX9_length cX9_length 2 (some .long) 25 821 D E [.ref a, .int k] [(a, .inr (9, [.ref p_tape, .ref p_graph, .ref p_reader, .ref p_ahead, .ref p_back, .ref p_trail, .ref p_landmarks, .ref p_hierarchy, .ref p_route, .ref p_scratch, .ref p_toldRow, .int 0, .int 0])), (p_trail, .inr (7, [.ref r_nodes, .ref r_lengths, .ref r_counts, .int 0, .ref r_seen]))] (some (.long (-1))) := by
  refine KR.of (by decide) (Nat.le_of_ble_eq_true rfl) ?_
  intro p e s m below meth c ls hx hb hr hts hml hown hlocks hK hP hl
  have hown : s.vm.findClass RX9 = some m.cls := hown
  have hl : lv_has ls 2 [(0, .ref a), (1, .int k)] := hl
  refine lv_aload_n hx hb dX9_length_0 rfl (lv_at hl 0 rfl) ?_
  refine va_get (D := D) (ci := 9) (v := .ref p_trail) (C := RX9) (T := TX9) (N := 13) hx hb hts inX9 hown hK hP 0 rfl rfl 5 (by decide) (hts _ b_486) (fun _ h9 => h9) rfl dX9_length_1 ?_
  refine lv_iload_n hx hb dX9_length_4 rfl (lv_at hl 1 rfl) ?_
  refine k_RV (As := [.int k]) (rest := []) (ci := 7) (q0 := 1) ⟨hx, hb, hml, hown, hts⟩ (c_has l D E p_trail r_nodes r_lengths r_counts r_seen k) b_703 b_704 b_705 b_84 b_706 ⟨rfl, hd_X7_has⟩ ⟨⟨by decide, by decide⟩, by decide, by decide⟩ hK hP [1] rfl rfl rfl rfl hl.1 (Nat.le_of_ble_eq_true rfl) dX9_length_5 ?_
  refine lv_if_eq (tgt := 23) hx hb dX9_length_8 (by decide) (fun _ => ?_) (fun h9 => absurd (by decide) h9)
  refine lv_ldc2 hx hb hown (hts _ b_694) dX9_length_23 ?_
  exact r_l hx hb hr hlocks rfl dX9_length_26
set_option maxRecDepth 20000 in
set_option maxHeartbeats 2000000 in
theorem c_count (l : Launch) (D : va_G) (E : Nat → ClassId) (a : Nat) (p_tape : Nat) (p_graph : Nat) (p_reader : Nat) (p_ahead : Nat) (p_back : Nat) (p_trail : Nat) (p_landmarks : Nat) (p_hierarchy : Nat) (p_route : Nat) (p_scratch : Nat) (p_toldRow : Nat) (r_nodes : Nat) (r_lengths : Nat) (r_counts : Nat) (r_seen : Nat) (k : Int32) : KR l yX9_count cX9_count 2 (some .int) 25 821 D E [.ref a, .int k] [(a, .inr (9, [.ref p_tape, .ref p_graph, .ref p_reader, .ref p_ahead, .ref p_back, .ref p_trail, .ref p_landmarks, .ref p_hierarchy, .ref p_route, .ref p_scratch, .ref p_toldRow, .int 0, .int 0])), (p_trail, .inr (7, [.ref r_nodes, .ref r_lengths, .ref r_counts, .int 0, .ref r_seen]))] (some (.int (-1))) := by
  refine KR.of (by decide) (Nat.le_of_ble_eq_true rfl) ?_
  intro p e s m below meth c ls hx hb hr hts hml hown hlocks hK hP hl
  have hown : s.vm.findClass RX9 = some m.cls := hown
  have hl : lv_has ls 2 [(0, .ref a), (1, .int k)] := hl
  refine lv_aload_n hx hb dX9_count_0 rfl (lv_at hl 0 rfl) ?_
  refine va_get (D := D) (ci := 9) (v := .ref p_trail) (C := RX9) (T := TX9) (N := 13) hx hb hts inX9 hown hK hP 0 rfl rfl 5 (by decide) (hts _ b_486) (fun _ h9 => h9) rfl dX9_count_1 ?_
  refine lv_iload_n hx hb dX9_count_4 rfl (lv_at hl 1 rfl) ?_
  refine k_RV (As := [.int k]) (rest := []) (ci := 7) (q0 := 1) ⟨hx, hb, hml, hown, hts⟩ (c_has l D E p_trail r_nodes r_lengths r_counts r_seen k) b_703 b_704 b_705 b_84 b_706 ⟨rfl, hd_X7_has⟩ ⟨⟨by decide, by decide⟩, by decide, by decide⟩ hK hP [1] rfl rfl rfl rfl hl.1 (Nat.le_of_ble_eq_true rfl) dX9_count_5 ?_
  refine lv_if_eq (tgt := 23) hx hb dX9_count_8 (by decide) (fun _ => ?_) (fun h9 => absurd (by decide) h9)
  refine lv_iconst (v := -1) hx hb dX9_count_23 (by decide) ?_
  exact r_i hx hb hr hlocks rfl dX9_count_24
set_option maxRecDepth 20000 in
set_option maxHeartbeats 2000000 in
theorem c_distance (l : Launch) (D : va_G) (E : Nat → ClassId) (a : Nat) (p_tape : Nat) (p_graph : Nat) (p_reader : Nat) (p_ahead : Nat) (p_back : Nat) (p_trail : Nat) (p_landmarks : Nat) (p_hierarchy : Nat) (p_route : Nat) (p_scratch : Nat) (p_toldRow : Nat) (g_xs : Nat) (g_ys : Nat) (g_potentials : Nat) (g_tails : Nat) (g_heads : Nat) (g_weights : Nat) (g_net : Nat) (k : Int32) (w : Int32) : KR l yX9_distance cX9_distance 3 (some .long) 38 1243 D E [.ref a, .int k, .int w] [(a, .inr (9, [.ref p_tape, .ref p_graph, .ref p_reader, .ref p_ahead, .ref p_back, .ref p_trail, .ref p_landmarks, .ref p_hierarchy, .ref p_route, .ref p_scratch, .ref p_toldRow, .int 0, .int 0])), (p_graph, .inr (0, [.ref g_xs, .ref g_ys, .ref g_potentials, .ref g_tails, .ref g_heads, .ref g_weights, .ref g_net, .int 0, .int 0, .long 0]))] (some (.long (-1))) := by
  refine KR.of (by decide) (Nat.le_of_ble_eq_true rfl) ?_
  intro p e s m below meth c ls hx hb hr hts hml hown hlocks hK hP hl
  have hown : s.vm.findClass RX9 = some m.cls := hown
  have hl : lv_has ls 3 [(0, .ref a), (1, .int k), (2, .int w)] := hl
  refine lv_aload_n hx hb dX9_distance_0 rfl (lv_at hl 0 rfl) ?_
  refine lv_iload_n hx hb dX9_distance_1 rfl (lv_at hl 1 rfl) ?_
  refine lv_iload_n hx hb dX9_distance_2 rfl (lv_at hl 2 rfl) ?_
  refine k_RV (As := [.int k, .int w]) (rest := []) (ci := 9) (q0 := 0) ⟨hx, hb, hml, hown, hts⟩ (c_findWays l D E a p_tape p_graph p_reader p_ahead p_back p_trail p_landmarks p_hierarchy p_route p_scratch p_toldRow g_xs g_ys g_potentials g_tails g_heads g_weights g_net k w) b_719 b_721 b_13 b_78 b_722 ⟨rfl, hd_X9_findWays⟩ ⟨⟨by decide, by decide⟩, by decide, by decide⟩ hK hP [0, 1] rfl rfl rfl rfl hl.1 (Nat.le_of_ble_eq_true rfl) dX9_distance_3 ?_
  refine lv_if_eq (tgt := 21) hx hb dX9_distance_6 (by decide) (fun _ => ?_) (fun h9 => absurd (by decide) h9)
  refine lv_ldc2 hx hb hown (hts _ b_694) dX9_distance_21 ?_
  exact r_l hx hb hr hlocks rfl dX9_distance_24
set_option maxRecDepth 20000 in
set_option maxHeartbeats 2000000 in
theorem c_arcs (l : Launch) (D : va_G) (E : Nat → ClassId) (a : Nat) (p_tape : Nat) (p_graph : Nat) (p_reader : Nat) (p_ahead : Nat) (p_back : Nat) (p_trail : Nat) (p_landmarks : Nat) (p_hierarchy : Nat) (p_route : Nat) (p_scratch : Nat) (p_toldRow : Nat) (g_xs : Nat) (g_ys : Nat) (g_potentials : Nat) (g_tails : Nat) (g_heads : Nat) (g_weights : Nat) (g_net : Nat) (k : Int32) (w : Int32) : KR l yX9_arcs cX9_arcs 3 (some .int) 38 1243 D E [.ref a, .int k, .int w] [(a, .inr (9, [.ref p_tape, .ref p_graph, .ref p_reader, .ref p_ahead, .ref p_back, .ref p_trail, .ref p_landmarks, .ref p_hierarchy, .ref p_route, .ref p_scratch, .ref p_toldRow, .int 0, .int 0])), (p_graph, .inr (0, [.ref g_xs, .ref g_ys, .ref g_potentials, .ref g_tails, .ref g_heads, .ref g_weights, .ref g_net, .int 0, .int 0, .long 0]))] (some (.int (-1))) := by
  refine KR.of (by decide) (Nat.le_of_ble_eq_true rfl) ?_
  intro p e s m below meth c ls hx hb hr hts hml hown hlocks hK hP hl
  have hown : s.vm.findClass RX9 = some m.cls := hown
  have hl : lv_has ls 3 [(0, .ref a), (1, .int k), (2, .int w)] := hl
  refine lv_aload_n hx hb dX9_arcs_0 rfl (lv_at hl 0 rfl) ?_
  refine lv_iload_n hx hb dX9_arcs_1 rfl (lv_at hl 1 rfl) ?_
  refine lv_iload_n hx hb dX9_arcs_2 rfl (lv_at hl 2 rfl) ?_
  refine k_RV (As := [.int k, .int w]) (rest := []) (ci := 9) (q0 := 0) ⟨hx, hb, hml, hown, hts⟩ (c_findWays l D E a p_tape p_graph p_reader p_ahead p_back p_trail p_landmarks p_hierarchy p_route p_scratch p_toldRow g_xs g_ys g_potentials g_tails g_heads g_weights g_net k w) b_719 b_721 b_13 b_78 b_722 ⟨rfl, hd_X9_findWays⟩ ⟨⟨by decide, by decide⟩, by decide, by decide⟩ hK hP [0, 1] rfl rfl rfl rfl hl.1 (Nat.le_of_ble_eq_true rfl) dX9_arcs_3 ?_
  refine lv_if_eq (tgt := 21) hx hb dX9_arcs_6 (by decide) (fun _ => ?_) (fun h9 => absurd (by decide) h9)
  refine lv_iconst (v := -1) hx hb dX9_arcs_21 (by decide) ?_
  exact r_i hx hb hr hlocks rfl dX9_arcs_22
set_option maxRecDepth 20000 in
set_option maxHeartbeats 2000000 in
theorem c_inconsistent (l : Launch) (D : va_G) (E : Nat → ClassId) (a : Nat) (p_tape : Nat) (p_graph : Nat) (p_reader : Nat) (p_ahead : Nat) (p_back : Nat) (p_trail : Nat) (p_landmarks : Nat) (p_hierarchy : Nat) (p_route : Nat) (p_scratch : Nat) (p_toldRow : Nat) (g_xs : Nat) (g_ys : Nat) (g_potentials : Nat) (g_tails : Nat) (g_heads : Nat) (g_weights : Nat) (g_net : Nat) : KR l yX9_inconsistent cX9_inconsistent 1 (some .int) 25 822 D E [.ref a] [(a, .inr (9, [.ref p_tape, .ref p_graph, .ref p_reader, .ref p_ahead, .ref p_back, .ref p_trail, .ref p_landmarks, .ref p_hierarchy, .ref p_route, .ref p_scratch, .ref p_toldRow, .int 0, .int 0])), (p_graph, .inr (0, [.ref g_xs, .ref g_ys, .ref g_potentials, .ref g_tails, .ref g_heads, .ref g_weights, .ref g_net, .int 0, .int 0, .long 0]))] (some (.int (-1))) := by
  refine KR.of (by decide) (Nat.le_of_ble_eq_true rfl) ?_
  intro p e s m below meth c ls hx hb hr hts hml hown hlocks hK hP hl
  have hown : s.vm.findClass RX9 = some m.cls := hown
  have hl : lv_has ls 1 [(0, .ref a)] := hl
  refine lv_aload_n hx hb dX9_inconsistent_0 rfl (lv_at hl 0 rfl) ?_
  refine va_get (D := D) (ci := 9) (v := .ref p_graph) (C := RX9) (T := TX9) (N := 13) hx hb hts inX9 hown hK hP 0 rfl rfl 1 (by decide) (hts _ b_482) (fun _ h9 => h9) rfl dX9_inconsistent_1 ?_
  refine lv_aload_n hx hb dX9_inconsistent_4 rfl (lv_at hl 0 rfl) ?_
  refine va_get (D := D) (ci := 9) (v := .ref p_graph) (C := RX9) (T := TX9) (N := 13) hx hb hts inX9 hown hK hP 0 rfl rfl 1 (by decide) (hts _ b_482) (fun _ h9 => h9) rfl dX9_inconsistent_5 ?_
  refine va_get (D := D) (ci := 0) (v := .ref g_potentials) (C := RX0) (T := TX0) (N := 10) hx hb hts inX0 hown hK hP 1 rfl rfl 2 (by decide) (hts _ b_186) (fun _ h9 => h9) rfl dX9_inconsistent_8 ?_
  refine k_RV (As := [.ref g_potentials]) (rest := []) (ci := 0) (q0 := 1) ⟨hx, hb, hml, hown, hts⟩ (c_firstInc l D E p_graph g_potentials g_xs g_ys g_potentials g_tails g_heads g_weights g_net) b_751 b_752 b_753 b_80 b_754 ⟨rfl, hd_X0_firstInconsistent⟩ ⟨⟨by decide, by decide⟩, by decide, by decide⟩ hK hP [1] rfl rfl rfl rfl hl.1 (Nat.le_of_ble_eq_true rfl) dX9_inconsistent_11 ?_
  exact r_i hx hb hr hlocks rfl dX9_inconsistent_14
set_option maxRecDepth 20000 in
set_option maxHeartbeats 2000000 in
theorem c_bound (l : Launch) (D : va_G) (E : Nat → ClassId) (a : Nat) (p_tape : Nat) (p_graph : Nat) (p_reader : Nat) (p_ahead : Nat) (p_back : Nat) (p_trail : Nat) (p_landmarks : Nat) (p_hierarchy : Nat) (p_route : Nat) (p_scratch : Nat) (p_toldRow : Nat) (g_xs : Nat) (g_ys : Nat) (g_potentials : Nat) (g_tails : Nat) (g_heads : Nat) (g_weights : Nat) (g_net : Nat) (k : Int32) (w : Int32) : KR l yX9_bound cX9_bound 3 (some .long) 25 821 D E [.ref a, .int k, .int w] [(a, .inr (9, [.ref p_tape, .ref p_graph, .ref p_reader, .ref p_ahead, .ref p_back, .ref p_trail, .ref p_landmarks, .ref p_hierarchy, .ref p_route, .ref p_scratch, .ref p_toldRow, .int 0, .int 0])), (p_graph, .inr (0, [.ref g_xs, .ref g_ys, .ref g_potentials, .ref g_tails, .ref g_heads, .ref g_weights, .ref g_net, .int 0, .int 0, .long 0]))] (some (.long (-1))) := by
  refine KR.of (by decide) (Nat.le_of_ble_eq_true rfl) ?_
  intro p e s m below meth c ls hx hb hr hts hml hown hlocks hK hP hl
  have hown : s.vm.findClass RX9 = some m.cls := hown
  have hl : lv_has ls 3 [(0, .ref a), (1, .int k), (2, .int w)] := hl
  refine lv_aload_n hx hb dX9_bound_0 rfl (lv_at hl 0 rfl) ?_
  refine va_get (D := D) (ci := 9) (v := .ref p_graph) (C := RX9) (T := TX9) (N := 13) hx hb hts inX9 hown hK hP 0 rfl rfl 1 (by decide) (hts _ b_482) (fun _ h9 => h9) rfl dX9_bound_1 ?_
  refine lv_iload_n hx hb dX9_bound_4 rfl (lv_at hl 1 rfl) ?_
  refine k_RV (As := [.int k]) (rest := []) (ci := 0) (q0 := 1) ⟨hx, hb, hml, hown, hts⟩ (c_hasNode l D E p_graph g_xs g_ys g_potentials g_tails g_heads g_weights g_net k) b_682 b_683 b_684 b_80 b_685 ⟨rfl, hd_X0_hasNode⟩ ⟨⟨by decide, by decide⟩, by decide, by decide⟩ hK hP [1] rfl rfl rfl rfl hl.1 (Nat.le_of_ble_eq_true rfl) dX9_bound_5 ?_
  refine lv_if_eq (tgt := 32) hx hb dX9_bound_8 (by decide) (fun _ => ?_) (fun h9 => absurd (by decide) h9)
  refine lv_ldc2 hx hb hown (hts _ b_694) dX9_bound_32 ?_
  exact r_l hx hb hr hlocks rfl dX9_bound_35
set_option maxRecDepth 20000 in
set_option maxHeartbeats 2000000 in
theorem c_ready (l : Launch) (D : va_G) (E : Nat → ClassId) (a : Nat) (p_tape : Nat) (p_graph : Nat) (p_reader : Nat) (p_ahead : Nat) (p_back : Nat) (p_trail : Nat) (p_landmarks : Nat) (p_hierarchy : Nat) (p_route : Nat) (p_scratch : Nat) (p_toldRow : Nat) (h_net : Nat) (h_ranks : Nat) (h_row : Nat) (h_witnesses : Nat) (h_contractedBeside : Nat) (h_wantedFrom : Nat) (h_wantedTo : Nat) : KR l yX9_ready cX9_ready 1 (some .int) 12 400 D E [.ref a] [(a, .inr (9, [.ref p_tape, .ref p_graph, .ref p_reader, .ref p_ahead, .ref p_back, .ref p_trail, .ref p_landmarks, .ref p_hierarchy, .ref p_route, .ref p_scratch, .ref p_toldRow, .int 0, .int 0])), (p_hierarchy, .inr (1, [.ref h_net, .ref h_ranks, .ref h_row, .int 0, .int 0, .int 0, .int 4, .int 2, .int 1, .ref h_witnesses, .ref h_contractedBeside, .ref h_wantedFrom, .ref h_wantedTo, .int 0]))] (some (.int 0)) := by
  refine KR.of (by decide) (Nat.le_of_ble_eq_true rfl) ?_
  intro p e s m below meth c ls hx hb hr hts hml hown hlocks hK hP hl
  have hown : s.vm.findClass RX9 = some m.cls := hown
  have hl : lv_has ls 1 [(0, .ref a)] := hl
  refine lv_aload_n hx hb dX9_ready_0 rfl (lv_at hl 0 rfl) ?_
  refine va_get (D := D) (ci := 9) (v := .ref p_hierarchy) (C := RX9) (T := TX9) (N := 13) hx hb hts inX9 hown hK hP 0 rfl rfl 7 (by decide) (hts _ b_488) (fun _ h9 => h9) rfl dX9_ready_1 ?_
  refine va_get (D := D) (ci := 1) (v := .int 0) (C := RX1) (T := TX1) (N := 14) hx hb hts inX1 hown hK hP 1 rfl rfl 3 (by decide) (hts _ b_365) (fun _ h9 => h9) rfl dX9_ready_4 ?_
  refine lv_if_eq (tgt := 14) hx hb dX9_ready_7 (by decide) (fun _ => ?_) (fun h9 => absurd (by decide) h9)
  refine lv_iconst (v := 0) hx hb dX9_ready_14 (by decide) ?_
  exact r_i hx hb hr hlocks rfl dX9_ready_15
set_option maxRecDepth 20000 in
set_option maxHeartbeats 2000000 in
theorem c_ranked (l : Launch) (D : va_G) (E : Nat → ClassId) (a : Nat) (p_tape : Nat) (p_graph : Nat) (p_reader : Nat) (p_ahead : Nat) (p_back : Nat) (p_trail : Nat) (p_landmarks : Nat) (p_hierarchy : Nat) (p_route : Nat) (p_scratch : Nat) (p_toldRow : Nat) (h_net : Nat) (h_ranks : Nat) (h_row : Nat) (h_witnesses : Nat) (h_contractedBeside : Nat) (h_wantedFrom : Nat) (h_wantedTo : Nat) (k : Int32) : KR l yX9_ranked cX9_ranked 2 (some .int) 12 400 D E [.ref a, .int k] [(a, .inr (9, [.ref p_tape, .ref p_graph, .ref p_reader, .ref p_ahead, .ref p_back, .ref p_trail, .ref p_landmarks, .ref p_hierarchy, .ref p_route, .ref p_scratch, .ref p_toldRow, .int 0, .int 0])), (p_hierarchy, .inr (1, [.ref h_net, .ref h_ranks, .ref h_row, .int 0, .int 0, .int 0, .int 4, .int 2, .int 1, .ref h_witnesses, .ref h_contractedBeside, .ref h_wantedFrom, .ref h_wantedTo, .int 0]))] (some (.int (-1))) := by
  refine KR.of (by decide) (Nat.le_of_ble_eq_true rfl) ?_
  intro p e s m below meth c ls hx hb hr hts hml hown hlocks hK hP hl
  have hown : s.vm.findClass RX9 = some m.cls := hown
  have hl : lv_has ls 2 [(0, .ref a), (1, .int k)] := hl
  refine lv_aload_n hx hb dX9_ranked_0 rfl (lv_at hl 0 rfl) ?_
  refine va_get (D := D) (ci := 9) (v := .ref p_hierarchy) (C := RX9) (T := TX9) (N := 13) hx hb hts inX9 hown hK hP 0 rfl rfl 7 (by decide) (hts _ b_488) (fun _ h9 => h9) rfl dX9_ranked_1 ?_
  refine va_get (D := D) (ci := 1) (v := .int 0) (C := RX1) (T := TX1) (N := 14) hx hb hts inX1 hown hK hP 1 rfl rfl 3 (by decide) (hts _ b_365) (fun _ h9 => h9) rfl dX9_ranked_4 ?_
  refine lv_if_eq (tgt := 37) hx hb dX9_ranked_7 (by decide) (fun _ => ?_) (fun h9 => absurd (by decide) h9)
  refine lv_iconst (v := -1) hx hb dX9_ranked_37 (by decide) ?_
  exact r_i hx hb hr hlocks rfl dX9_ranked_38
set_option maxRecDepth 20000 in
set_option maxHeartbeats 2000000 in
theorem c_edge (l : Launch) (D : va_G) (E : Nat → ClassId) (a : Nat) (p_tape : Nat) (p_graph : Nat) (p_reader : Nat) (p_ahead : Nat) (p_back : Nat) (p_trail : Nat) (p_landmarks : Nat) (p_hierarchy : Nat) (p_route : Nat) (p_scratch : Nat) (p_toldRow : Nat) (h_net : Nat) (h_ranks : Nat) (h_row : Nat) (h_witnesses : Nat) (h_contractedBeside : Nat) (h_wantedFrom : Nat) (h_wantedTo : Nat) (k : Int32) (d : Int32) (i : Int32) (w : Int32) : KR l yX9_edge cX9_edge 6 (some .int) 25 823 D E [.ref a, .int k, .int d, .int i, .int w] [(a, .inr (9, [.ref p_tape, .ref p_graph, .ref p_reader, .ref p_ahead, .ref p_back, .ref p_trail, .ref p_landmarks, .ref p_hierarchy, .ref p_route, .ref p_scratch, .ref p_toldRow, .int 0, .int 0])), (p_hierarchy, .inr (1, [.ref h_net, .ref h_ranks, .ref h_row, .int 0, .int 0, .int 0, .int 4, .int 2, .int 1, .ref h_witnesses, .ref h_contractedBeside, .ref h_wantedFrom, .ref h_wantedTo, .int 0]))] (some (.int (-1))) := by
  refine KR.of (by decide) (Nat.le_of_ble_eq_true rfl) ?_
  intro p e s m below meth c ls hx hb hr hts hml hown hlocks hK hP hl
  have hown : s.vm.findClass RX9 = some m.cls := hown
  have hl : lv_has ls 6 [(0, .ref a), (1, .int k), (2, .int d), (3, .int i), (4, .int w)] := hl
  refine lv_aload_n hx hb dX9_edge_0 rfl (lv_at hl 0 rfl) ?_
  refine lv_iload_n hx hb dX9_edge_1 rfl (lv_at hl 1 rfl) ?_
  refine lv_iload_n hx hb dX9_edge_2 rfl (lv_at hl 2 rfl) ?_
  refine lv_iload_n hx hb dX9_edge_3 rfl (lv_at hl 3 rfl) ?_
  refine k_RV (As := [.int k, .int d, .int i]) (rest := []) (ci := 9) (q0 := 0) ⟨hx, hb, hml, hown, hts⟩ (c_findEdge l D E a p_tape p_graph p_reader p_ahead p_back p_trail p_landmarks p_hierarchy p_route p_scratch p_toldRow h_net h_ranks h_row h_witnesses h_contractedBeside h_wantedFrom h_wantedTo k d i) b_798 b_800 b_17 b_78 b_801 ⟨rfl, hd_X9_findEdge⟩ ⟨⟨by decide, by decide⟩, by decide, by decide⟩ hK hP [0, 1] rfl rfl rfl rfl hl.1 (Nat.le_of_ble_eq_true rfl) dX9_edge_4 ?_
  refine lv_istore (lv' := [(5, .int (-1)), (0, .ref a), (1, .int k), (2, .int d), (3, .int i), (4, .int w)]) hx hb dX9_edge_7 hl (by decide) rfl (fun ls hl => ?_)
  refine lv_iload hx hb dX9_edge_9 (lv_at hl 0 rfl) ?_
  refine lv_iconst (v := -1) hx hb dX9_edge_11 (by decide) ?_
  refine lv_icmp_ne (tgt := 17) hx hb dX9_edge_12 (by decide) (fun h9 => absurd h9 (by decide)) (fun _ => ?_)
  refine lv_iconst (v := -1) hx hb dX9_edge_15 (by decide) ?_
  exact r_i hx hb hr hlocks rfl dX9_edge_16
set_option maxRecDepth 20000 in
set_option maxHeartbeats 2000000 in
theorem c_edgeLength (l : Launch) (D : va_G) (E : Nat → ClassId) (a : Nat) (p_tape : Nat) (p_graph : Nat) (p_reader : Nat) (p_ahead : Nat) (p_back : Nat) (p_trail : Nat) (p_landmarks : Nat) (p_hierarchy : Nat) (p_route : Nat) (p_scratch : Nat) (p_toldRow : Nat) (h_net : Nat) (h_ranks : Nat) (h_row : Nat) (h_witnesses : Nat) (h_contractedBeside : Nat) (h_wantedFrom : Nat) (h_wantedTo : Nat) (k : Int32) (d : Int32) (i : Int32) : KR l yX9_edgeLength cX9_edgeLength 5 (some .long) 25 823 D E [.ref a, .int k, .int d, .int i] [(a, .inr (9, [.ref p_tape, .ref p_graph, .ref p_reader, .ref p_ahead, .ref p_back, .ref p_trail, .ref p_landmarks, .ref p_hierarchy, .ref p_route, .ref p_scratch, .ref p_toldRow, .int 0, .int 0])), (p_hierarchy, .inr (1, [.ref h_net, .ref h_ranks, .ref h_row, .int 0, .int 0, .int 0, .int 4, .int 2, .int 1, .ref h_witnesses, .ref h_contractedBeside, .ref h_wantedFrom, .ref h_wantedTo, .int 0]))] (some (.long (-1))) := by
  refine KR.of (by decide) (Nat.le_of_ble_eq_true rfl) ?_
  intro p e s m below meth c ls hx hb hr hts hml hown hlocks hK hP hl
  have hown : s.vm.findClass RX9 = some m.cls := hown
  have hl : lv_has ls 5 [(0, .ref a), (1, .int k), (2, .int d), (3, .int i)] := hl
  refine lv_aload_n hx hb dX9_edgeLength_0 rfl (lv_at hl 0 rfl) ?_
  refine lv_iload_n hx hb dX9_edgeLength_1 rfl (lv_at hl 1 rfl) ?_
  refine lv_iload_n hx hb dX9_edgeLength_2 rfl (lv_at hl 2 rfl) ?_
  refine lv_iload_n hx hb dX9_edgeLength_3 rfl (lv_at hl 3 rfl) ?_
  refine k_RV (As := [.int k, .int d, .int i]) (rest := []) (ci := 9) (q0 := 0) ⟨hx, hb, hml, hown, hts⟩ (c_findEdge l D E a p_tape p_graph p_reader p_ahead p_back p_trail p_landmarks p_hierarchy p_route p_scratch p_toldRow h_net h_ranks h_row h_witnesses h_contractedBeside h_wantedFrom h_wantedTo k d i) b_798 b_800 b_17 b_78 b_801 ⟨rfl, hd_X9_findEdge⟩ ⟨⟨by decide, by decide⟩, by decide, by decide⟩ hK hP [0, 1] rfl rfl rfl rfl hl.1 (Nat.le_of_ble_eq_true rfl) dX9_edgeLength_4 ?_
  refine lv_istore (lv' := [(4, .int (-1)), (0, .ref a), (1, .int k), (2, .int d), (3, .int i)]) hx hb dX9_edgeLength_7 hl (by decide) rfl (fun ls hl => ?_)
  refine lv_iload hx hb dX9_edgeLength_9 (lv_at hl 0 rfl) ?_
  refine lv_iconst (v := -1) hx hb dX9_edgeLength_11 (by decide) ?_
  refine lv_icmp_ne (tgt := 21) hx hb dX9_edgeLength_12 (by decide) (fun h9 => absurd h9 (by decide)) (fun _ => ?_)
  refine lv_ldc2 hx hb hown (hts _ b_694) dX9_edgeLength_15 ?_
  refine lv_goto (tgt := 34) hx hb dX9_edgeLength_18 (by decide) ?_
  exact r_l hx hb hr hlocks rfl dX9_edgeLength_34
set_option maxRecDepth 20000 in
set_option maxHeartbeats 2000000 in
theorem c_told (l : Launch) (D : va_G) (E : Nat → ClassId) (a : Nat) (p_tape : Nat) (p_graph : Nat) (p_reader : Nat) (p_ahead : Nat) (p_back : Nat) (p_trail : Nat) (p_landmarks : Nat) (p_hierarchy : Nat) (p_route : Nat) (p_scratch : Nat) (p_toldRow : Nat) (o_relaxedFrom : Nat) (o_relaxedTo : Nat) (o_walk : Nat) (o_upLengths : Nat) (o_upCounts : Nat) (o_downLengths : Nat) (o_downCounts : Nat) (o_chain : Nat) (k : Int32) : KR l yX9_told cX9_told 3 (some .int) 12 400 D E [.ref a, .int k] [(a, .inr (9, [.ref p_tape, .ref p_graph, .ref p_reader, .ref p_ahead, .ref p_back, .ref p_trail, .ref p_landmarks, .ref p_hierarchy, .ref p_route, .ref p_scratch, .ref p_toldRow, .int 0, .int 0])), (p_route, .inr (5, [.ref o_relaxedFrom, .ref o_relaxedTo, .ref o_walk, .int 0, .int 0, .int 0, .int 0, .int 0, .int 0, .int 0, .int (-1), .long 0, .ref o_upLengths, .ref o_upCounts, .ref o_downLengths, .ref o_downCounts, .ref o_chain]))] (some (.int (-1))) := by
  refine KR.of (by decide) (Nat.le_of_ble_eq_true rfl) ?_
  intro p e s m below meth c ls hx hb hr hts hml hown hlocks hK hP hl
  have hown : s.vm.findClass RX9 = some m.cls := hown
  have hl : lv_has ls 3 [(0, .ref a), (1, .int k)] := hl
  refine lv_aload_n hx hb dX9_told_0 rfl (lv_at hl 0 rfl) ?_
  refine va_get (D := D) (ci := 9) (v := .ref p_route) (C := RX9) (T := TX9) (N := 13) hx hb hts inX9 hown hK hP 0 rfl rfl 8 (by decide) (hts _ b_489) (fun _ h9 => h9) rfl dX9_told_1 ?_
  refine va_get (D := D) (ci := 5) (v := .int 0) (C := RX5) (T := TX5) (N := 17) hx hb hts inX5 hown hK hP 1 rfl rfl 3 (by decide) (hts _ b_424) (fun _ h9 => h9) rfl dX9_told_4 ?_
  refine lv_if_ne (tgt := 12) hx hb dX9_told_7 (by decide) (fun h9 => absurd h9 (by decide)) (fun _ => ?_)
  refine lv_iconst (v := -1) hx hb dX9_told_10 (by decide) ?_
  exact r_i hx hb hr hlocks rfl dX9_told_11
set_option maxRecDepth 20000 in
set_option maxHeartbeats 2000000 in
theorem c_found (l : Launch) (D : va_G) (E : Nat → ClassId) (a : Nat) (p_tape : Nat) (p_graph : Nat) (p_reader : Nat) (p_ahead : Nat) (p_back : Nat) (p_trail : Nat) (p_landmarks : Nat) (p_hierarchy : Nat) (p_route : Nat) (p_scratch : Nat) (p_toldRow : Nat) (o_relaxedFrom : Nat) (o_relaxedTo : Nat) (o_walk : Nat) (o_upLengths : Nat) (o_upCounts : Nat) (o_downLengths : Nat) (o_downCounts : Nat) (o_chain : Nat) : KR l yX9_found cX9_found 1 (some .long) 12 400 D E [.ref a] [(a, .inr (9, [.ref p_tape, .ref p_graph, .ref p_reader, .ref p_ahead, .ref p_back, .ref p_trail, .ref p_landmarks, .ref p_hierarchy, .ref p_route, .ref p_scratch, .ref p_toldRow, .int 0, .int 0])), (p_route, .inr (5, [.ref o_relaxedFrom, .ref o_relaxedTo, .ref o_walk, .int 0, .int 0, .int 0, .int 0, .int 0, .int 0, .int 0, .int (-1), .long 0, .ref o_upLengths, .ref o_upCounts, .ref o_downLengths, .ref o_downCounts, .ref o_chain]))] (some (.long (-1))) := by
  refine KR.of (by decide) (Nat.le_of_ble_eq_true rfl) ?_
  intro p e s m below meth c ls hx hb hr hts hml hown hlocks hK hP hl
  have hown : s.vm.findClass RX9 = some m.cls := hown
  have hl : lv_has ls 1 [(0, .ref a)] := hl
  refine lv_aload_n hx hb dX9_found_0 rfl (lv_at hl 0 rfl) ?_
  refine va_get (D := D) (ci := 9) (v := .ref p_route) (C := RX9) (T := TX9) (N := 13) hx hb hts inX9 hown hK hP 0 rfl rfl 8 (by decide) (hts _ b_489) (fun _ h9 => h9) rfl dX9_found_1 ?_
  refine va_get (D := D) (ci := 5) (v := .int 0) (C := RX5) (T := TX5) (N := 17) hx hb hts inX5 hown hK hP 1 rfl rfl 3 (by decide) (hts _ b_424) (fun _ h9 => h9) rfl dX9_found_4 ?_
  refine lv_if_eq (tgt := 31) hx hb dX9_found_7 (by decide) (fun _ => ?_) (fun h9 => absurd (by decide) h9)
  refine lv_ldc2 hx hb hown (hts _ b_694) dX9_found_31 ?_
  exact r_l hx hb hr hlocks rfl dX9_found_34
set_option maxRecDepth 20000 in
set_option maxHeartbeats 2000000 in
theorem c_step (l : Launch) (D : va_G) (E : Nat → ClassId) (a : Nat) (p_tape : Nat) (p_graph : Nat) (p_reader : Nat) (p_ahead : Nat) (p_back : Nat) (p_trail : Nat) (p_landmarks : Nat) (p_hierarchy : Nat) (p_route : Nat) (p_scratch : Nat) (p_toldRow : Nat) (o_relaxedFrom : Nat) (o_relaxedTo : Nat) (o_walk : Nat) (o_upLengths : Nat) (o_upCounts : Nat) (o_downLengths : Nat) (o_downCounts : Nat) (o_chain : Nat) (k : Int32) : KR l yX9_step cX9_step 2 (some .int) 12 400 D E [.ref a, .int k] [(a, .inr (9, [.ref p_tape, .ref p_graph, .ref p_reader, .ref p_ahead, .ref p_back, .ref p_trail, .ref p_landmarks, .ref p_hierarchy, .ref p_route, .ref p_scratch, .ref p_toldRow, .int 0, .int 0])), (p_route, .inr (5, [.ref o_relaxedFrom, .ref o_relaxedTo, .ref o_walk, .int 0, .int 0, .int 0, .int 0, .int 0, .int 0, .int 0, .int (-1), .long 0, .ref o_upLengths, .ref o_upCounts, .ref o_downLengths, .ref o_downCounts, .ref o_chain]))] (some (.int (-1))) := by
  refine KR.of (by decide) (Nat.le_of_ble_eq_true rfl) ?_
  intro p e s m below meth c ls hx hb hr hts hml hown hlocks hK hP hl
  have hown : s.vm.findClass RX9 = some m.cls := hown
  have hl : lv_has ls 2 [(0, .ref a), (1, .int k)] := hl
  refine lv_aload_n hx hb dX9_step_0 rfl (lv_at hl 0 rfl) ?_
  refine va_get (D := D) (ci := 9) (v := .ref p_route) (C := RX9) (T := TX9) (N := 13) hx hb hts inX9 hown hK hP 0 rfl rfl 8 (by decide) (hts _ b_489) (fun _ h9 => h9) rfl dX9_step_1 ?_
  refine va_get (D := D) (ci := 5) (v := .int 0) (C := RX5) (T := TX5) (N := 17) hx hb hts inX5 hown hK hP 1 rfl rfl 3 (by decide) (hts _ b_424) (fun _ h9 => h9) rfl dX9_step_4 ?_
  refine lv_if_eq (tgt := 37) hx hb dX9_step_7 (by decide) (fun _ => ?_) (fun h9 => absurd (by decide) h9)
  refine lv_iconst (v := -1) hx hb dX9_step_37 (by decide) ?_
  exact r_i hx hb hr hlocks rfl dX9_step_38
set_option maxRecDepth 20000 in
set_option maxHeartbeats 2000000 in
theorem c_relaxed (l : Launch) (D : va_G) (E : Nat → ClassId) (a : Nat) (p_tape : Nat) (p_graph : Nat) (p_reader : Nat) (p_ahead : Nat) (p_back : Nat) (p_trail : Nat) (p_landmarks : Nat) (p_hierarchy : Nat) (p_route : Nat) (p_scratch : Nat) (p_toldRow : Nat) (o_relaxedFrom : Nat) (o_relaxedTo : Nat) (o_walk : Nat) (o_upLengths : Nat) (o_upCounts : Nat) (o_downLengths : Nat) (o_downCounts : Nat) (o_chain : Nat) (k : Int32) (w : Int32) : KR l yX9_relaxed cX9_relaxed 3 (some .int) 12 400 D E [.ref a, .int k, .int w] [(a, .inr (9, [.ref p_tape, .ref p_graph, .ref p_reader, .ref p_ahead, .ref p_back, .ref p_trail, .ref p_landmarks, .ref p_hierarchy, .ref p_route, .ref p_scratch, .ref p_toldRow, .int 0, .int 0])), (p_route, .inr (5, [.ref o_relaxedFrom, .ref o_relaxedTo, .ref o_walk, .int 0, .int 0, .int 0, .int 0, .int 0, .int 0, .int 0, .int (-1), .long 0, .ref o_upLengths, .ref o_upCounts, .ref o_downLengths, .ref o_downCounts, .ref o_chain]))] (some (.int (-1))) := by
  refine KR.of (by decide) (Nat.le_of_ble_eq_true rfl) ?_
  intro p e s m below meth c ls hx hb hr hts hml hown hlocks hK hP hl
  have hown : s.vm.findClass RX9 = some m.cls := hown
  have hl : lv_has ls 3 [(0, .ref a), (1, .int k), (2, .int w)] := hl
  refine lv_aload_n hx hb dX9_relaxed_0 rfl (lv_at hl 0 rfl) ?_
  refine va_get (D := D) (ci := 9) (v := .ref p_route) (C := RX9) (T := TX9) (N := 13) hx hb hts inX9 hown hK hP 0 rfl rfl 8 (by decide) (hts _ b_489) (fun _ h9 => h9) rfl dX9_relaxed_1 ?_
  refine va_get (D := D) (ci := 5) (v := .int 0) (C := RX5) (T := TX5) (N := 17) hx hb hts inX5 hown hK hP 1 rfl rfl 3 (by decide) (hts _ b_424) (fun _ h9 => h9) rfl dX9_relaxed_4 ?_
  refine lv_if_eq (tgt := 25) hx hb dX9_relaxed_7 (by decide) (fun _ => ?_) (fun h9 => absurd (by decide) h9)
  refine lv_iconst (v := -1) hx hb dX9_relaxed_25 (by decide) ?_
  exact r_i hx hb hr hlocks rfl dX9_relaxed_26
set_option maxRecDepth 20000 in
set_option maxHeartbeats 2000000 in
theorem c_reached (l : Launch) (D : va_G) (E : Nat → ClassId) (a : Nat) (p_tape : Nat) (p_graph : Nat) (p_reader : Nat) (p_ahead : Nat) (p_back : Nat) (p_trail : Nat) (p_landmarks : Nat) (p_hierarchy : Nat) (p_route : Nat) (p_scratch : Nat) (p_toldRow : Nat) (g_xs : Nat) (g_ys : Nat) (g_potentials : Nat) (g_tails : Nat) (g_heads : Nat) (g_weights : Nat) (g_net : Nat) (k : Int32) (w : Int32) : KR l yX9_reached cX9_reached 5 (some .int) 25 821 D E [.ref a, .int k, .int w] [(a, .inr (9, [.ref p_tape, .ref p_graph, .ref p_reader, .ref p_ahead, .ref p_back, .ref p_trail, .ref p_landmarks, .ref p_hierarchy, .ref p_route, .ref p_scratch, .ref p_toldRow, .int 0, .int 0])), (p_graph, .inr (0, [.ref g_xs, .ref g_ys, .ref g_potentials, .ref g_tails, .ref g_heads, .ref g_weights, .ref g_net, .int 0, .int 0, .long 0]))] (some (.int (-1))) := by
  refine KR.of (by decide) (Nat.le_of_ble_eq_true rfl) ?_
  intro p e s m below meth c ls hx hb hr hts hml hown hlocks hK hP hl
  have hown : s.vm.findClass RX9 = some m.cls := hown
  have hl : lv_has ls 5 [(0, .ref a), (1, .int k), (2, .int w)] := hl
  refine lv_aload_n hx hb dX9_reached_0 rfl (lv_at hl 0 rfl) ?_
  refine va_get (D := D) (ci := 9) (v := .ref p_graph) (C := RX9) (T := TX9) (N := 13) hx hb hts inX9 hown hK hP 0 rfl rfl 1 (by decide) (hts _ b_482) (fun _ h9 => h9) rfl dX9_reached_1 ?_
  refine lv_iload_n hx hb dX9_reached_4 rfl (lv_at hl 1 rfl) ?_
  refine k_RV (As := [.int k]) (rest := []) (ci := 0) (q0 := 1) ⟨hx, hb, hml, hown, hts⟩ (c_hasNode l D E p_graph g_xs g_ys g_potentials g_tails g_heads g_weights g_net k) b_682 b_683 b_684 b_80 b_685 ⟨rfl, hd_X0_hasNode⟩ ⟨⟨by decide, by decide⟩, by decide, by decide⟩ hK hP [1] rfl rfl rfl rfl hl.1 (Nat.le_of_ble_eq_true rfl) dX9_reached_5 ?_
  refine lv_if_eq (tgt := 15) hx hb dX9_reached_8 (by decide) (fun _ => ?_) (fun h9 => absurd (by decide) h9)
  refine lv_iconst (v := -1) hx hb dX9_reached_15 (by decide) ?_
  exact r_i hx hb hr hlocks rfl dX9_reached_16
set_option maxRecDepth 20000 in
set_option maxHeartbeats 2000000 in
theorem c_total_0 (l : Launch) (D : va_G) (E : Nat → ClassId) (a : Nat) (p_tape : Nat) (p_graph : Nat) (p_reader : Nat) (p_ahead : Nat) (p_back : Nat) (p_trail : Nat) (p_landmarks : Nat) (p_hierarchy : Nat) (p_route : Nat) (p_scratch : Nat) (p_toldRow : Nat) (g_xs : Nat) (g_ys : Nat) (g_potentials : Nat) (g_tails : Nat) (g_heads : Nat) (g_weights : Nat) (g_net : Nat) : KR l yX9_total cX9_total 2 (some .int) 12 400 D E [.ref a, .int 0] [(a, .inr (9, [.ref p_tape, .ref p_graph, .ref p_reader, .ref p_ahead, .ref p_back, .ref p_trail, .ref p_landmarks, .ref p_hierarchy, .ref p_route, .ref p_scratch, .ref p_toldRow, .int 0, .int 0])), (p_graph, .inr (0, [.ref g_xs, .ref g_ys, .ref g_potentials, .ref g_tails, .ref g_heads, .ref g_weights, .ref g_net, .int 0, .int 0, .long 0]))] (some (.int 0)) := by
  refine KR.of (by decide) (Nat.le_of_ble_eq_true rfl) ?_
  intro p e s m below meth c ls hx hb hr hts hml hown hlocks hK hP hl
  have hown : s.vm.findClass RX9 = some m.cls := hown
  have hl : lv_has ls 2 [(0, .ref a), (1, .int 0)] := hl
  refine lv_iload_n hx hb dX9_total_0 rfl (lv_at hl 1 rfl) ?_
  refine lv_tableIn (off := 51) (tgt := 52) hx hb dX9_total_1 (by decide) (by decide) (by decide) (by decide) ?_
  refine lv_aload_n hx hb dX9_total_52 rfl (lv_at hl 0 rfl) ?_
  refine va_get (D := D) (ci := 9) (v := .ref p_graph) (C := RX9) (T := TX9) (N := 13) hx hb hts inX9 hown hK hP 0 rfl rfl 1 (by decide) (hts _ b_482) (fun _ h9 => h9) rfl dX9_total_53 ?_
  refine va_get (D := D) (ci := 0) (v := .int 0) (C := RX0) (T := TX0) (N := 10) hx hb hts inX0 hown hK hP 1 rfl rfl 7 (by decide) (hts _ b_197) (fun _ h9 => h9) rfl dX9_total_56 ?_
  exact r_i hx hb hr hlocks rfl dX9_total_59
set_option maxRecDepth 20000 in
set_option maxHeartbeats 2000000 in
theorem c_total_1 (l : Launch) (D : va_G) (E : Nat → ClassId) (a : Nat) (p_tape : Nat) (p_graph : Nat) (p_reader : Nat) (p_ahead : Nat) (p_back : Nat) (p_trail : Nat) (p_landmarks : Nat) (p_hierarchy : Nat) (p_route : Nat) (p_scratch : Nat) (p_toldRow : Nat) (g_xs : Nat) (g_ys : Nat) (g_potentials : Nat) (g_tails : Nat) (g_heads : Nat) (g_weights : Nat) (g_net : Nat) : KR l yX9_total cX9_total 2 (some .int) 12 400 D E [.ref a, .int 1] [(a, .inr (9, [.ref p_tape, .ref p_graph, .ref p_reader, .ref p_ahead, .ref p_back, .ref p_trail, .ref p_landmarks, .ref p_hierarchy, .ref p_route, .ref p_scratch, .ref p_toldRow, .int 0, .int 0])), (p_graph, .inr (0, [.ref g_xs, .ref g_ys, .ref g_potentials, .ref g_tails, .ref g_heads, .ref g_weights, .ref g_net, .int 0, .int 0, .long 0]))] (some (.int 0)) := by
  refine KR.of (by decide) (Nat.le_of_ble_eq_true rfl) ?_
  intro p e s m below meth c ls hx hb hr hts hml hown hlocks hK hP hl
  have hown : s.vm.findClass RX9 = some m.cls := hown
  have hl : lv_has ls 2 [(0, .ref a), (1, .int 1)] := hl
  refine lv_iload_n hx hb dX9_total_0 rfl (lv_at hl 1 rfl) ?_
  refine lv_tableIn (off := 59) (tgt := 60) hx hb dX9_total_1 (by decide) (by decide) (by decide) (by decide) ?_
  refine lv_aload_n hx hb dX9_total_60 rfl (lv_at hl 0 rfl) ?_
  refine va_get (D := D) (ci := 9) (v := .ref p_graph) (C := RX9) (T := TX9) (N := 13) hx hb hts inX9 hown hK hP 0 rfl rfl 1 (by decide) (hts _ b_482) (fun _ h9 => h9) rfl dX9_total_61 ?_
  refine va_get (D := D) (ci := 0) (v := .int 0) (C := RX0) (T := TX0) (N := 10) hx hb hts inX0 hown hK hP 1 rfl rfl 8 (by decide) (hts _ b_200) (fun _ h9 => h9) rfl dX9_total_64 ?_
  exact r_i hx hb hr hlocks rfl dX9_total_67
set_option maxRecDepth 20000 in
set_option maxHeartbeats 2000000 in
theorem c_total_2 (l : Launch) (D : va_G) (E : Nat → ClassId) (a : Nat) (p_tape : Nat) (p_graph : Nat) (p_reader : Nat) (p_ahead : Nat) (p_back : Nat) (p_trail : Nat) (p_landmarks : Nat) (p_hierarchy : Nat) (p_route : Nat) (p_scratch : Nat) (p_toldRow : Nat) (t_bytes : Nat) : KR l yX9_total cX9_total 2 (some .int) 12 400 D E [.ref a, .int 2] [(a, .inr (9, [.ref p_tape, .ref p_graph, .ref p_reader, .ref p_ahead, .ref p_back, .ref p_trail, .ref p_landmarks, .ref p_hierarchy, .ref p_route, .ref p_scratch, .ref p_toldRow, .int 0, .int 0])), (p_tape, .inr (6, [.ref t_bytes, .int 0]))] (some (.int 0)) := by
  refine KR.of (by decide) (Nat.le_of_ble_eq_true rfl) ?_
  intro p e s m below meth c ls hx hb hr hts hml hown hlocks hK hP hl
  have hown : s.vm.findClass RX9 = some m.cls := hown
  have hl : lv_has ls 2 [(0, .ref a), (1, .int 2)] := hl
  refine lv_iload_n hx hb dX9_total_0 rfl (lv_at hl 1 rfl) ?_
  refine lv_tableIn (off := 67) (tgt := 68) hx hb dX9_total_1 (by decide) (by decide) (by decide) (by decide) ?_
  refine lv_aload_n hx hb dX9_total_68 rfl (lv_at hl 0 rfl) ?_
  refine va_get (D := D) (ci := 9) (v := .ref p_tape) (C := RX9) (T := TX9) (N := 13) hx hb hts inX9 hown hK hP 0 rfl rfl 0 (by decide) (hts _ b_481) (fun _ h9 => h9) rfl dX9_total_69 ?_
  refine va_get (D := D) (ci := 6) (v := .int 0) (C := RX6) (T := TX6) (N := 2) hx hb hts inX6 hown hK hP 1 rfl rfl 1 (by decide) (hts _ b_121) (fun _ h9 => h9) rfl dX9_total_72 ?_
  exact r_i hx hb hr hlocks rfl dX9_total_75
set_option maxRecDepth 20000 in
set_option maxHeartbeats 2000000 in
theorem c_total_3 (l : Launch) (D : va_G) (E : Nat → ClassId) (a : Nat) (p_tape : Nat) (p_graph : Nat) (p_reader : Nat) (p_ahead : Nat) (p_back : Nat) (p_trail : Nat) (p_landmarks : Nat) (p_hierarchy : Nat) (p_route : Nat) (p_scratch : Nat) (p_toldRow : Nat) : KR l yX9_total cX9_total 2 (some .int) 12 400 D E [.ref a, .int 3] [(a, .inr (9, [.ref p_tape, .ref p_graph, .ref p_reader, .ref p_ahead, .ref p_back, .ref p_trail, .ref p_landmarks, .ref p_hierarchy, .ref p_route, .ref p_scratch, .ref p_toldRow, .int 0, .int 0]))] (some (.int 0)) := by
  refine KR.of (by decide) (Nat.le_of_ble_eq_true rfl) ?_
  intro p e s m below meth c ls hx hb hr hts hml hown hlocks hK hP hl
  have hown : s.vm.findClass RX9 = some m.cls := hown
  have hl : lv_has ls 2 [(0, .ref a), (1, .int 3)] := hl
  refine lv_iload_n hx hb dX9_total_0 rfl (lv_at hl 1 rfl) ?_
  refine lv_tableIn (off := 75) (tgt := 76) hx hb dX9_total_1 (by decide) (by decide) (by decide) (by decide) ?_
  refine lv_aload_n hx hb dX9_total_76 rfl (lv_at hl 0 rfl) ?_
  refine va_get (D := D) (ci := 9) (v := .int 0) (C := RX9) (T := TX9) (N := 13) hx hb hts inX9 hown hK hP 0 rfl rfl 12 (by decide) (hts _ b_493) (fun _ h9 => h9) rfl dX9_total_77 ?_
  exact r_i hx hb hr hlocks rfl dX9_total_80
set_option maxRecDepth 20000 in
set_option maxHeartbeats 2000000 in
theorem c_total_4 (l : Launch) (D : va_G) (E : Nat → ClassId) (a : Nat) (p_tape : Nat) (p_graph : Nat) (p_reader : Nat) (p_ahead : Nat) (p_back : Nat) (p_trail : Nat) (p_landmarks : Nat) (p_hierarchy : Nat) (p_route : Nat) (p_scratch : Nat) (p_toldRow : Nat) (m_nodes : Nat) (m_potentials : Nat) (m_from : Nat) (m_into : Nat) : KR l yX9_total cX9_total 2 (some .int) 12 400 D E [.ref a, .int 4] [(a, .inr (9, [.ref p_tape, .ref p_graph, .ref p_reader, .ref p_ahead, .ref p_back, .ref p_trail, .ref p_landmarks, .ref p_hierarchy, .ref p_route, .ref p_scratch, .ref p_toldRow, .int 0, .int 0])), (p_landmarks, .inr (2, [.ref m_nodes, .ref m_potentials, .int 0, .ref m_from, .ref m_into]))] (some (.int 0)) := by
  refine KR.of (by decide) (Nat.le_of_ble_eq_true rfl) ?_
  intro p e s m below meth c ls hx hb hr hts hml hown hlocks hK hP hl
  have hown : s.vm.findClass RX9 = some m.cls := hown
  have hl : lv_has ls 2 [(0, .ref a), (1, .int 4)] := hl
  refine lv_iload_n hx hb dX9_total_0 rfl (lv_at hl 1 rfl) ?_
  refine lv_tableIn (off := 80) (tgt := 81) hx hb dX9_total_1 (by decide) (by decide) (by decide) (by decide) ?_
  refine lv_aload_n hx hb dX9_total_81 rfl (lv_at hl 0 rfl) ?_
  refine va_get (D := D) (ci := 9) (v := .ref p_landmarks) (C := RX9) (T := TX9) (N := 13) hx hb hts inX9 hown hK hP 0 rfl rfl 6 (by decide) (hts _ b_487) (fun _ h9 => h9) rfl dX9_total_82 ?_
  refine va_get (D := D) (ci := 2) (v := .int 0) (C := RX2) (T := TX2) (N := 5) hx hb hts inX2 hown hK hP 1 rfl rfl 2 (by decide) (hts _ b_332) (fun _ h9 => h9) rfl dX9_total_85 ?_
  exact r_i hx hb hr hlocks rfl dX9_total_88
set_option maxRecDepth 20000 in
set_option maxHeartbeats 2000000 in
theorem c_total_5 (l : Launch) (D : va_G) (E : Nat → ClassId) (a : Nat) (p_tape : Nat) (p_graph : Nat) (p_reader : Nat) (p_ahead : Nat) (p_back : Nat) (p_trail : Nat) (p_landmarks : Nat) (p_hierarchy : Nat) (p_route : Nat) (p_scratch : Nat) (p_toldRow : Nat) : KR l yX9_total cX9_total 2 (some .int) 12 400 D E [.ref a, .int 5] [(a, .inr (9, [.ref p_tape, .ref p_graph, .ref p_reader, .ref p_ahead, .ref p_back, .ref p_trail, .ref p_landmarks, .ref p_hierarchy, .ref p_route, .ref p_scratch, .ref p_toldRow, .int 0, .int 0]))] (some (.int 0)) := by
  refine KR.of (by decide) (Nat.le_of_ble_eq_true rfl) ?_
  intro p e s m below meth c ls hx hb hr hts hml hown hlocks hK hP hl
  have hown : s.vm.findClass RX9 = some m.cls := hown
  have hl : lv_has ls 2 [(0, .ref a), (1, .int 5)] := hl
  refine lv_iload_n hx hb dX9_total_0 rfl (lv_at hl 1 rfl) ?_
  refine lv_tableIn (off := 88) (tgt := 89) hx hb dX9_total_1 (by decide) (by decide) (by decide) (by decide) ?_
  refine lv_aload_n hx hb dX9_total_89 rfl (lv_at hl 0 rfl) ?_
  refine va_get (D := D) (ci := 9) (v := .int 0) (C := RX9) (T := TX9) (N := 13) hx hb hts inX9 hown hK hP 0 rfl rfl 11 (by decide) (hts _ b_492) (fun _ h9 => h9) rfl dX9_total_90 ?_
  exact r_i hx hb hr hlocks rfl dX9_total_93
set_option maxRecDepth 20000 in
set_option maxHeartbeats 2000000 in
theorem c_total_6 (l : Launch) (D : va_G) (E : Nat → ClassId) (a : Nat) (p_tape : Nat) (p_graph : Nat) (p_reader : Nat) (p_ahead : Nat) (p_back : Nat) (p_trail : Nat) (p_landmarks : Nat) (p_hierarchy : Nat) (p_route : Nat) (p_scratch : Nat) (p_toldRow : Nat) (h_net : Nat) (h_ranks : Nat) (h_row : Nat) (h_witnesses : Nat) (h_contractedBeside : Nat) (h_wantedFrom : Nat) (h_wantedTo : Nat) : KR l yX9_total cX9_total 2 (some .int) 12 400 D E [.ref a, .int 6] [(a, .inr (9, [.ref p_tape, .ref p_graph, .ref p_reader, .ref p_ahead, .ref p_back, .ref p_trail, .ref p_landmarks, .ref p_hierarchy, .ref p_route, .ref p_scratch, .ref p_toldRow, .int 0, .int 0])), (p_hierarchy, .inr (1, [.ref h_net, .ref h_ranks, .ref h_row, .int 0, .int 0, .int 0, .int 4, .int 2, .int 1, .ref h_witnesses, .ref h_contractedBeside, .ref h_wantedFrom, .ref h_wantedTo, .int 0]))] (some (.int 0)) := by
  refine KR.of (by decide) (Nat.le_of_ble_eq_true rfl) ?_
  intro p e s m below meth c ls hx hb hr hts hml hown hlocks hK hP hl
  have hown : s.vm.findClass RX9 = some m.cls := hown
  have hl : lv_has ls 2 [(0, .ref a), (1, .int 6)] := hl
  refine lv_iload_n hx hb dX9_total_0 rfl (lv_at hl 1 rfl) ?_
  refine lv_tableIn (off := 93) (tgt := 94) hx hb dX9_total_1 (by decide) (by decide) (by decide) (by decide) ?_
  refine lv_aload_n hx hb dX9_total_94 rfl (lv_at hl 0 rfl) ?_
  refine va_get (D := D) (ci := 9) (v := .ref p_hierarchy) (C := RX9) (T := TX9) (N := 13) hx hb hts inX9 hown hK hP 0 rfl rfl 7 (by decide) (hts _ b_488) (fun _ h9 => h9) rfl dX9_total_95 ?_
  refine va_get (D := D) (ci := 1) (v := .int 0) (C := RX1) (T := TX1) (N := 14) hx hb hts inX1 hown hK hP 1 rfl rfl 3 (by decide) (hts _ b_365) (fun _ h9 => h9) rfl dX9_total_98 ?_
  refine lv_if_eq (tgt := 118) hx hb dX9_total_101 (by decide) (fun _ => ?_) (fun h9 => absurd (by decide) h9)
  refine lv_iconst (v := 0) hx hb dX9_total_118 (by decide) ?_
  exact r_i hx hb hr hlocks rfl dX9_total_119
set_option maxRecDepth 20000 in
set_option maxHeartbeats 2000000 in
theorem c_total_7 (l : Launch) (D : va_G) (E : Nat → ClassId) (a : Nat) (p_tape : Nat) (p_graph : Nat) (p_reader : Nat) (p_ahead : Nat) (p_back : Nat) (p_trail : Nat) (p_landmarks : Nat) (p_hierarchy : Nat) (p_route : Nat) (p_scratch : Nat) (p_toldRow : Nat) (h_net : Nat) (h_ranks : Nat) (h_row : Nat) (h_witnesses : Nat) (h_contractedBeside : Nat) (h_wantedFrom : Nat) (h_wantedTo : Nat) : KR l yX9_total cX9_total 2 (some .int) 12 400 D E [.ref a, .int 7] [(a, .inr (9, [.ref p_tape, .ref p_graph, .ref p_reader, .ref p_ahead, .ref p_back, .ref p_trail, .ref p_landmarks, .ref p_hierarchy, .ref p_route, .ref p_scratch, .ref p_toldRow, .int 0, .int 0])), (p_hierarchy, .inr (1, [.ref h_net, .ref h_ranks, .ref h_row, .int 0, .int 0, .int 0, .int 4, .int 2, .int 1, .ref h_witnesses, .ref h_contractedBeside, .ref h_wantedFrom, .ref h_wantedTo, .int 0]))] (some (.int 0)) := by
  refine KR.of (by decide) (Nat.le_of_ble_eq_true rfl) ?_
  intro p e s m below meth c ls hx hb hr hts hml hown hlocks hK hP hl
  have hown : s.vm.findClass RX9 = some m.cls := hown
  have hl : lv_has ls 2 [(0, .ref a), (1, .int 7)] := hl
  refine lv_iload_n hx hb dX9_total_0 rfl (lv_at hl 1 rfl) ?_
  refine lv_tableIn (off := 119) (tgt := 120) hx hb dX9_total_1 (by decide) (by decide) (by decide) (by decide) ?_
  refine lv_aload_n hx hb dX9_total_120 rfl (lv_at hl 0 rfl) ?_
  refine va_get (D := D) (ci := 9) (v := .ref p_hierarchy) (C := RX9) (T := TX9) (N := 13) hx hb hts inX9 hown hK hP 0 rfl rfl 7 (by decide) (hts _ b_488) (fun _ h9 => h9) rfl dX9_total_121 ?_
  refine va_get (D := D) (ci := 1) (v := .int 0) (C := RX1) (T := TX1) (N := 14) hx hb hts inX1 hown hK hP 1 rfl rfl 3 (by decide) (hts _ b_365) (fun _ h9 => h9) rfl dX9_total_124 ?_
  refine lv_if_eq (tgt := 144) hx hb dX9_total_127 (by decide) (fun _ => ?_) (fun h9 => absurd (by decide) h9)
  refine lv_iconst (v := 0) hx hb dX9_total_144 (by decide) ?_
  exact r_i hx hb hr hlocks rfl dX9_total_145
set_option maxRecDepth 20000 in
set_option maxHeartbeats 2000000 in
theorem c_total_8 (l : Launch) (D : va_G) (E : Nat → ClassId) (a : Nat) (p_tape : Nat) (p_graph : Nat) (p_reader : Nat) (p_ahead : Nat) (p_back : Nat) (p_trail : Nat) (p_landmarks : Nat) (p_hierarchy : Nat) (p_route : Nat) (p_scratch : Nat) (p_toldRow : Nat) (r_nodes : Nat) (r_lengths : Nat) (r_counts : Nat) (r_seen : Nat) : KR l yX9_total cX9_total 2 (some .int) 12 400 D E [.ref a, .int 8] [(a, .inr (9, [.ref p_tape, .ref p_graph, .ref p_reader, .ref p_ahead, .ref p_back, .ref p_trail, .ref p_landmarks, .ref p_hierarchy, .ref p_route, .ref p_scratch, .ref p_toldRow, .int 0, .int 0])), (p_trail, .inr (7, [.ref r_nodes, .ref r_lengths, .ref r_counts, .int 0, .ref r_seen]))] (some (.int 0)) := by
  refine KR.of (by decide) (Nat.le_of_ble_eq_true rfl) ?_
  intro p e s m below meth c ls hx hb hr hts hml hown hlocks hK hP hl
  have hown : s.vm.findClass RX9 = some m.cls := hown
  have hl : lv_has ls 2 [(0, .ref a), (1, .int 8)] := hl
  refine lv_iload_n hx hb dX9_total_0 rfl (lv_at hl 1 rfl) ?_
  refine lv_tableIn (off := 145) (tgt := 146) hx hb dX9_total_1 (by decide) (by decide) (by decide) (by decide) ?_
  refine lv_aload_n hx hb dX9_total_146 rfl (lv_at hl 0 rfl) ?_
  refine va_get (D := D) (ci := 9) (v := .ref p_trail) (C := RX9) (T := TX9) (N := 13) hx hb hts inX9 hown hK hP 0 rfl rfl 5 (by decide) (hts _ b_486) (fun _ h9 => h9) rfl dX9_total_147 ?_
  refine va_get (D := D) (ci := 7) (v := .int 0) (C := RX7) (T := TX7) (N := 5) hx hb hts inX7 hown hK hP 1 rfl rfl 3 (by decide) (hts _ b_306) (fun _ h9 => h9) rfl dX9_total_150 ?_
  exact r_i hx hb hr hlocks rfl dX9_total_153
set_option maxRecDepth 20000 in
set_option maxHeartbeats 2000000 in
theorem c_total_out (l : Launch) (D : va_G) (E : Nat → ClassId) (a : Nat) (p_tape : Nat) (p_graph : Nat) (p_reader : Nat) (p_ahead : Nat) (p_back : Nat) (p_trail : Nat) (p_landmarks : Nat) (p_hierarchy : Nat) (p_route : Nat) (p_scratch : Nat) (p_toldRow : Nat) (k : Int32) (h : k.toInt < 0 ∨ 8 < k.toInt) : KR l yX9_total cX9_total 2 (some .int) 12 400 D E [.ref a, .int k] [(a, .inr (9, [.ref p_tape, .ref p_graph, .ref p_reader, .ref p_ahead, .ref p_back, .ref p_trail, .ref p_landmarks, .ref p_hierarchy, .ref p_route, .ref p_scratch, .ref p_toldRow, .int 0, .int 0]))] (some (.int (-1))) := by
  refine KR.of (by decide) (Nat.le_of_ble_eq_true rfl) ?_
  intro p e s m below meth c ls hx hb hr hts hml hown hlocks hK hP hl
  have hown : s.vm.findClass RX9 = some m.cls := hown
  have hl : lv_has ls 2 [(0, .ref a), (1, .int k)] := hl
  refine lv_iload_n hx hb dX9_total_0 rfl (lv_at hl 1 rfl) ?_
  refine lv_tableOut (tgt := 154) hx hb dX9_total_1 (h) (by decide) ?_
  refine lv_iconst (v := -1) hx hb dX9_total_154 (by decide) ?_
  exact r_i hx hb hr hlocks rfl dX9_total_155
set_option maxRecDepth 20000 in
set_option maxHeartbeats 2000000 in
theorem c_isWithin_1 (l : Launch) (D : va_G) (E : Nat → ClassId) (k : Int32) (h : (-1000000 : Int32) ≤ k ∧ k ≤ 1000000) : KR l yX9_isWithin cX9_isWithin 2 (some .boolean) 12 400 D E [.int k, .int 1000000] [] (some (.int 1)) := by
  refine KR.of (by decide) (Nat.le_of_ble_eq_true rfl) ?_
  intro p e s m below meth c ls hx hb hr hts hml hown hlocks hK hP hl
  have hown : s.vm.findClass RX9 = some m.cls := hown
  have hl : lv_has ls 2 [(0, .int k), (1, .int 1000000)] := hl
  refine lv_iload_n hx hb dX9_isWithin_0 rfl (lv_at hl 0 rfl) ?_
  refine lv_iload_n hx hb dX9_isWithin_1 rfl (lv_at hl 1 rfl) ?_
  refine lv_ineg hx hb dX9_isWithin_2 ?_
  refine k_ti (y := (-1000000)) (by decide) ?_
  refine lv_icmp_lt (tgt := 15) hx hb dX9_isWithin_3 (by decide) (fun h9 => absurd h9 (Int32.not_lt.mpr h.1)) (fun _ => ?_)
  refine lv_iload_n hx hb dX9_isWithin_6 rfl (lv_at hl 0 rfl) ?_
  refine lv_iload_n hx hb dX9_isWithin_7 rfl (lv_at hl 1 rfl) ?_
  refine lv_icmp_gt (tgt := 15) hx hb dX9_isWithin_8 (by decide) (fun h9 => absurd h9 (Int32.not_lt.mpr h.2)) (fun _ => ?_)
  refine lv_iconst (v := 1) hx hb dX9_isWithin_11 (by decide) ?_
  refine lv_goto (tgt := 16) hx hb dX9_isWithin_12 (by decide) ?_
  exact r_z hx hb hr hlocks rfl rfl dX9_isWithin_16
set_option maxRecDepth 20000 in
set_option maxHeartbeats 2000000 in
theorem c_isWithin_0 (l : Launch) (D : va_G) (E : Nat → ClassId) (k : Int32) (h : ¬ ((-1000000 : Int32) ≤ k ∧ k ≤ 1000000)) : KR l yX9_isWithin cX9_isWithin 2 (some .boolean) 12 400 D E [.int k, .int 1000000] [] (some (.int 0)) := by
  refine KR.of (by decide) (Nat.le_of_ble_eq_true rfl) ?_
  intro p e s m below meth c ls hx hb hr hts hml hown hlocks hK hP hl
  have hown : s.vm.findClass RX9 = some m.cls := hown
  have hl : lv_has ls 2 [(0, .int k), (1, .int 1000000)] := hl
  refine lv_iload_n hx hb dX9_isWithin_0 rfl (lv_at hl 0 rfl) ?_
  refine lv_iload_n hx hb dX9_isWithin_1 rfl (lv_at hl 1 rfl) ?_
  refine lv_ineg hx hb dX9_isWithin_2 ?_
  refine k_ti (y := (-1000000)) (by decide) ?_
  refine lv_icmp_lt (tgt := 15) hx hb dX9_isWithin_3 (by decide) (fun c1 => ?_) (fun c1 => ?_)
  · refine lv_iconst (v := 0) hx hb dX9_isWithin_15 (by decide) ?_
    exact r_z hx hb hr hlocks rfl rfl dX9_isWithin_16
  · refine lv_iload_n hx hb dX9_isWithin_6 rfl (lv_at hl 0 rfl) ?_
    refine lv_iload_n hx hb dX9_isWithin_7 rfl (lv_at hl 1 rfl) ?_
    refine lv_icmp_gt (tgt := 15) hx hb dX9_isWithin_8 (by decide) (fun _ => ?_) (fun h9 => absurd (Int32.not_le.mp (fun h8 => h ⟨Int32.not_lt.mp c1, h8⟩)) h9)
    refine lv_iconst (v := 0) hx hb dX9_isWithin_15 (by decide) ?_
    exact r_z hx hb hr hlocks rfl rfl dX9_isWithin_16
set_option maxRecDepth 20000 in
set_option maxHeartbeats 2000000 in
theorem c_isFactor_1 (l : Launch) (D : va_G) (E : Nat → ClassId) (k : Int32) (h : (0 : Int32) ≤ k ∧ k ≤ 9) : KR l yX9_isFactor cX9_isFactor 1 (some .boolean) 12 400 D E [.int k] [] (some (.int 1)) := by
  refine KR.of (by decide) (Nat.le_of_ble_eq_true rfl) ?_
  intro p e s m below meth c ls hx hb hr hts hml hown hlocks hK hP hl
  have hown : s.vm.findClass RX9 = some m.cls := hown
  have hl : lv_has ls 1 [(0, .int k)] := hl
  refine lv_iload_n hx hb dX9_isFactor_0 rfl (lv_at hl 0 rfl) ?_
  refine lv_if_lt (tgt := 14) hx hb dX9_isFactor_1 (by decide) (fun h9 => absurd h9 (Int32.not_lt.mpr h.1)) (fun _ => ?_)
  refine lv_iload_n hx hb dX9_isFactor_4 rfl (lv_at hl 0 rfl) ?_
  refine lv_bipush (v := 9) hx hb dX9_isFactor_5 (by decide) ?_
  refine lv_icmp_gt (tgt := 14) hx hb dX9_isFactor_7 (by decide) (fun h9 => absurd h9 (Int32.not_lt.mpr h.2)) (fun _ => ?_)
  refine lv_iconst (v := 1) hx hb dX9_isFactor_10 (by decide) ?_
  refine lv_goto (tgt := 15) hx hb dX9_isFactor_11 (by decide) ?_
  exact r_z hx hb hr hlocks rfl rfl dX9_isFactor_15
set_option maxRecDepth 20000 in
set_option maxHeartbeats 2000000 in
theorem c_isFactor_0 (l : Launch) (D : va_G) (E : Nat → ClassId) (k : Int32) (h : ¬ ((0 : Int32) ≤ k ∧ k ≤ 9)) : KR l yX9_isFactor cX9_isFactor 1 (some .boolean) 12 400 D E [.int k] [] (some (.int 0)) := by
  refine KR.of (by decide) (Nat.le_of_ble_eq_true rfl) ?_
  intro p e s m below meth c ls hx hb hr hts hml hown hlocks hK hP hl
  have hown : s.vm.findClass RX9 = some m.cls := hown
  have hl : lv_has ls 1 [(0, .int k)] := hl
  refine lv_iload_n hx hb dX9_isFactor_0 rfl (lv_at hl 0 rfl) ?_
  refine lv_if_lt (tgt := 14) hx hb dX9_isFactor_1 (by decide) (fun c1 => ?_) (fun c1 => ?_)
  · refine lv_iconst (v := 0) hx hb dX9_isFactor_14 (by decide) ?_
    exact r_z hx hb hr hlocks rfl rfl dX9_isFactor_15
  · refine lv_iload_n hx hb dX9_isFactor_4 rfl (lv_at hl 0 rfl) ?_
    refine lv_bipush (v := 9) hx hb dX9_isFactor_5 (by decide) ?_
    refine lv_icmp_gt (tgt := 14) hx hb dX9_isFactor_7 (by decide) (fun _ => ?_) (fun h9 => absurd (Int32.not_le.mp (fun h8 => h ⟨Int32.not_lt.mp c1, h8⟩)) h9)
    refine lv_iconst (v := 0) hx hb dX9_isFactor_14 (by decide) ?_
    exact r_z hx hb hr hlocks rfl rfl dX9_isFactor_15
end
