-- ===== PART A: goes FIRST, ahead of the names: the tables' words, and 'selects' of the private methods out of them =====
/-- a private method of a class that the tables say can be made, by its rows of tables_1 -/
def lw_okq (q : MethodName × Nat) : Prop := (q.1.cls ≠ "java/lang/invoke/MethodHandle" ∧ q.1.cls ≠ "java/lang/invoke/VarHandle") ∧ Cond.instantiable q.1.cls q.2 ∈ tables_1 ∧ Cond.privateMethod q.1 ∈ tables_1 ∧ Cond.instanceMethod q.1 ∈ tables_1
theorem lw_p0 : lw_okq (⟨"BridgePairs", "isPerson", "(I)Z"⟩, 10) := ⟨⟨by decide +kernel, by decide +kernel⟩, List.mem_of_getElem? (i := 21) (by decide +kernel), List.mem_of_getElem? (i := 328) (by decide +kernel), List.mem_of_getElem? (i := 329) (by decide +kernel)⟩
theorem lw_p1 : lw_okq (⟨"BridgePairs$Ways", "begin", "(LBridgePairs$Person;)V"⟩, 6) := ⟨⟨by decide +kernel, by decide +kernel⟩, List.mem_of_getElem? (i := 155) (by decide +kernel), List.mem_of_getElem? (i := 340) (by decide +kernel), List.mem_of_getElem? (i := 341) (by decide +kernel)⟩
theorem lw_p2 : lw_okq (⟨"BridgePairs$Ways", "meet", "(II)Z"⟩, 6) := ⟨⟨by decide +kernel, by decide +kernel⟩, List.mem_of_getElem? (i := 155) (by decide +kernel), List.mem_of_getElem? (i := 345) (by decide +kernel), List.mem_of_getElem? (i := 346) (by decide +kernel)⟩
theorem lw_p3 : lw_okq (⟨"BridgePairs", "hoursUntilDone", "(I)I"⟩, 10) := ⟨⟨by decide +kernel, by decide +kernel⟩, List.mem_of_getElem? (i := 21) (by decide +kernel), List.mem_of_getElem? (i := 375) (by decide +kernel), List.mem_of_getElem? (i := 376) (by decide +kernel)⟩
theorem lw_p4 : lw_okq (⟨"BridgePairs", "hoursGo", "(LBridgePairs$World;II)V"⟩, 10) := ⟨⟨by decide +kernel, by decide +kernel⟩, List.mem_of_getElem? (i := 21) (by decide +kernel), List.mem_of_getElem? (i := 403) (by decide +kernel), List.mem_of_getElem? (i := 404) (by decide +kernel)⟩
theorem lw_p5 : lw_okq (⟨"BridgePairs", "crossable", "(I)I"⟩, 10) := ⟨⟨by decide +kernel, by decide +kernel⟩, List.mem_of_getElem? (i := 21) (by decide +kernel), List.mem_of_getElem? (i := 422) (by decide +kernel), List.mem_of_getElem? (i := 423) (by decide +kernel)⟩
theorem lw_p6 : lw_okq (⟨"BridgePairs", "leaveNow", "(II)I"⟩, 10) := ⟨⟨by decide +kernel, by decide +kernel⟩, List.mem_of_getElem? (i := 21) (by decide +kernel), List.mem_of_getElem? (i := 429) (by decide +kernel), List.mem_of_getElem? (i := 430) (by decide +kernel)⟩
theorem lw_p7 : lw_okq (⟨"BridgePairs", "isBridge", "(I)Z"⟩, 10) := ⟨⟨by decide +kernel, by decide +kernel⟩, List.mem_of_getElem? (i := 21) (by decide +kernel), List.mem_of_getElem? (i := 433) (by decide +kernel), List.mem_of_getElem? (i := 434) (by decide +kernel)⟩
theorem lw_p8 : lw_okq (⟨"BridgePairs$Text", "readClause", "(LBridgePairs$City;)Z"⟩, 4) := ⟨⟨by decide +kernel, by decide +kernel⟩, List.mem_of_getElem? (i := 181) (by decide +kernel), List.mem_of_getElem? (i := 494) (by decide +kernel), List.mem_of_getElem? (i := 495) (by decide +kernel)⟩
theorem lw_p9 : lw_okq (⟨"BridgePairs$Text", "sign", "()I"⟩, 4) := ⟨⟨by decide +kernel, by decide +kernel⟩, List.mem_of_getElem? (i := 181) (by decide +kernel), List.mem_of_getElem? (i := 498) (by decide +kernel), List.mem_of_getElem? (i := 499) (by decide +kernel)⟩
theorem lw_p10 : lw_okq (⟨"BridgePairs$Text", "takesWord", "(Ljava/lang/String;)Z"⟩, 4) := ⟨⟨by decide +kernel, by decide +kernel⟩, List.mem_of_getElem? (i := 181) (by decide +kernel), List.mem_of_getElem? (i := 503) (by decide +kernel), List.mem_of_getElem? (i := 504) (by decide +kernel)⟩
theorem lw_p11 : lw_okq (⟨"BridgePairs$Text", "takes", "(C)Z"⟩, 4) := ⟨⟨by decide +kernel, by decide +kernel⟩, List.mem_of_getElem? (i := 181) (by decide +kernel), List.mem_of_getElem? (i := 555) (by decide +kernel), List.mem_of_getElem? (i := 556) (by decide +kernel)⟩
theorem lw_p12 : lw_okq (⟨"BridgePairs$Text", "takesNumber", "()Z"⟩, 4) := ⟨⟨by decide +kernel, by decide +kernel⟩, List.mem_of_getElem? (i := 181) (by decide +kernel), List.mem_of_getElem? (i := 559) (by decide +kernel), List.mem_of_getElem? (i := 560) (by decide +kernel)⟩
theorem lw_p13 : lw_okq (⟨"BridgePairs$Text", "readExpression", "(LBridgePairs$City;I)Z"⟩, 4) := ⟨⟨by decide +kernel, by decide +kernel⟩, List.mem_of_getElem? (i := 181) (by decide +kernel), List.mem_of_getElem? (i := 565) (by decide +kernel), List.mem_of_getElem? (i := 566) (by decide +kernel)⟩
theorem lw_p14 : lw_okq (⟨"BridgePairs$Text", "readFactor", "(LBridgePairs$City;I)Z"⟩, 4) := ⟨⟨by decide +kernel, by decide +kernel⟩, List.mem_of_getElem? (i := 181) (by decide +kernel), List.mem_of_getElem? (i := 569) (by decide +kernel), List.mem_of_getElem? (i := 570) (by decide +kernel)⟩
theorem lw_p15 : lw_okq (⟨"BridgePairs$Text", "readTest", "(LBridgePairs$City;)Z"⟩, 4) := ⟨⟨by decide +kernel, by decide +kernel⟩, List.mem_of_getElem? (i := 181) (by decide +kernel), List.mem_of_getElem? (i := 573) (by decide +kernel), List.mem_of_getElem? (i := 574) (by decide +kernel)⟩
def lw_privs_1 : List (MethodName × Nat) := [(⟨"BridgePairs", "isPerson", "(I)Z"⟩, 10), (⟨"BridgePairs$Ways", "begin", "(LBridgePairs$Person;)V"⟩, 6), (⟨"BridgePairs$Ways", "meet", "(II)Z"⟩, 6), (⟨"BridgePairs", "hoursUntilDone", "(I)I"⟩, 10), (⟨"BridgePairs", "hoursGo", "(LBridgePairs$World;II)V"⟩, 10), (⟨"BridgePairs", "crossable", "(I)I"⟩, 10), (⟨"BridgePairs", "leaveNow", "(II)I"⟩, 10), (⟨"BridgePairs", "isBridge", "(I)Z"⟩, 10), (⟨"BridgePairs$Text", "readClause", "(LBridgePairs$City;)Z"⟩, 4), (⟨"BridgePairs$Text", "sign", "()I"⟩, 4), (⟨"BridgePairs$Text", "takesWord", "(Ljava/lang/String;)Z"⟩, 4), (⟨"BridgePairs$Text", "takes", "(C)Z"⟩, 4), (⟨"BridgePairs$Text", "takesNumber", "()Z"⟩, 4), (⟨"BridgePairs$Text", "readExpression", "(LBridgePairs$City;I)Z"⟩, 4), (⟨"BridgePairs$Text", "readFactor", "(LBridgePairs$City;I)Z"⟩, 4), (⟨"BridgePairs$Text", "readTest", "(LBridgePairs$City;)Z"⟩, 4)]
theorem lw_r1 : ∀ q ∈ lw_privs_1, lw_okq q := List.forall_mem_cons.mpr ⟨lw_p0, List.forall_mem_cons.mpr ⟨lw_p1, List.forall_mem_cons.mpr ⟨lw_p2, List.forall_mem_cons.mpr ⟨lw_p3, List.forall_mem_cons.mpr ⟨lw_p4, List.forall_mem_cons.mpr ⟨lw_p5, List.forall_mem_cons.mpr ⟨lw_p6, List.forall_mem_cons.mpr ⟨lw_p7, List.forall_mem_cons.mpr ⟨lw_p8, List.forall_mem_cons.mpr ⟨lw_p9, List.forall_mem_cons.mpr ⟨lw_p10, List.forall_mem_cons.mpr ⟨lw_p11, List.forall_mem_cons.mpr ⟨lw_p12, List.forall_mem_cons.mpr ⟨lw_p13, List.forall_mem_cons.mpr ⟨lw_p14, List.forall_mem_cons.mpr ⟨lw_p15, fun _ h => absurd h List.not_mem_nil⟩⟩⟩⟩⟩⟩⟩⟩⟩⟩⟩⟩⟩⟩⟩⟩
theorem lw_p16 : lw_okq (⟨"BridgePairs$Text", "takesOneOf", "(Ljava/lang/String;)I"⟩, 4) := ⟨⟨by decide +kernel, by decide +kernel⟩, List.mem_of_getElem? (i := 181) (by decide +kernel), List.mem_of_getElem? (i := 578) (by decide +kernel), List.mem_of_getElem? (i := 579) (by decide +kernel)⟩
theorem lw_p17 : lw_okq (⟨"BridgePairs$Text", "readDenied", "(LBridgePairs$City;I)Z"⟩, 4) := ⟨⟨by decide +kernel, by decide +kernel⟩, List.mem_of_getElem? (i := 181) (by decide +kernel), List.mem_of_getElem? (i := 644) (by decide +kernel), List.mem_of_getElem? (i := 645) (by decide +kernel)⟩
theorem lw_p18 : lw_okq (⟨"BridgePairs", "goesAsSeen", "(I)Z"⟩, 10) := ⟨⟨by decide +kernel, by decide +kernel⟩, List.mem_of_getElem? (i := 21) (by decide +kernel), List.mem_of_getElem? (i := 698) (by decide +kernel), List.mem_of_getElem? (i := 699) (by decide +kernel)⟩
theorem lw_p19 : lw_okq (⟨"BridgePairs$Acts", "perform", "(IIII)I"⟩, 5) := ⟨⟨by decide +kernel, by decide +kernel⟩, List.mem_of_getElem? (i := 205) (by decide +kernel), List.mem_of_getElem? (i := 773) (by decide +kernel), List.mem_of_getElem? (i := 774) (by decide +kernel)⟩
theorem lw_p20 : lw_okq (⟨"BridgePairs$Acts", "answer", "(IIII)I"⟩, 5) := ⟨⟨by decide +kernel, by decide +kernel⟩, List.mem_of_getElem? (i := 205) (by decide +kernel), List.mem_of_getElem? (i := 781) (by decide +kernel), List.mem_of_getElem? (i := 782) (by decide +kernel)⟩
theorem lw_p21 : lw_okq (⟨"BridgePairsModel", "change", "(III)I"⟩, 36) := ⟨⟨by decide +kernel, by decide +kernel⟩, List.mem_of_getElem? (i := 833) (by decide +kernel), List.mem_of_getElem? (i := 974) (by decide +kernel), List.mem_of_getElem? (i := 975) (by decide +kernel)⟩
theorem lw_p22 : lw_okq (⟨"BridgePairsModel", "one", "(II)I"⟩, 36) := ⟨⟨by decide +kernel, by decide +kernel⟩, List.mem_of_getElem? (i := 833) (by decide +kernel), List.mem_of_getElem? (i := 978) (by decide +kernel), List.mem_of_getElem? (i := 979) (by decide +kernel)⟩
theorem lw_p23 : lw_okq (⟨"BridgePairsModel", "isOne", "(I)Z"⟩, 36) := ⟨⟨by decide +kernel, by decide +kernel⟩, List.mem_of_getElem? (i := 833) (by decide +kernel), List.mem_of_getElem? (i := 986) (by decide +kernel), List.mem_of_getElem? (i := 987) (by decide +kernel)⟩
theorem lw_p24 : lw_okq (⟨"BridgePairsModel", "reach", "(I)I"⟩, 36) := ⟨⟨by decide +kernel, by decide +kernel⟩, List.mem_of_getElem? (i := 833) (by decide +kernel), List.mem_of_getElem? (i := 993) (by decide +kernel), List.mem_of_getElem? (i := 994) (by decide +kernel)⟩
theorem lw_p25 : lw_okq (⟨"BridgePairsModel", "explore", "(I)V"⟩, 36) := ⟨⟨by decide +kernel, by decide +kernel⟩, List.mem_of_getElem? (i := 833) (by decide +kernel), List.mem_of_getElem? (i := 997) (by decide +kernel), List.mem_of_getElem? (i := 998) (by decide +kernel)⟩
theorem lw_p26 : lw_okq (⟨"BridgePairsModel", "mayAnywhere", "(I)I"⟩, 36) := ⟨⟨by decide +kernel, by decide +kernel⟩, List.mem_of_getElem? (i := 833) (by decide +kernel), List.mem_of_getElem? (i := 1001) (by decide +kernel), List.mem_of_getElem? (i := 1002) (by decide +kernel)⟩
theorem lw_p27 : lw_okq (⟨"BridgePairsModel", "isLost", "(I)Z"⟩, 36) := ⟨⟨by decide +kernel, by decide +kernel⟩, List.mem_of_getElem? (i := 833) (by decide +kernel), List.mem_of_getElem? (i := 1005) (by decide +kernel), List.mem_of_getElem? (i := 1006) (by decide +kernel)⟩
theorem lw_p28 : lw_okq (⟨"BridgePairsModel", "leave", "(II)I"⟩, 36) := ⟨⟨by decide +kernel, by decide +kernel⟩, List.mem_of_getElem? (i := 833) (by decide +kernel), List.mem_of_getElem? (i := 1009) (by decide +kernel), List.mem_of_getElem? (i := 1010) (by decide +kernel)⟩
theorem lw_p29 : lw_okq (⟨"BridgePairsModel", "readFor", "(II)V"⟩, 36) := ⟨⟨by decide +kernel, by decide +kernel⟩, List.mem_of_getElem? (i := 833) (by decide +kernel), List.mem_of_getElem? (i := 1013) (by decide +kernel), List.mem_of_getElem? (i := 1014) (by decide +kernel)⟩
theorem lw_p30 : lw_okq (⟨"BridgePairsModel", "readAll", "()Z"⟩, 36) := ⟨⟨by decide +kernel, by decide +kernel⟩, List.mem_of_getElem? (i := 833) (by decide +kernel), List.mem_of_getElem? (i := 1020) (by decide +kernel), List.mem_of_getElem? (i := 1021) (by decide +kernel)⟩
theorem lw_p31 : lw_okq (⟨"BridgePairsModel", "clause", "()V"⟩, 36) := ⟨⟨by decide +kernel, by decide +kernel⟩, List.mem_of_getElem? (i := 833) (by decide +kernel), List.mem_of_getElem? (i := 1024) (by decide +kernel), List.mem_of_getElem? (i := 1025) (by decide +kernel)⟩
def lw_privs_2 : List (MethodName × Nat) := [(⟨"BridgePairs$Text", "takesOneOf", "(Ljava/lang/String;)I"⟩, 4), (⟨"BridgePairs$Text", "readDenied", "(LBridgePairs$City;I)Z"⟩, 4), (⟨"BridgePairs", "goesAsSeen", "(I)Z"⟩, 10), (⟨"BridgePairs$Acts", "perform", "(IIII)I"⟩, 5), (⟨"BridgePairs$Acts", "answer", "(IIII)I"⟩, 5), (⟨"BridgePairsModel", "change", "(III)I"⟩, 36), (⟨"BridgePairsModel", "one", "(II)I"⟩, 36), (⟨"BridgePairsModel", "isOne", "(I)Z"⟩, 36), (⟨"BridgePairsModel", "reach", "(I)I"⟩, 36), (⟨"BridgePairsModel", "explore", "(I)V"⟩, 36), (⟨"BridgePairsModel", "mayAnywhere", "(I)I"⟩, 36), (⟨"BridgePairsModel", "isLost", "(I)Z"⟩, 36), (⟨"BridgePairsModel", "leave", "(II)I"⟩, 36), (⟨"BridgePairsModel", "readFor", "(II)V"⟩, 36), (⟨"BridgePairsModel", "readAll", "()Z"⟩, 36), (⟨"BridgePairsModel", "clause", "()V"⟩, 36)]
theorem lw_r2 : ∀ q ∈ lw_privs_2, lw_okq q := List.forall_mem_cons.mpr ⟨lw_p16, List.forall_mem_cons.mpr ⟨lw_p17, List.forall_mem_cons.mpr ⟨lw_p18, List.forall_mem_cons.mpr ⟨lw_p19, List.forall_mem_cons.mpr ⟨lw_p20, List.forall_mem_cons.mpr ⟨lw_p21, List.forall_mem_cons.mpr ⟨lw_p22, List.forall_mem_cons.mpr ⟨lw_p23, List.forall_mem_cons.mpr ⟨lw_p24, List.forall_mem_cons.mpr ⟨lw_p25, List.forall_mem_cons.mpr ⟨lw_p26, List.forall_mem_cons.mpr ⟨lw_p27, List.forall_mem_cons.mpr ⟨lw_p28, List.forall_mem_cons.mpr ⟨lw_p29, List.forall_mem_cons.mpr ⟨lw_p30, List.forall_mem_cons.mpr ⟨lw_p31, fun _ h => absurd h List.not_mem_nil⟩⟩⟩⟩⟩⟩⟩⟩⟩⟩⟩⟩⟩⟩⟩⟩
theorem lw_p32 : lw_okq (⟨"BridgePairsModel", "isAt", "(I)Z"⟩, 36) := ⟨⟨by decide +kernel, by decide +kernel⟩, List.mem_of_getElem? (i := 833) (by decide +kernel), List.mem_of_getElem? (i := 1028) (by decide +kernel), List.mem_of_getElem? (i := 1029) (by decide +kernel)⟩
theorem lw_p33 : lw_okq (⟨"BridgePairsModel", "takes", "(I)V"⟩, 36) := ⟨⟨by decide +kernel, by decide +kernel⟩, List.mem_of_getElem? (i := 833) (by decide +kernel), List.mem_of_getElem? (i := 1032) (by decide +kernel), List.mem_of_getElem? (i := 1033) (by decide +kernel)⟩
theorem lw_p34 : lw_okq (⟨"BridgePairsModel", "number", "()I"⟩, 36) := ⟨⟨by decide +kernel, by decide +kernel⟩, List.mem_of_getElem? (i := 833) (by decide +kernel), List.mem_of_getElem? (i := 1036) (by decide +kernel), List.mem_of_getElem? (i := 1037) (by decide +kernel)⟩
theorem lw_p35 : lw_okq (⟨"BridgePairsModel", "isDigit", "()Z"⟩, 36) := ⟨⟨by decide +kernel, by decide +kernel⟩, List.mem_of_getElem? (i := 833) (by decide +kernel), List.mem_of_getElem? (i := 1040) (by decide +kernel), List.mem_of_getElem? (i := 1041) (by decide +kernel)⟩
theorem lw_p36 : lw_okq (⟨"BridgePairsModel", "any", "()Z"⟩, 36) := ⟨⟨by decide +kernel, by decide +kernel⟩, List.mem_of_getElem? (i := 833) (by decide +kernel), List.mem_of_getElem? (i := 1044) (by decide +kernel), List.mem_of_getElem? (i := 1045) (by decide +kernel)⟩
theorem lw_p37 : lw_okq (⟨"BridgePairsModel", "both", "()Z"⟩, 36) := ⟨⟨by decide +kernel, by decide +kernel⟩, List.mem_of_getElem? (i := 833) (by decide +kernel), List.mem_of_getElem? (i := 1048) (by decide +kernel), List.mem_of_getElem? (i := 1049) (by decide +kernel)⟩
theorem lw_p38 : lw_okq (⟨"BridgePairsModel", "factor", "()Z"⟩, 36) := ⟨⟨by decide +kernel, by decide +kernel⟩, List.mem_of_getElem? (i := 833) (by decide +kernel), List.mem_of_getElem? (i := 1052) (by decide +kernel), List.mem_of_getElem? (i := 1053) (by decide +kernel)⟩
theorem lw_p39 : lw_okq (⟨"BridgePairsModel", "test", "()Z"⟩, 36) := ⟨⟨by decide +kernel, by decide +kernel⟩, List.mem_of_getElem? (i := 833) (by decide +kernel), List.mem_of_getElem? (i := 1056) (by decide +kernel), List.mem_of_getElem? (i := 1057) (by decide +kernel)⟩
theorem lw_p40 : lw_okq (⟨"BridgePairsModel", "arrive", "(IIII)V"⟩, 36) := ⟨⟨by decide +kernel, by decide +kernel⟩, List.mem_of_getElem? (i := 833) (by decide +kernel), List.mem_of_getElem? (i := 1060) (by decide +kernel), List.mem_of_getElem? (i := 1061) (by decide +kernel)⟩
theorem lw_p41 : lw_okq (⟨"BridgePairsModel", "end", "(II)I"⟩, 36) := ⟨⟨by decide +kernel, by decide +kernel⟩, List.mem_of_getElem? (i := 833) (by decide +kernel), List.mem_of_getElem? (i := 1064) (by decide +kernel), List.mem_of_getElem? (i := 1065) (by decide +kernel)⟩
theorem lw_p42 : lw_okq (⟨"BridgePairsModel", "halfBy", "(II)I"⟩, 36) := ⟨⟨by decide +kernel, by decide +kernel⟩, List.mem_of_getElem? (i := 833) (by decide +kernel), List.mem_of_getElem? (i := 1068) (by decide +kernel), List.mem_of_getElem? (i := 1069) (by decide +kernel)⟩
theorem lw_p43 : lw_okq (⟨"BridgePairsModel", "sister", "(I)I"⟩, 36) := ⟨⟨by decide +kernel, by decide +kernel⟩, List.mem_of_getElem? (i := 833) (by decide +kernel), List.mem_of_getElem? (i := 1072) (by decide +kernel), List.mem_of_getElem? (i := 1073) (by decide +kernel)⟩
theorem lw_p44 : lw_okq (⟨"BridgePairsModel", "done", "(I)I"⟩, 36) := ⟨⟨by decide +kernel, by decide +kernel⟩, List.mem_of_getElem? (i := 833) (by decide +kernel), List.mem_of_getElem? (i := 1076) (by decide +kernel), List.mem_of_getElem? (i := 1077) (by decide +kernel)⟩
theorem lw_p45 : lw_okq (⟨"BridgePairsModel", "isDone", "(I)Z"⟩, 36) := ⟨⟨by decide +kernel, by decide +kernel⟩, List.mem_of_getElem? (i := 833) (by decide +kernel), List.mem_of_getElem? (i := 1080) (by decide +kernel), List.mem_of_getElem? (i := 1081) (by decide +kernel)⟩
theorem lw_p46 : lw_okq (⟨"BridgePairsModel", "isTruly", "(II)Z"⟩, 36) := ⟨⟨by decide +kernel, by decide +kernel⟩, List.mem_of_getElem? (i := 833) (by decide +kernel), List.mem_of_getElem? (i := 1084) (by decide +kernel), List.mem_of_getElem? (i := 1085) (by decide +kernel)⟩
theorem lw_p47 : lw_okq (⟨"BridgePairsModel", "hour", "()V"⟩, 36) := ⟨⟨by decide +kernel, by decide +kernel⟩, List.mem_of_getElem? (i := 833) (by decide +kernel), List.mem_of_getElem? (i := 1088) (by decide +kernel), List.mem_of_getElem? (i := 1089) (by decide +kernel)⟩
def lw_privs_3 : List (MethodName × Nat) := [(⟨"BridgePairsModel", "isAt", "(I)Z"⟩, 36), (⟨"BridgePairsModel", "takes", "(I)V"⟩, 36), (⟨"BridgePairsModel", "number", "()I"⟩, 36), (⟨"BridgePairsModel", "isDigit", "()Z"⟩, 36), (⟨"BridgePairsModel", "any", "()Z"⟩, 36), (⟨"BridgePairsModel", "both", "()Z"⟩, 36), (⟨"BridgePairsModel", "factor", "()Z"⟩, 36), (⟨"BridgePairsModel", "test", "()Z"⟩, 36), (⟨"BridgePairsModel", "arrive", "(IIII)V"⟩, 36), (⟨"BridgePairsModel", "end", "(II)I"⟩, 36), (⟨"BridgePairsModel", "halfBy", "(II)I"⟩, 36), (⟨"BridgePairsModel", "sister", "(I)I"⟩, 36), (⟨"BridgePairsModel", "done", "(I)I"⟩, 36), (⟨"BridgePairsModel", "isDone", "(I)Z"⟩, 36), (⟨"BridgePairsModel", "isTruly", "(II)Z"⟩, 36), (⟨"BridgePairsModel", "hour", "()V"⟩, 36)]
theorem lw_r3 : ∀ q ∈ lw_privs_3, lw_okq q := List.forall_mem_cons.mpr ⟨lw_p32, List.forall_mem_cons.mpr ⟨lw_p33, List.forall_mem_cons.mpr ⟨lw_p34, List.forall_mem_cons.mpr ⟨lw_p35, List.forall_mem_cons.mpr ⟨lw_p36, List.forall_mem_cons.mpr ⟨lw_p37, List.forall_mem_cons.mpr ⟨lw_p38, List.forall_mem_cons.mpr ⟨lw_p39, List.forall_mem_cons.mpr ⟨lw_p40, List.forall_mem_cons.mpr ⟨lw_p41, List.forall_mem_cons.mpr ⟨lw_p42, List.forall_mem_cons.mpr ⟨lw_p43, List.forall_mem_cons.mpr ⟨lw_p44, List.forall_mem_cons.mpr ⟨lw_p45, List.forall_mem_cons.mpr ⟨lw_p46, List.forall_mem_cons.mpr ⟨lw_p47, fun _ h => absurd h List.not_mem_nil⟩⟩⟩⟩⟩⟩⟩⟩⟩⟩⟩⟩⟩⟩⟩⟩
theorem lw_p48 : lw_okq (⟨"BridgePairsModel", "longTo", "(II)I"⟩, 36) := ⟨⟨by decide +kernel, by decide +kernel⟩, List.mem_of_getElem? (i := 833) (by decide +kernel), List.mem_of_getElem? (i := 1092) (by decide +kernel), List.mem_of_getElem? (i := 1093) (by decide +kernel)⟩
theorem lw_p49 : lw_okq (⟨"BridgePairsModel", "crosses", "(II)V"⟩, 36) := ⟨⟨by decide +kernel, by decide +kernel⟩, List.mem_of_getElem? (i := 833) (by decide +kernel), List.mem_of_getElem? (i := 1096) (by decide +kernel), List.mem_of_getElem? (i := 1097) (by decide +kernel)⟩
theorem lw_p50 : lw_okq (⟨"BridgePairsModel", "may", "(I)I"⟩, 36) := ⟨⟨by decide +kernel, by decide +kernel⟩, List.mem_of_getElem? (i := 833) (by decide +kernel), List.mem_of_getElem? (i := 1100) (by decide +kernel), List.mem_of_getElem? (i := 1101) (by decide +kernel)⟩
theorem lw_p51 : lw_okq (⟨"BridgePairsModel", "isBridge", "(I)Z"⟩, 36) := ⟨⟨by decide +kernel, by decide +kernel⟩, List.mem_of_getElem? (i := 833) (by decide +kernel), List.mem_of_getElem? (i := 1104) (by decide +kernel), List.mem_of_getElem? (i := 1105) (by decide +kernel)⟩
theorem lw_p52 : lw_okq (⟨"BridgePairsModel", "isSwap", "(II)Z"⟩, 36) := ⟨⟨by decide +kernel, by decide +kernel⟩, List.mem_of_getElem? (i := 833) (by decide +kernel), List.mem_of_getElem? (i := 1128) (by decide +kernel), List.mem_of_getElem? (i := 1129) (by decide +kernel)⟩
theorem lw_p53 : lw_okq (⟨"BridgePairsModel", "goSwap", "(II)V"⟩, 36) := ⟨⟨by decide +kernel, by decide +kernel⟩, List.mem_of_getElem? (i := 833) (by decide +kernel), List.mem_of_getElem? (i := 1132) (by decide +kernel), List.mem_of_getElem? (i := 1133) (by decide +kernel)⟩
theorem lw_p54 : lw_okq (⟨"BridgePairsModel", "dones", "()I"⟩, 36) := ⟨⟨by decide +kernel, by decide +kernel⟩, List.mem_of_getElem? (i := 833) (by decide +kernel), List.mem_of_getElem? (i := 1152) (by decide +kernel), List.mem_of_getElem? (i := 1153) (by decide +kernel)⟩
theorem lw_p55 : lw_okq (⟨"BridgePairsModel", "halves", "()I"⟩, 36) := ⟨⟨by decide +kernel, by decide +kernel⟩, List.mem_of_getElem? (i := 833) (by decide +kernel), List.mem_of_getElem? (i := 1156) (by decide +kernel), List.mem_of_getElem? (i := 1157) (by decide +kernel)⟩
theorem lw_p56 : lw_okq (⟨"BridgePairsModel", "hours", "(I)V"⟩, 36) := ⟨⟨by decide +kernel, by decide +kernel⟩, List.mem_of_getElem? (i := 833) (by decide +kernel), List.mem_of_getElem? (i := 1164) (by decide +kernel), List.mem_of_getElem? (i := 1165) (by decide +kernel)⟩
theorem lw_p57 : lw_okq (⟨"BridgePairsModel", "fits", "(III)I"⟩, 36) := ⟨⟨by decide +kernel, by decide +kernel⟩, List.mem_of_getElem? (i := 833) (by decide +kernel), List.mem_of_getElem? (i := 1192) (by decide +kernel), List.mem_of_getElem? (i := 1193) (by decide +kernel)⟩
theorem lw_p58 : lw_okq (⟨"BridgePairsModel", "isAllSeen", "(I)Z"⟩, 36) := ⟨⟨by decide +kernel, by decide +kernel⟩, List.mem_of_getElem? (i := 833) (by decide +kernel), List.mem_of_getElem? (i := 1196) (by decide +kernel), List.mem_of_getElem? (i := 1197) (by decide +kernel)⟩
theorem lw_p59 : lw_okq (⟨"BridgePairsModel", "all", "(III)I"⟩, 36) := ⟨⟨by decide +kernel, by decide +kernel⟩, List.mem_of_getElem? (i := 833) (by decide +kernel), List.mem_of_getElem? (i := 1237) (by decide +kernel), List.mem_of_getElem? (i := 1238) (by decide +kernel)⟩
theorem lw_p60 : lw_okq (⟨"BridgePairsModel", "byKind", "(IIII)I"⟩, 36) := ⟨⟨by decide +kernel, by decide +kernel⟩, List.mem_of_getElem? (i := 833) (by decide +kernel), List.mem_of_getElem? (i := 1241) (by decide +kernel), List.mem_of_getElem? (i := 1242) (by decide +kernel)⟩
theorem lw_p61 : lw_okq (⟨"BridgePairsModel", "body", "(I)I"⟩, 36) := ⟨⟨by decide +kernel, by decide +kernel⟩, List.mem_of_getElem? (i := 833) (by decide +kernel), List.mem_of_getElem? (i := 1245) (by decide +kernel), List.mem_of_getElem? (i := 1246) (by decide +kernel)⟩
def lw_privs_4 : List (MethodName × Nat) := [(⟨"BridgePairsModel", "longTo", "(II)I"⟩, 36), (⟨"BridgePairsModel", "crosses", "(II)V"⟩, 36), (⟨"BridgePairsModel", "may", "(I)I"⟩, 36), (⟨"BridgePairsModel", "isBridge", "(I)Z"⟩, 36), (⟨"BridgePairsModel", "isSwap", "(II)Z"⟩, 36), (⟨"BridgePairsModel", "goSwap", "(II)V"⟩, 36), (⟨"BridgePairsModel", "dones", "()I"⟩, 36), (⟨"BridgePairsModel", "halves", "()I"⟩, 36), (⟨"BridgePairsModel", "hours", "(I)V"⟩, 36), (⟨"BridgePairsModel", "fits", "(III)I"⟩, 36), (⟨"BridgePairsModel", "isAllSeen", "(I)Z"⟩, 36), (⟨"BridgePairsModel", "all", "(III)I"⟩, 36), (⟨"BridgePairsModel", "byKind", "(IIII)I"⟩, 36), (⟨"BridgePairsModel", "body", "(I)I"⟩, 36)]
theorem lw_r4 : ∀ q ∈ lw_privs_4, lw_okq q := List.forall_mem_cons.mpr ⟨lw_p48, List.forall_mem_cons.mpr ⟨lw_p49, List.forall_mem_cons.mpr ⟨lw_p50, List.forall_mem_cons.mpr ⟨lw_p51, List.forall_mem_cons.mpr ⟨lw_p52, List.forall_mem_cons.mpr ⟨lw_p53, List.forall_mem_cons.mpr ⟨lw_p54, List.forall_mem_cons.mpr ⟨lw_p55, List.forall_mem_cons.mpr ⟨lw_p56, List.forall_mem_cons.mpr ⟨lw_p57, List.forall_mem_cons.mpr ⟨lw_p58, List.forall_mem_cons.mpr ⟨lw_p59, List.forall_mem_cons.mpr ⟨lw_p60, List.forall_mem_cons.mpr ⟨lw_p61, fun _ h => absurd h List.not_mem_nil⟩⟩⟩⟩⟩⟩⟩⟩⟩⟩⟩⟩⟩⟩
def lw_privs : List (MethodName × Nat) := lw_privs_1 ++ (lw_privs_2 ++ (lw_privs_3 ++ (lw_privs_4)))
def lw_tbl : List Cond := k2_sels lw_privs ++ tables_1
theorem lw_privs_ok : ∀ q ∈ lw_privs, lw_okq q := by
  show ∀ q ∈ lw_privs_1 ++ (lw_privs_2 ++ (lw_privs_3 ++ (lw_privs_4))), lw_okq q
  exact List.forall_mem_append.mpr ⟨lw_r1, List.forall_mem_append.mpr ⟨lw_r2, List.forall_mem_append.mpr ⟨lw_r3, lw_r4⟩⟩⟩
def RX0 : String := "BridgePairs$Acts"
def TX0 : u_T := fun k => match k with
  | 0 => ("BridgePairs$Acts", "bodies", "[I", true)
  | 1 => ("BridgePairs$Acts", "ran", "I", false)
  | 2 => ("BridgePairs$Acts", "kind", "I", false)
  | 3 => ("BridgePairs$Acts", "v", "I", false)
  | _ => ("BridgePairs$Acts", "number", "I", false)
def tyX0 : Nat → FieldType := fun k => match k with
  | 0 => .array .int
  | 1 => .int
  | 2 => .int
  | 3 => .int
  | _ => .int
abbrev wsX00 : List Cond := u_ws RX0 TX0 5
theorem nmX0 : ∀ a, a < 5 → ∀ b, b < 5 → a ≠ b → (TX0 a).2.1 ≠ (TX0 b).2.1 := by decide +kernel
theorem tyX0_ok : ∀ k, k < 5 → parseFieldDescriptor (TX0 k).2.2.1 = some (tyX0 k) := by decide +kernel
abbrev cX0_init : ByteArray := prog_2_method_1_code
def yX0_init : MethodName := ⟨RX0, "<init>", "()V"⟩
abbrev cX0_begin : ByteArray := prog_2_method_2_code
def yX0_begin : MethodName := ⟨RX0, "begin", "(LBridgePairs$Person;III)I"⟩
abbrev cX0_perform : ByteArray := prog_2_method_3_code
def yX0_perform : MethodName := ⟨RX0, "perform", "(IIII)I"⟩
abbrev cX0_answer : ByteArray := prog_2_method_4_code
def yX0_answer : MethodName := ⟨RX0, "answer", "(IIII)I"⟩
def RX1 : String := "BridgePairs$City"
def TX1 : u_T := fun k => match k with
  | 0 => ("BridgePairs$City", "dark", "I", false)
  | 1 => ("BridgePairs$City", "codes", "[I", true)
  | 2 => ("BridgePairs$City", "size", "I", false)
  | _ => ("BridgePairs$City", "facts", "[I", true)
def tyX1 : Nat → FieldType := fun k => match k with
  | 0 => .int
  | 1 => .array .int
  | 2 => .int
  | _ => .array .int
abbrev wsX10 : List Cond := u_ws RX1 TX1 4
theorem nmX1 : ∀ a, a < 4 → ∀ b, b < 4 → a ≠ b → (TX1 a).2.1 ≠ (TX1 b).2.1 := by decide +kernel
theorem tyX1_ok : ∀ k, k < 4 → parseFieldDescriptor (TX1 k).2.2.1 = some (tyX1 k) := by decide +kernel
abbrev cX1_init : ByteArray := prog_3_method_1_code
def yX1_init : MethodName := ⟨RX1, "<init>", "()V"⟩
abbrev cX1_clear : ByteArray := prog_3_method_2_code
def yX1_clear : MethodName := ⟨RX1, "clear", "()V"⟩
abbrev cX1_add : ByteArray := prog_3_method_3_code
def yX1_add : MethodName := ⟨RX1, "add", "(I)V"⟩
abbrev cX1_sum : ByteArray := prog_3_method_4_code
def yX1_sum : MethodName := ⟨RX1, "sum", "(IIIIII)I"⟩
def RX2 : String := "BridgePairs$Person"
def TX2 : u_T := fun k => match k with
  | 0 => ("BridgePairs$Person", "kind", "I", false)
  | 1 => ("BridgePairs$Person", "v", "I", false)
  | 2 => ("BridgePairs$Person", "at", "I", false)
  | 3 => ("BridgePairs$Person", "said", "I", false)
  | 4 => ("BridgePairs$Person", "errand", "I", false)
  | 5 => ("BridgePairs$Person", "half", "I", false)
  | _ => ("BridgePairs$Person", "row", "[I", true)
def tyX2 : Nat → FieldType := fun k => match k with
  | 0 => .int
  | 1 => .int
  | 2 => .int
  | 3 => .int
  | 4 => .int
  | 5 => .int
  | _ => .array .int
abbrev wsX20 : List Cond := u_ws RX2 TX2 7
theorem nmX2 : ∀ a, a < 7 → ∀ b, b < 7 → a ≠ b → (TX2 a).2.1 ≠ (TX2 b).2.1 := by decide +kernel
theorem tyX2_ok : ∀ k, k < 7 → parseFieldDescriptor (TX2 k).2.2.1 = some (tyX2 k) := by decide +kernel
abbrev cX2_init : ByteArray := prog_4_method_1_code
def yX2_init : MethodName := ⟨RX2, "<init>", "()V"⟩
abbrev cX2_become : ByteArray := prog_4_method_2_code
def yX2_become : MethodName := ⟨RX2, "become", "(III)V"⟩
abbrev cX2_copyFrom : ByteArray := prog_4_method_3_code
def yX2_copyFrom : MethodName := ⟨RX2, "copyFrom", "(LBridgePairs$Person;)V"⟩
abbrev cX2_isDone : ByteArray := prog_4_method_4_code
def yX2_isDone : MethodName := ⟨RX2, "isDone", "()Z"⟩
def RX3 : String := "BridgePairs$Rows"
def TX3 : u_T := fun k => match k with
  | 0 => ("BridgePairs$Rows", "number", "[I", true)
  | 1 => ("BridgePairs$Rows", "place", "[I", true)
  | 2 => ("BridgePairs$Rows", "hours", "[I", true)
  | _ => ("BridgePairs$Rows", "count", "I", false)
def tyX3 : Nat → FieldType := fun k => match k with
  | 0 => .array .int
  | 1 => .array .int
  | 2 => .array .int
  | _ => .int
abbrev wsX30 : List Cond := u_ws RX3 TX3 4
theorem nmX3 : ∀ a, a < 4 → ∀ b, b < 4 → a ≠ b → (TX3 a).2.1 ≠ (TX3 b).2.1 := by decide +kernel
theorem tyX3_ok : ∀ k, k < 4 → parseFieldDescriptor (TX3 k).2.2.1 = some (tyX3 k) := by decide +kernel
abbrev cX3_init : ByteArray := prog_5_method_1_code
def yX3_init : MethodName := ⟨RX3, "<init>", "(I)V"⟩
abbrev cX3_empty : ByteArray := prog_5_method_2_code
def yX3_empty : MethodName := ⟨RX3, "empty", "()I"⟩
abbrev cX3_add : ByteArray := prog_5_method_3_code
def yX3_add : MethodName := ⟨RX3, "add", "(III)I"⟩
abbrev cX3_copyFrom : ByteArray := prog_5_method_4_code
def yX3_copyFrom : MethodName := ⟨RX3, "copyFrom", "(LBridgePairs$Rows;)V"⟩
abbrev cX3_lastHour : ByteArray := prog_5_method_5_code
def yX3_lastHour : MethodName := ⟨RX3, "lastHour", "(I)I"⟩
abbrev cX3_agrees : ByteArray := prog_5_method_6_code
def yX3_agrees : MethodName := ⟨RX3, "agrees", "(III)Z"⟩
def RX4 : String := "BridgePairs$Tape"
def TX4 : u_T := fun k => match k with
  | 0 => ("BridgePairs$Tape", "sort", "I", false)
  | 1 => ("BridgePairs$Tape", "items", "[J", true)
  | _ => ("BridgePairs$Tape", "length", "I", false)
def tyX4 : Nat → FieldType := fun k => match k with
  | 0 => .int
  | 1 => .array .long
  | _ => .int
abbrev wsX40 : List Cond := u_ws RX4 TX4 3
theorem nmX4 : ∀ a, a < 3 → ∀ b, b < 3 → a ≠ b → (TX4 a).2.1 ≠ (TX4 b).2.1 := by decide +kernel
theorem tyX4_ok : ∀ k, k < 3 → parseFieldDescriptor (TX4 k).2.2.1 = some (tyX4 k) := by decide +kernel
abbrev cX4_init : ByteArray := prog_6_method_1_code
def yX4_init : MethodName := ⟨RX4, "<init>", "()V"⟩
abbrev cX4_become : ByteArray := prog_6_method_2_code
def yX4_become : MethodName := ⟨RX4, "become", "(II)V"⟩
abbrev cX4_hasPlace : ByteArray := prog_6_method_3_code
def yX4_hasPlace : MethodName := ⟨RX4, "hasPlace", "(I)Z"⟩
abbrev cX4_hasPart : ByteArray := prog_6_method_4_code
def yX4_hasPart : MethodName := ⟨RX4, "hasPart", "(II)Z"⟩
abbrev cX4_asItem : ByteArray := prog_6_method_5_code
def yX4_asItem : MethodName := ⟨RX4, "asItem", "(J)J"⟩
def RX5 : String := "BridgePairs$Text"
def TX5 : u_T := fun k => match k with
  | 0 => ("BridgePairs$Text", "signs", "[I", true)
  | 1 => ("BridgePairs$Text", "length", "I", false)
  | 2 => ("BridgePairs$Text", "place", "I", false)
  | _ => ("BridgePairs$Text", "number", "I", false)
def tyX5 : Nat → FieldType := fun k => match k with
  | 0 => .array .int
  | 1 => .int
  | 2 => .int
  | _ => .int
abbrev wsX50 : List Cond := u_ws RX5 TX5 4
theorem nmX5 : ∀ a, a < 4 → ∀ b, b < 4 → a ≠ b → (TX5 a).2.1 ≠ (TX5 b).2.1 := by decide +kernel
theorem tyX5_ok : ∀ k, k < 4 → parseFieldDescriptor (TX5 k).2.2.1 = some (tyX5 k) := by decide +kernel
abbrev cX5_init : ByteArray := prog_7_method_1_code
def yX5_init : MethodName := ⟨RX5, "<init>", "()V"⟩
abbrev cX5_append : ByteArray := prog_7_method_2_code
def yX5_append : MethodName := ⟨RX5, "append", "(I)I"⟩
abbrev cX5_readInto : ByteArray := prog_7_method_3_code
def yX5_readInto : MethodName := ⟨RX5, "readInto", "(LBridgePairs$City;)I"⟩
abbrev cX5_readClause : ByteArray := prog_7_method_4_code
def yX5_readClause : MethodName := ⟨RX5, "readClause", "(LBridgePairs$City;)Z"⟩
abbrev cX5_readExpression : ByteArray := prog_7_method_5_code
def yX5_readExpression : MethodName := ⟨RX5, "readExpression", "(LBridgePairs$City;I)Z"⟩
abbrev cX5_readFactor : ByteArray := prog_7_method_6_code
def yX5_readFactor : MethodName := ⟨RX5, "readFactor", "(LBridgePairs$City;I)Z"⟩
abbrev cX5_readDenied : ByteArray := prog_7_method_7_code
def yX5_readDenied : MethodName := ⟨RX5, "readDenied", "(LBridgePairs$City;I)Z"⟩
abbrev cX5_readTest : ByteArray := prog_7_method_8_code
def yX5_readTest : MethodName := ⟨RX5, "readTest", "(LBridgePairs$City;)Z"⟩
abbrev cX5_sign : ByteArray := prog_7_method_9_code
def yX5_sign : MethodName := ⟨RX5, "sign", "()I"⟩
abbrev cX5_takes : ByteArray := prog_7_method_10_code
def yX5_takes : MethodName := ⟨RX5, "takes", "(C)Z"⟩
abbrev cX5_takesWord : ByteArray := prog_7_method_11_code
def yX5_takesWord : MethodName := ⟨RX5, "takesWord", "(Ljava/lang/String;)Z"⟩
abbrev cX5_takesOneOf : ByteArray := prog_7_method_12_code
def yX5_takesOneOf : MethodName := ⟨RX5, "takesOneOf", "(Ljava/lang/String;)I"⟩
abbrev cX5_takesNumber : ByteArray := prog_7_method_13_code
def yX5_takesNumber : MethodName := ⟨RX5, "takesNumber", "()Z"⟩
def RX6 : String := "BridgePairs$Ways"
def TX6 : u_T := fun k => match k with
  | 0 => ("BridgePairs$Ways", "queue", "[I", true)
  | 1 => ("BridgePairs$Ways", "link", "[I", true)
  | 2 => ("BridgePairs$Ways", "isMet", "[Z", true)
  | 3 => ("BridgePairs$Ways", "may", "[I", true)
  | 4 => ("BridgePairs$Ways", "tail", "I", false)
  | _ => ("BridgePairs$Ways", "length", "I", false)
def tyX6 : Nat → FieldType := fun k => match k with
  | 0 => .array .int
  | 1 => .array .int
  | 2 => .array .boolean
  | 3 => .array .int
  | 4 => .int
  | _ => .int
abbrev wsX60 : List Cond := u_ws RX6 TX6 6
theorem nmX6 : ∀ a, a < 6 → ∀ b, b < 6 → a ≠ b → (TX6 a).2.1 ≠ (TX6 b).2.1 := by decide +kernel
theorem tyX6_ok : ∀ k, k < 6 → parseFieldDescriptor (TX6 k).2.2.1 = some (tyX6 k) := by decide +kernel
abbrev cX6_init : ByteArray := prog_8_method_1_code
def yX6_init : MethodName := ⟨RX6, "<init>", "()V"⟩
abbrev cX6_search : ByteArray := prog_8_method_2_code
def yX6_search : MethodName := ⟨RX6, "search", "(LBridgePairs$World;II)I"⟩
abbrev cX6_stepAt : ByteArray := prog_8_method_3_code
def yX6_stepAt : MethodName := ⟨RX6, "stepAt", "(I)I"⟩
abbrev cX6_reachable : ByteArray := prog_8_method_4_code
def yX6_reachable : MethodName := ⟨RX6, "reachable", "(LBridgePairs$World;I)I"⟩
abbrev cX6_begin : ByteArray := prog_8_method_5_code
def yX6_begin : MethodName := ⟨RX6, "begin", "(LBridgePairs$Person;)V"⟩
abbrev cX6_meet : ByteArray := prog_8_method_6_code
def yX6_meet : MethodName := ⟨RX6, "meet", "(II)Z"⟩
def RX7 : String := "BridgePairs$World"
def TX7 : u_T := fun k => match k with
  | 0 => ("BridgePairs$World", "bridges", "I", false)
  | 1 => ("BridgePairs$World", "first", "[I", true)
  | 2 => ("BridgePairs$World", "second", "[I", true)
  | 3 => ("BridgePairs$World", "sister", "[I", true)
  | 4 => ("BridgePairs$World", "lost", "I", false)
  | 5 => ("BridgePairs$World", "people", "I", false)
  | 6 => ("BridgePairs$World", "persons", "[LBridgePairs$Person;", true)
  | 7 => ("BridgePairs$World", "hour", "I", false)
  | 8 => ("BridgePairs$World", "city", "LBridgePairs$City;", false)
  | 9 => ("BridgePairs$World", "seen", "LBridgePairs$Rows;", true)
  | 10 => ("BridgePairs$World", "plan", "LBridgePairs$Rows;", true)
  | _ => ("BridgePairs$World", "book", "LBridgePairs$Rows;", true)
def tyX7 : Nat → FieldType := fun k => match k with
  | 0 => .int
  | 1 => .array .int
  | 2 => .array .int
  | 3 => .array .int
  | 4 => .int
  | 5 => .int
  | 6 => .array (.object "BridgePairs$Person")
  | 7 => .int
  | 8 => .object "BridgePairs$City"
  | 9 => .object "BridgePairs$Rows"
  | 10 => .object "BridgePairs$Rows"
  | _ => .object "BridgePairs$Rows"
abbrev wsX70 : List Cond := u_ws RX7 TX7 12
theorem nmX7 : ∀ a, a < 12 → ∀ b, b < 12 → a ≠ b → (TX7 a).2.1 ≠ (TX7 b).2.1 := by decide +kernel
theorem tyX7_ok : ∀ k, k < 12 → parseFieldDescriptor (TX7 k).2.2.1 = some (tyX7 k) := by decide +kernel
abbrev cX7_init : ByteArray := prog_9_method_1_code
def yX7_init : MethodName := ⟨RX7, "<init>", "()V"⟩
abbrev cX7_copyFrom : ByteArray := prog_9_method_2_code
def yX7_copyFrom : MethodName := ⟨RX7, "copyFrom", "(LBridgePairs$World;)V"⟩
abbrev cX7_addBridge : ByteArray := prog_9_method_3_code
def yX7_addBridge : MethodName := ⟨RX7, "addBridge", "(II)I"⟩
abbrev cX7_addPerson : ByteArray := prog_9_method_4_code
def yX7_addPerson : MethodName := ⟨RX7, "addPerson", "(III)I"⟩
abbrev cX7_setLost : ByteArray := prog_9_method_5_code
def yX7_setLost : MethodName := ⟨RX7, "setLost", "(IZ)V"⟩
abbrev cX7_canExchange : ByteArray := prog_9_method_6_code
def yX7_canExchange : MethodName := ⟨RX7, "canExchange", "(II)Z"⟩
abbrev cX7_exchange : ByteArray := prog_9_method_7_code
def yX7_exchange : MethodName := ⟨RX7, "exchange", "(II)V"⟩
abbrev cX7_otherEnd : ByteArray := prog_9_method_8_code
def yX7_otherEnd : MethodName := ⟨RX7, "otherEnd", "(II)I"⟩
abbrev cX7_halfBehind : ByteArray := prog_9_method_9_code
def yX7_halfBehind : MethodName := ⟨RX7, "halfBehind", "(II)I"⟩
abbrev cX7_goOver : ByteArray := prog_9_method_10_code
def yX7_goOver : MethodName := ⟨RX7, "goOver", "(II)V"⟩
abbrev cX7_leave : ByteArray := prog_9_method_11_code
def yX7_leave : MethodName := ⟨RX7, "leave", "(III)I"⟩
abbrev cX7_mayCross : ByteArray := prog_9_method_12_code
def yX7_mayCross : MethodName := ⟨RX7, "mayCross", "(III)Z"⟩
abbrev cX7_dark : ByteArray := prog_9_method_13_code
def yX7_dark : MethodName := ⟨RX7, "dark", "()I"⟩
abbrev cX7_arrived : ByteArray := prog_9_method_14_code
def yX7_arrived : MethodName := ⟨RX7, "arrived", "()I"⟩
abbrev cX7_halves : ByteArray := prog_9_method_15_code
def yX7_halves : MethodName := ⟨RX7, "halves", "()I"⟩
def RX8 : String := "BridgePairs"
def TX8 : u_T := fun k => match k with
  | 0 => ("BridgePairs", "now", "LBridgePairs$World;", true)
  | 1 => ("BridgePairs", "kept", "LBridgePairs$World;", true)
  | 2 => ("BridgePairs", "trial", "LBridgePairs$World;", true)
  | 3 => ("BridgePairs", "ways", "LBridgePairs$Ways;", true)
  | 4 => ("BridgePairs", "text", "LBridgePairs$Text;", true)
  | 5 => ("BridgePairs", "cities", "[LBridgePairs$City;", true)
  | 6 => ("BridgePairs", "tapes", "[LBridgePairs$Tape;", true)
  | 7 => ("BridgePairs", "acts", "LBridgePairs$Acts;", true)
  | 8 => ("BridgePairs", "cityCount", "I", false)
  | _ => ("BridgePairs", "hasImage", "Z", false)
def tyX8 : Nat → FieldType := fun k => match k with
  | 0 => .object "BridgePairs$World"
  | 1 => .object "BridgePairs$World"
  | 2 => .object "BridgePairs$World"
  | 3 => .object "BridgePairs$Ways"
  | 4 => .object "BridgePairs$Text"
  | 5 => .array (.object "BridgePairs$City")
  | 6 => .array (.object "BridgePairs$Tape")
  | 7 => .object "BridgePairs$Acts"
  | 8 => .int
  | _ => .boolean
abbrev wsX80 : List Cond := u_ws RX8 TX8 10
theorem nmX8 : ∀ a, a < 10 → ∀ b, b < 10 → a ≠ b → (TX8 a).2.1 ≠ (TX8 b).2.1 := by decide +kernel
theorem tyX8_ok : ∀ k, k < 10 → parseFieldDescriptor (TX8 k).2.2.1 = some (tyX8 k) := by decide +kernel
abbrev cX8_init : ByteArray := prog_1_method_1_code
def yX8_init : MethodName := ⟨RX8, "<init>", "()V"⟩
abbrev cX8_bridge : ByteArray := prog_1_method_2_code
def yX8_bridge : MethodName := ⟨RX8, "bridge", "(II)I"⟩
abbrev cX8_one : ByteArray := prog_1_method_3_code
def yX8_one : MethodName := ⟨RX8, "one", "(III)I"⟩
abbrev cX8_of : ByteArray := prog_1_method_4_code
def yX8_of : MethodName := ⟨RX8, "of", "(II)I"⟩
abbrev cX8_span : ByteArray := prog_1_method_5_code
def yX8_span : MethodName := ⟨RX8, "span", "(II)I"⟩
abbrev cX8_errand : ByteArray := prog_1_method_6_code
def yX8_errand : MethodName := ⟨RX8, "errand", "(II)I"⟩
abbrev cX8_cross : ByteArray := prog_1_method_7_code
def yX8_cross : MethodName := ⟨RX8, "cross", "(II)I"⟩
abbrev cX8_lose : ByteArray := prog_1_method_8_code
def yX8_lose : MethodName := ⟨RX8, "lose", "(IZ)I"⟩
abbrev cX8_swap : ByteArray := prog_1_method_9_code
def yX8_swap : MethodName := ⟨RX8, "swap", "(II)I"⟩
abbrev cX8_row : ByteArray := prog_1_method_10_code
def yX8_row : MethodName := ⟨RX8, "row", "(III)I"⟩
abbrev cX8_feed : ByteArray := prog_1_method_11_code
def yX8_feed : MethodName := ⟨RX8, "feed", "(I)I"⟩
abbrev cX8_city : ByteArray := prog_1_method_12_code
def yX8_city : MethodName := ⟨RX8, "city", "()I"⟩
abbrev cX8_told : ByteArray := prog_1_method_13_code
def yX8_told : MethodName := ⟨RX8, "told", "(I)I"⟩
abbrev cX8_pass : ByteArray := prog_1_method_14_code
def yX8_pass : MethodName := ⟨RX8, "pass", "(I)I"⟩
abbrev cX8_on : ByteArray := prog_1_method_15_code
def yX8_on : MethodName := ⟨RX8, "on", "(II)I"⟩
abbrev cX8_way : ByteArray := prog_1_method_16_code
def yX8_way : MethodName := ⟨RX8, "way", "(III)I"⟩
abbrev cX8_sisters : ByteArray := prog_1_method_17_code
def yX8_sisters : MethodName := ⟨RX8, "sisters", "(II)I"⟩
abbrev cX8_see : ByteArray := prog_1_method_18_code
def yX8_see : MethodName := ⟨RX8, "see", "(III)I"⟩
abbrev cX8_from : ByteArray := prog_1_method_19_code
def yX8_from : MethodName := ⟨RX8, "from", "(I)I"⟩
abbrev cX8_can : ByteArray := prog_1_method_20_code
def yX8_can : MethodName := ⟨RX8, "can", "(II)I"⟩
abbrev cX8_odds : ByteArray := prog_1_method_21_code
def yX8_odds : MethodName := ⟨RX8, "odds", "(III)J"⟩
abbrev cX8_mean : ByteArray := prog_1_method_22_code
def yX8_mean : MethodName := ⟨RX8, "mean", "(I)J"⟩
abbrev cX8_plan : ByteArray := prog_1_method_23_code
def yX8_plan : MethodName := ⟨RX8, "plan", "(II)I"⟩
abbrev cX8_ends : ByteArray := prog_1_method_24_code
def yX8_ends : MethodName := ⟨RX8, "ends", "(I)I"⟩
abbrev cX8_book : ByteArray := prog_1_method_25_code
def yX8_book : MethodName := ⟨RX8, "book", "(II)I"⟩
abbrev cX8_looked : ByteArray := prog_1_method_26_code
def yX8_looked : MethodName := ⟨RX8, "looked", "()I"⟩
abbrev cX8_judge : ByteArray := prog_1_method_27_code
def yX8_judge : MethodName := ⟨RX8, "judge", "(II)I"⟩
abbrev cX8_image : ByteArray := prog_1_method_28_code
def yX8_image : MethodName := ⟨RX8, "image", "()I"⟩
abbrev cX8_undo : ByteArray := prog_1_method_29_code
def yX8_undo : MethodName := ⟨RX8, "undo", "()I"⟩
abbrev cX8_act : ByteArray := prog_1_method_30_code
def yX8_act : MethodName := ⟨RX8, "act", "(III)I"⟩
abbrev cX8_trace : ByteArray := prog_1_method_31_code
def yX8_trace : MethodName := ⟨RX8, "trace", "(I)I"⟩
abbrev cX8_taken : ByteArray := prog_1_method_32_code
def yX8_taken : MethodName := ⟨RX8, "taken", "(II)I"⟩
abbrev cX8_count : ByteArray := prog_1_method_33_code
def yX8_count : MethodName := ⟨RX8, "count", "(I)I"⟩
abbrev cX8_tape : ByteArray := prog_1_method_34_code
def yX8_tape : MethodName := ⟨RX8, "tape", "(III)I"⟩
abbrev cX8_item : ByteArray := prog_1_method_35_code
def yX8_item : MethodName := ⟨RX8, "item", "(IIJ)I"⟩
abbrev cX8_read : ByteArray := prog_1_method_36_code
def yX8_read : MethodName := ⟨RX8, "read", "(II)J"⟩
abbrev cX8_shift : ByteArray := prog_1_method_37_code
def yX8_shift : MethodName := ⟨RX8, "shift", "(IIIII)I"⟩
abbrev cX8_isQuarter : ByteArray := prog_1_method_38_code
def yX8_isQuarter : MethodName := ⟨RX8, "isQuarter", "(I)Z"⟩
abbrev cX8_isTape : ByteArray := prog_1_method_39_code
def yX8_isTape : MethodName := ⟨RX8, "isTape", "(I)Z"⟩
abbrev cX8_isPart : ByteArray := prog_1_method_40_code
def yX8_isPart : MethodName := ⟨RX8, "isPart", "(I)Z"⟩
abbrev cX8_isPerson : ByteArray := prog_1_method_41_code
def yX8_isPerson : MethodName := ⟨RX8, "isPerson", "(I)Z"⟩
abbrev cX8_isBridge : ByteArray := prog_1_method_42_code
def yX8_isBridge : MethodName := ⟨RX8, "isBridge", "(I)Z"⟩
abbrev cX8_isUnder : ByteArray := prog_1_method_43_code
def yX8_isUnder : MethodName := ⟨RX8, "isUnder", "(II)Z"⟩
abbrev cX8_lengthOrFar : ByteArray := prog_1_method_44_code
def yX8_lengthOrFar : MethodName := ⟨RX8, "lengthOrFar", "(I)I"⟩
abbrev cX8_lowest : ByteArray := prog_1_method_45_code
def yX8_lowest : MethodName := ⟨RX8, "lowest", "(III)J"⟩
abbrev cX8_hoursGo : ByteArray := prog_1_method_46_code
def yX8_hoursGo : MethodName := ⟨RX8, "hoursGo", "(LBridgePairs$World;II)V"⟩
abbrev cX8_hoursUntilDone : ByteArray := prog_1_method_47_code
def yX8_hoursUntilDone : MethodName := ⟨RX8, "hoursUntilDone", "(I)I"⟩
abbrev cX8_crossable : ByteArray := prog_1_method_48_code
def yX8_crossable : MethodName := ⟨RX8, "crossable", "(I)I"⟩
abbrev cX8_leaveNow : ByteArray := prog_1_method_49_code
def yX8_leaveNow : MethodName := ⟨RX8, "leaveNow", "(II)I"⟩
abbrev cX8_goesAsSeen : ByteArray := prog_1_method_50_code
def yX8_goesAsSeen : MethodName := ⟨RX8, "goesAsSeen", "(I)Z"⟩
def RX9 : String := "BridgePairsModel"
def TX9 : u_T := fun k => match k with
  | 0 => ("BridgePairsModel", "now", "[I", true)
  | 1 => ("BridgePairsModel", "mind", "[I", true)
  | 2 => ("BridgePairsModel", "then", "[I", true)
  | 3 => ("BridgePairsModel", "kept", "Z", false)
  | 4 => ("BridgePairsModel", "text", "[I", true)
  | 5 => ("BridgePairsModel", "texted", "I", false)
  | 6 => ("BridgePairsModel", "rules", "[I", true)
  | 7 => ("BridgePairsModel", "sizes", "[I", true)
  | 8 => ("BridgePairsModel", "ruled", "I", false)
  | 9 => ("BridgePairsModel", "read", "[I", true)
  | 10 => ("BridgePairsModel", "size", "I", false)
  | 11 => ("BridgePairsModel", "at", "I", false)
  | 12 => ("BridgePairsModel", "well", "Z", false)
  | 13 => ("BridgePairsModel", "within", "I", false)
  | 14 => ("BridgePairsModel", "sum", "I", false)
  | 15 => ("BridgePairsModel", "dark", "I", false)
  | 16 => ("BridgePairsModel", "names", "[I", true)
  | 17 => ("BridgePairsModel", "letters", "[C", true)
  | 18 => ("BridgePairsModel", "begins", "[C", true)
  | 19 => ("BridgePairsModel", "words", "[C", true)
  | 20 => ("BridgePairsModel", "mays", "[I", true)
  | 21 => ("BridgePairsModel", "been", "[Z", true)
  | 22 => ("BridgePairsModel", "come", "[I", true)
  | 23 => ("BridgePairsModel", "from", "[I", true)
  | 24 => ("BridgePairsModel", "by", "[I", true)
  | 25 => ("BridgePairsModel", "far", "[I", true)
  | 26 => ("BridgePairsModel", "comes", "I", false)
  | 27 => ("BridgePairsModel", "steps", "[I", true)
  | 28 => ("BridgePairsModel", "above", "[I", true)
  | 29 => ("BridgePairsModel", "bodies", "[I", true)
  | 30 => ("BridgePairsModel", "trace", "[I", true)
  | 31 => ("BridgePairsModel", "ran", "I", false)
  | 32 => ("BridgePairsModel", "sorts", "[I", true)
  | 33 => ("BridgePairsModel", "lengths", "[I", true)
  | 34 => ("BridgePairsModel", "items", "[J", true)
  | _ => ("BridgePairsModel", "moved", "[J", true)
def tyX9 : Nat → FieldType := fun k => match k with
  | 0 => .array .int
  | 1 => .array .int
  | 2 => .array .int
  | 3 => .boolean
  | 4 => .array .int
  | 5 => .int
  | 6 => .array .int
  | 7 => .array .int
  | 8 => .int
  | 9 => .array .int
  | 10 => .int
  | 11 => .int
  | 12 => .boolean
  | 13 => .int
  | 14 => .int
  | 15 => .int
  | 16 => .array .int
  | 17 => .array .char
  | 18 => .array .char
  | 19 => .array .char
  | 20 => .array .int
  | 21 => .array .boolean
  | 22 => .array .int
  | 23 => .array .int
  | 24 => .array .int
  | 25 => .array .int
  | 26 => .int
  | 27 => .array .int
  | 28 => .array .int
  | 29 => .array .int
  | 30 => .array .int
  | 31 => .int
  | 32 => .array .int
  | 33 => .array .int
  | 34 => .array .long
  | _ => .array .long
abbrev wsX90 : List Cond := u_ws RX9 TX9 36
theorem nmX9 : ∀ a, a < 36 → ∀ b, b < 36 → a ≠ b → (TX9 a).2.1 ≠ (TX9 b).2.1 := by decide +kernel
theorem tyX9_ok : ∀ k, k < 36 → parseFieldDescriptor (TX9 k).2.2.1 = some (tyX9 k) := by decide +kernel
abbrev cX9_init : ByteArray := prog_11_method_1_code
def yX9_init : MethodName := ⟨RX9, "<init>", "()V"⟩
abbrev cX9_isIn : ByteArray := prog_11_method_2_code
def yX9_isIn : MethodName := ⟨RX9, "isIn", "(III)Z"⟩
abbrev cX9_move : ByteArray := prog_11_method_3_code
def yX9_move : MethodName := ⟨RX9, "move", "([I[I)V"⟩
abbrev cX9_image : ByteArray := prog_11_method_4_code
def yX9_image : MethodName := ⟨RX9, "image", "()I"⟩
abbrev cX9_undo : ByteArray := prog_11_method_5_code
def yX9_undo : MethodName := ⟨RX9, "undo", "()I"⟩
abbrev cX9_isQuarter : ByteArray := prog_11_method_6_code
def yX9_isQuarter : MethodName := ⟨RX9, "isQuarter", "(I)Z"⟩
abbrev cX9_isBridge : ByteArray := prog_11_method_7_code
def yX9_isBridge : MethodName := ⟨RX9, "isBridge", "(I)Z"⟩
abbrev cX9_isOne : ByteArray := prog_11_method_8_code
def yX9_isOne : MethodName := ⟨RX9, "isOne", "(I)Z"⟩
abbrev cX9_one : ByteArray := prog_11_method_9_code
def yX9_one : MethodName := ⟨RX9, "one", "(II)I"⟩
abbrev cX9_change : ByteArray := prog_11_method_10_code
def yX9_change : MethodName := ⟨RX9, "change", "(III)I"⟩
abbrev cX9_end : ByteArray := prog_11_method_11_code
def yX9_end : MethodName := ⟨RX9, "end", "(II)I"⟩
abbrev cX9_sister : ByteArray := prog_11_method_12_code
def yX9_sister : MethodName := ⟨RX9, "sister", "(I)I"⟩
abbrev cX9_isLost : ByteArray := prog_11_method_13_code
def yX9_isLost : MethodName := ⟨RX9, "isLost", "(I)Z"⟩
abbrev cX9_many : ByteArray := prog_11_method_14_code
def yX9_many : MethodName := ⟨RX9, "many", "(I)I"⟩
abbrev cX9_orNever : ByteArray := prog_11_method_15_code
def yX9_orNever : MethodName := ⟨RX9, "orNever", "(I)I"⟩
abbrev cX9_bridge : ByteArray := prog_11_method_16_code
def yX9_bridge : MethodName := ⟨RX9, "bridge", "(II)I"⟩
abbrev cX9_one_ : ByteArray := prog_11_method_17_code
def yX9_one_ : MethodName := ⟨RX9, "one", "(III)I"⟩
abbrev cX9_of : ByteArray := prog_11_method_18_code
def yX9_of : MethodName := ⟨RX9, "of", "(II)I"⟩
abbrev cX9_span : ByteArray := prog_11_method_19_code
def yX9_span : MethodName := ⟨RX9, "span", "(II)I"⟩
abbrev cX9_errand : ByteArray := prog_11_method_20_code
def yX9_errand : MethodName := ⟨RX9, "errand", "(II)I"⟩
abbrev cX9_cross : ByteArray := prog_11_method_21_code
def yX9_cross : MethodName := ⟨RX9, "cross", "(II)I"⟩
abbrev cX9_lose : ByteArray := prog_11_method_22_code
def yX9_lose : MethodName := ⟨RX9, "lose", "(IZ)I"⟩
abbrev cX9_isSwap : ByteArray := prog_11_method_23_code
def yX9_isSwap : MethodName := ⟨RX9, "isSwap", "(II)Z"⟩
abbrev cX9_goSwap : ByteArray := prog_11_method_24_code
def yX9_goSwap : MethodName := ⟨RX9, "goSwap", "(II)V"⟩
abbrev cX9_swap : ByteArray := prog_11_method_25_code
def yX9_swap : MethodName := ⟨RX9, "swap", "(II)I"⟩
abbrev cX9_row : ByteArray := prog_11_method_26_code
def yX9_row : MethodName := ⟨RX9, "row", "(III)I"⟩
abbrev cX9_feed : ByteArray := prog_11_method_27_code
def yX9_feed : MethodName := ⟨RX9, "feed", "(I)I"⟩
abbrev cX9_isAt : ByteArray := prog_11_method_28_code
def yX9_isAt : MethodName := ⟨RX9, "isAt", "(I)Z"⟩
abbrev cX9_takes : ByteArray := prog_11_method_29_code
def yX9_takes : MethodName := ⟨RX9, "takes", "(I)V"⟩
abbrev cX9_isDigit : ByteArray := prog_11_method_30_code
def yX9_isDigit : MethodName := ⟨RX9, "isDigit", "()Z"⟩
abbrev cX9_number : ByteArray := prog_11_method_31_code
def yX9_number : MethodName := ⟨RX9, "number", "()I"⟩
abbrev cX9_test : ByteArray := prog_11_method_32_code
def yX9_test : MethodName := ⟨RX9, "test", "()Z"⟩
abbrev cX9_factor : ByteArray := prog_11_method_33_code
def yX9_factor : MethodName := ⟨RX9, "factor", "()Z"⟩
abbrev cX9_both : ByteArray := prog_11_method_34_code
def yX9_both : MethodName := ⟨RX9, "both", "()Z"⟩
abbrev cX9_any : ByteArray := prog_11_method_35_code
def yX9_any : MethodName := ⟨RX9, "any", "()Z"⟩
abbrev cX9_clause : ByteArray := prog_11_method_36_code
def yX9_clause : MethodName := ⟨RX9, "clause", "()V"⟩
abbrev cX9_readAll : ByteArray := prog_11_method_37_code
def yX9_readAll : MethodName := ⟨RX9, "readAll", "()Z"⟩
abbrev cX9_readFor : ByteArray := prog_11_method_38_code
def yX9_readFor : MethodName := ⟨RX9, "readFor", "(II)V"⟩
abbrev cX9_city : ByteArray := prog_11_method_39_code
def yX9_city : MethodName := ⟨RX9, "city", "()I"⟩
abbrev cX9_leave : ByteArray := prog_11_method_40_code
def yX9_leave : MethodName := ⟨RX9, "leave", "(II)I"⟩
abbrev cX9_mayAnywhere : ByteArray := prog_11_method_41_code
def yX9_mayAnywhere : MethodName := ⟨RX9, "mayAnywhere", "(I)I"⟩
abbrev cX9_may : ByteArray := prog_11_method_42_code
def yX9_may : MethodName := ⟨RX9, "may", "(I)I"⟩
abbrev cX9_halfBy : ByteArray := prog_11_method_43_code
def yX9_halfBy : MethodName := ⟨RX9, "halfBy", "(II)I"⟩
abbrev cX9_crosses : ByteArray := prog_11_method_44_code
def yX9_crosses : MethodName := ⟨RX9, "crosses", "(II)V"⟩
abbrev cX9_isTruly : ByteArray := prog_11_method_45_code
def yX9_isTruly : MethodName := ⟨RX9, "isTruly", "(II)Z"⟩
abbrev cX9_arrive : ByteArray := prog_11_method_46_code
def yX9_arrive : MethodName := ⟨RX9, "arrive", "(IIII)V"⟩
abbrev cX9_explore : ByteArray := prog_11_method_47_code
def yX9_explore : MethodName := ⟨RX9, "explore", "(I)V"⟩
abbrev cX9_longTo : ByteArray := prog_11_method_48_code
def yX9_longTo : MethodName := ⟨RX9, "longTo", "(II)I"⟩
abbrev cX9_reach : ByteArray := prog_11_method_49_code
def yX9_reach : MethodName := ⟨RX9, "reach", "(I)I"⟩
abbrev cX9_hour : ByteArray := prog_11_method_50_code
def yX9_hour : MethodName := ⟨RX9, "hour", "()V"⟩
abbrev cX9_hours : ByteArray := prog_11_method_51_code
def yX9_hours : MethodName := ⟨RX9, "hours", "(I)V"⟩
abbrev cX9_isDone : ByteArray := prog_11_method_52_code
def yX9_isDone : MethodName := ⟨RX9, "isDone", "(I)Z"⟩
abbrev cX9_dones : ByteArray := prog_11_method_53_code
def yX9_dones : MethodName := ⟨RX9, "dones", "()I"⟩
abbrev cX9_halves : ByteArray := prog_11_method_54_code
def yX9_halves : MethodName := ⟨RX9, "halves", "()I"⟩
abbrev cX9_done : ByteArray := prog_11_method_55_code
def yX9_done : MethodName := ⟨RX9, "done", "(I)I"⟩
abbrev cX9_told : ByteArray := prog_11_method_56_code
def yX9_told : MethodName := ⟨RX9, "told", "(I)I"⟩
abbrev cX9_pass : ByteArray := prog_11_method_57_code
def yX9_pass : MethodName := ⟨RX9, "pass", "(I)I"⟩
abbrev cX9_on : ByteArray := prog_11_method_58_code
def yX9_on : MethodName := ⟨RX9, "on", "(II)I"⟩
abbrev cX9_way : ByteArray := prog_11_method_59_code
def yX9_way : MethodName := ⟨RX9, "way", "(III)I"⟩
abbrev cX9_late : ByteArray := prog_11_method_60_code
def yX9_late : MethodName := ⟨RX9, "late", "(I)I"⟩
abbrev cX9_sisters : ByteArray := prog_11_method_61_code
def yX9_sisters : MethodName := ⟨RX9, "sisters", "(II)I"⟩
abbrev cX9_see : ByteArray := prog_11_method_62_code
def yX9_see : MethodName := ⟨RX9, "see", "(III)I"⟩
abbrev cX9_isAllSeen : ByteArray := prog_11_method_63_code
def yX9_isAllSeen : MethodName := ⟨RX9, "isAllSeen", "(I)Z"⟩
abbrev cX9_fits : ByteArray := prog_11_method_64_code
def yX9_fits : MethodName := ⟨RX9, "fits", "(III)I"⟩
abbrev cX9_from : ByteArray := prog_11_method_65_code
def yX9_from : MethodName := ⟨RX9, "from", "(I)I"⟩
abbrev cX9_can : ByteArray := prog_11_method_66_code
def yX9_can : MethodName := ⟨RX9, "can", "(II)I"⟩
abbrev cX9_fraction : ByteArray := prog_11_method_67_code
def yX9_fraction : MethodName := ⟨RX9, "fraction", "(JJI)J"⟩
abbrev cX9_odds : ByteArray := prog_11_method_68_code
def yX9_odds : MethodName := ⟨RX9, "odds", "(III)J"⟩
abbrev cX9_mean : ByteArray := prog_11_method_69_code
def yX9_mean : MethodName := ⟨RX9, "mean", "(I)J"⟩
abbrev cX9_plan : ByteArray := prog_11_method_70_code
def yX9_plan : MethodName := ⟨RX9, "plan", "(II)I"⟩
abbrev cX9_ends : ByteArray := prog_11_method_71_code
def yX9_ends : MethodName := ⟨RX9, "ends", "(I)I"⟩
abbrev cX9_book : ByteArray := prog_11_method_72_code
def yX9_book : MethodName := ⟨RX9, "book", "(II)I"⟩
abbrev cX9_looked : ByteArray := prog_11_method_73_code
def yX9_looked : MethodName := ⟨RX9, "looked", "()I"⟩
abbrev cX9_body : ByteArray := prog_11_method_74_code
def yX9_body : MethodName := ⟨RX9, "body", "(I)I"⟩
abbrev cX9_all : ByteArray := prog_11_method_75_code
def yX9_all : MethodName := ⟨RX9, "all", "(III)I"⟩
abbrev cX9_byKind : ByteArray := prog_11_method_76_code
def yX9_byKind : MethodName := ⟨RX9, "byKind", "(IIII)I"⟩
abbrev cX9_act : ByteArray := prog_11_method_77_code
def yX9_act : MethodName := ⟨RX9, "act", "(III)I"⟩
abbrev cX9_trace : ByteArray := prog_11_method_78_code
def yX9_trace : MethodName := ⟨RX9, "trace", "(I)I"⟩
abbrev cX9_taken : ByteArray := prog_11_method_79_code
def yX9_taken : MethodName := ⟨RX9, "taken", "(II)I"⟩
abbrev cX9_count : ByteArray := prog_11_method_80_code
def yX9_count : MethodName := ⟨RX9, "count", "(I)I"⟩
abbrev cX9_isTape : ByteArray := prog_11_method_81_code
def yX9_isTape : MethodName := ⟨RX9, "isTape", "(I)Z"⟩
abbrev cX9_tape : ByteArray := prog_11_method_82_code
def yX9_tape : MethodName := ⟨RX9, "tape", "(III)I"⟩
abbrev cX9_item : ByteArray := prog_11_method_83_code
def yX9_item : MethodName := ⟨RX9, "item", "(IIJ)I"⟩
abbrev cX9_read : ByteArray := prog_11_method_84_code
def yX9_read : MethodName := ⟨RX9, "read", "(II)J"⟩
abbrev cX9_shift : ByteArray := prog_11_method_85_code
def yX9_shift : MethodName := ⟨RX9, "shift", "(IIIII)I"⟩
abbrev cX9_judge : ByteArray := prog_11_method_86_code
def yX9_judge : MethodName := ⟨RX9, "judge", "(II)I"⟩
def RJ11 : String := "java/lang/Character"
def TJ11 : u_T := fun k => match k with
  | _ => ("", "", "", false)
def tyJ11 : Nat → FieldType := fun k => match k with
  | _ => .int
theorem tyJ11_ok : ∀ k, k < 0 → parseFieldDescriptor (TJ11 k).2.2.1 = some (tyJ11 k) := by decide +kernel
abbrev cJ11_isValidCodePoint_9a6ad : ByteArray := prog_12_method_11_code
def yJ11_isValidCodePoint_9a6ad : MethodName := ⟨RJ11, "isValidCodePoint", "(I)Z"⟩
abbrev cJ11_highSurrogate_5068e : ByteArray := prog_12_method_28_code
def yJ11_highSurrogate_5068e : MethodName := ⟨RJ11, "highSurrogate", "(I)C"⟩
abbrev cJ11_lowSurrogate_5068e : ByteArray := prog_12_method_29_code
def yJ11_lowSurrogate_5068e : MethodName := ⟨RJ11, "lowSurrogate", "(I)C"⟩
def RJ6 : String := "java/lang/Integer"
def TJ6 : u_T := fun k => match k with
  | _ => ("", "", "", false)
def tyJ6 : Nat → FieldType := fun k => match k with
  | _ => .int
theorem tyJ6_ok : ∀ k, k < 0 → parseFieldDescriptor (TJ6 k).2.2.1 = some (tyJ6 k) := by decide +kernel
abbrev cJ6_bitCount_0f7a4 : ByteArray := prog_13_method_49_code
def yJ6_bitCount_0f7a4 : MethodName := ⟨RJ6, "bitCount", "(I)I"⟩
def RJ9 : String := "java/lang/Math"
def TJ9 : u_T := fun k => match k with
  | _ => ("", "", "", false)
def tyJ9 : Nat → FieldType := fun k => match k with
  | _ => .int
theorem tyJ9_ok : ∀ k, k < 0 → parseFieldDescriptor (TJ9 k).2.2.1 = some (tyJ9 k) := by decide +kernel
abbrev cJ9_max_7cf53 : ByteArray := prog_14_method_65_code
def yJ9_max_7cf53 : MethodName := ⟨RJ9, "max", "(II)I"⟩
abbrev cJ9_min_7cf53 : ByteArray := prog_14_method_69_code
def yJ9_min_7cf53 : MethodName := ⟨RJ9, "min", "(II)I"⟩
def RJ0 : String := "java/lang/String"
def TJ0 : u_T := fun k => match k with
  | _ => ("", "", "", false)
def tyJ0 : Nat → FieldType := fun k => match k with
  | _ => .int
theorem tyJ0_ok : ∀ k, k < 0 → parseFieldDescriptor (TJ0 k).2.2.1 = some (tyJ0 k) := by decide +kernel
abbrev cJ0_length_8abf5 : ByteArray := prog_15_method_54_code
def yJ0_length_8abf5 : MethodName := ⟨RJ0, "length", "()I"⟩
abbrev cJ0_charAt_5068e : ByteArray := prog_15_method_56_code
def yJ0_charAt_5068e : MethodName := ⟨RJ0, "charAt", "(I)C"⟩
abbrev cJ0_indexOf_0f7a4 : ByteArray := prog_15_method_79_code
def yJ0_indexOf_0f7a4 : MethodName := ⟨RJ0, "indexOf", "(I)I"⟩
abbrev cJ0_indexOf_7cf53 : ByteArray := prog_15_method_80_code
def yJ0_indexOf_7cf53 : MethodName := ⟨RJ0, "indexOf", "(II)I"⟩
abbrev cJ0_coder_7d493 : ByteArray := prog_15_method_152_code
def yJ0_coder_7d493 : MethodName := ⟨RJ0, "coder", "()B"⟩
abbrev cJ0_isLatin1_aae02 : ByteArray := prog_15_method_154_code
def yJ0_isLatin1_aae02 : MethodName := ⟨RJ0, "isLatin1", "()Z"⟩
abbrev cJ0_checkIndex_df160 : ByteArray := prog_15_method_155_code
def yJ0_checkIndex_df160 : MethodName := ⟨RJ0, "checkIndex", "(II)V"⟩
abbrev cJ0_checkBoundsBeginEnd_23922 : ByteArray := prog_15_method_158_code
def yJ0_checkBoundsBeginEnd_23922 : MethodName := ⟨RJ0, "checkBoundsBeginEnd", "(III)V"⟩
def RJ1 : String := "java/lang/StringLatin1"
def TJ1 : u_T := fun k => match k with
  | _ => ("", "", "", false)
def tyJ1 : Nat → FieldType := fun k => match k with
  | _ => .int
theorem tyJ1_ok : ∀ k, k < 0 → parseFieldDescriptor (TJ1 k).2.2.1 = some (tyJ1 k) := by decide +kernel
abbrev cJ1_charAt_3b067 : ByteArray := prog_16_method_2_code
def yJ1_charAt_3b067 : MethodName := ⟨RJ1, "charAt", "([BI)C"⟩
abbrev cJ1_canEncode_9a6ad : ByteArray := prog_16_method_4_code
def yJ1_canEncode_9a6ad : MethodName := ⟨RJ1, "canEncode", "(I)Z"⟩
abbrev cJ1_indexOf_4cfef : ByteArray := prog_16_method_22_code
def yJ1_indexOf_4cfef : MethodName := ⟨RJ1, "indexOf", "([BIII)I"⟩
abbrev cJ1_indexOfChar_4cfef : ByteArray := prog_16_method_23_code
def yJ1_indexOfChar_4cfef : MethodName := ⟨RJ1, "indexOfChar", "([BIII)I"⟩
def RJ2 : String := "java/lang/StringUTF16"
def TJ2 : u_T := fun k => match k with
  | _ => ("", "", "", false)
def tyJ2 : Nat → FieldType := fun k => match k with
  | _ => .int
theorem tyJ2_ok : ∀ k, k < 0 → parseFieldDescriptor (TJ2 k).2.2.1 = some (tyJ2 k) := by decide +kernel
abbrev cJ2_getChar_3b067 : ByteArray := prog_17_method_5_code
def yJ2_getChar_3b067 : MethodName := ⟨RJ2, "getChar", "([BI)C"⟩
abbrev cJ2_length_9d52b : ByteArray := prog_17_method_6_code
def yJ2_length_9d52b : MethodName := ⟨RJ2, "length", "([B)I"⟩
abbrev cJ2_indexOf_4cfef : ByteArray := prog_17_method_40_code
def yJ2_indexOf_4cfef : MethodName := ⟨RJ2, "indexOf", "([BIII)I"⟩
abbrev cJ2_indexOfChar_4cfef : ByteArray := prog_17_method_47_code
def yJ2_indexOfChar_4cfef : MethodName := ⟨RJ2, "indexOfChar", "([BIII)I"⟩
abbrev cJ2_indexOfCharUnsafe_4cfef : ByteArray := prog_17_method_48_code
def yJ2_indexOfCharUnsafe_4cfef : MethodName := ⟨RJ2, "indexOfCharUnsafe", "([BIII)I"⟩
abbrev cJ2_indexOfSupplementary_4cfef : ByteArray := prog_17_method_49_code
def yJ2_indexOfSupplementary_4cfef : MethodName := ⟨RJ2, "indexOfSupplementary", "([BIII)I"⟩
abbrev cJ2_charAt_3b067 : ByteArray := prog_17_method_83_code
def yJ2_charAt_3b067 : MethodName := ⟨RJ2, "charAt", "([BI)C"⟩
abbrev cJ2_checkIndex_2214a : ByteArray := prog_17_method_91_code
def yJ2_checkIndex_2214a : MethodName := ⟨RJ2, "checkIndex", "(I[B)V"⟩
abbrev cJ2_checkBoundsBeginEnd_d044e : ByteArray := prog_17_method_93_code
def yJ2_checkBoundsBeginEnd_d044e : MethodName := ⟨RJ2, "checkBoundsBeginEnd", "(II[B)V"⟩
def RJ10 : String := "java/lang/System"
def TJ10 : u_T := fun k => match k with
  | _ => ("", "", "", false)
def tyJ10 : Nat → FieldType := fun k => match k with
  | _ => .int
theorem tyJ10_ok : ∀ k, k < 0 → parseFieldDescriptor (TJ10 k).2.2.1 = some (tyJ10 k) := by decide +kernel
def RJ7 : String := "java/util/Arrays"
def TJ7 : u_T := fun k => match k with
  | _ => ("", "", "", false)
def tyJ7 : Nat → FieldType := fun k => match k with
  | _ => .int
theorem tyJ7_ok : ∀ k, k < 0 → parseFieldDescriptor (TJ7 k).2.2.1 = some (tyJ7 k) := by decide +kernel
abbrev cJ7_fill_d0a16 : ByteArray := prog_19_method_101_code
def yJ7_fill_d0a16 : MethodName := ⟨RJ7, "fill", "([JJ)V"⟩
abbrev cJ7_fill_53178 : ByteArray := prog_19_method_103_code
def yJ7_fill_53178 : MethodName := ⟨RJ7, "fill", "([II)V"⟩
def RJ3 : String := "jdk/internal/util/Preconditions"
def TJ3 : u_T := fun k => match k with
  | _ => ("", "", "", false)
def tyJ3 : Nat → FieldType := fun k => match k with
  | _ => .int
theorem tyJ3_ok : ∀ k, k < 0 → parseFieldDescriptor (TJ3 k).2.2.1 = some (tyJ3 k) := by decide +kernel
abbrev cJ3_checkIndex_8e157 : ByteArray := prog_20_method_11_code
def yJ3_checkIndex_8e157 : MethodName := ⟨RJ3, "checkIndex", "(IILjava/util/function/BiFunction;)I"⟩
abbrev cJ3_checkFromToIndex_8c36e : ByteArray := prog_20_method_12_code
def yJ3_checkFromToIndex_8c36e : MethodName := ⟨RJ3, "checkFromToIndex", "(IIILjava/util/function/BiFunction;)I"⟩
def RL : String := "BridgePairsLaw"
abbrev cL_law : ByteArray := code
def yL_law : MethodName := ⟨RL, "law", "([I)Z"⟩
abbrev vwCl : List vw_C := [(RX0, TX0, 5), (RX1, TX1, 4), (RX2, TX2, 7), (RX3, TX3, 4), (RX4, TX4, 3), (RX5, TX5, 4), (RX6, TX6, 6), (RX7, TX7, 12), (RX8, TX8, 10), (RX9, TX9, 36)]
theorem inX0 : ∀ w ∈ wsX00, w ∈ lw_tbl := by decide +kernel
theorem inX1 : ∀ w ∈ wsX10, w ∈ lw_tbl := by decide +kernel
theorem inX2 : ∀ w ∈ wsX20, w ∈ lw_tbl := by decide +kernel
theorem inX3 : ∀ w ∈ wsX30, w ∈ lw_tbl := by decide +kernel
theorem inX4 : ∀ w ∈ wsX40, w ∈ lw_tbl := by decide +kernel
theorem inX5 : ∀ w ∈ wsX50, w ∈ lw_tbl := by decide +kernel
theorem inX6 : ∀ w ∈ wsX60, w ∈ lw_tbl := by decide +kernel
theorem inX7 : ∀ w ∈ wsX70, w ∈ lw_tbl := by decide +kernel
theorem inX8 : ∀ w ∈ wsX80, w ∈ lw_tbl := by decide +kernel
theorem inX9 : ∀ w ∈ wsX90, w ∈ lw_tbl := by decide +kernel
